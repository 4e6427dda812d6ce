section
-- ===== PART A: goes FIRST, ahead of the names: the tables' words, and 'selects' of the private methods out of them =====
/-- a private method of a class that the tables say can be made, by its rows of tables_1 -/
def lw_okq (q : MethodName × Nat) : Prop := (q.1.cls ≠ "java/lang/invoke/MethodHandle" ∧ q.1.cls ≠ "java/lang/invoke/VarHandle") ∧ Cond.instantiable q.1.cls q.2 ∈ tables_1 ∧ Cond.privateMethod q.1 ∈ tables_1 ∧ Cond.instanceMethod q.1 ∈ tables_1
theorem lw_p0 : lw_okq (⟨"TurfHeaps$Tape", "put", "(I)V"⟩, 7) := ⟨⟨by decide +kernel, by decide +kernel⟩, List.mem_of_getElem? (i := 27) (by decide +kernel), List.mem_of_getElem? (i := 403) (by decide +kernel), List.mem_of_getElem? (i := 404) (by decide +kernel)⟩
theorem lw_p1 : lw_okq (⟨"TurfHeaps$Tape", "readInto", "(LTurfHeaps$Moor;)Z"⟩, 7) := ⟨⟨by decide +kernel, by decide +kernel⟩, List.mem_of_getElem? (i := 27) (by decide +kernel), List.mem_of_getElem? (i := 415) (by decide +kernel), List.mem_of_getElem? (i := 416) (by decide +kernel)⟩
theorem lw_p2 : lw_okq (⟨"TurfHeaps$Moor", "clear", "()V"⟩, 13) := ⟨⟨by decide +kernel, by decide +kernel⟩, List.mem_of_getElem? (i := 59) (by decide +kernel), List.mem_of_getElem? (i := 419) (by decide +kernel), List.mem_of_getElem? (i := 420) (by decide +kernel)⟩
theorem lw_p3 : lw_okq (⟨"TurfHeaps$Tape", "nextToken", "()V"⟩, 7) := ⟨⟨by decide +kernel, by decide +kernel⟩, List.mem_of_getElem? (i := 27) (by decide +kernel), List.mem_of_getElem? (i := 423) (by decide +kernel), List.mem_of_getElem? (i := 424) (by decide +kernel)⟩
theorem lw_p4 : lw_okq (⟨"TurfHeaps$Tape", "readLine", "(LTurfHeaps$Moor;)V"⟩, 7) := ⟨⟨by decide +kernel, by decide +kernel⟩, List.mem_of_getElem? (i := 27) (by decide +kernel), List.mem_of_getElem? (i := 436) (by decide +kernel), List.mem_of_getElem? (i := 437) (by decide +kernel)⟩
theorem lw_p5 : lw_okq (⟨"TurfHeaps$Tape", "readFirst", "(LTurfHeaps$Moor;)V"⟩, 7) := ⟨⟨by decide +kernel, by decide +kernel⟩, List.mem_of_getElem? (i := 27) (by decide +kernel), List.mem_of_getElem? (i := 440) (by decide +kernel), List.mem_of_getElem? (i := 441) (by decide +kernel)⟩
theorem lw_p6 : lw_okq (⟨"TurfHeaps$Tape", "isWord", "(Ljava/lang/String;)Z"⟩, 7) := ⟨⟨by decide +kernel, by decide +kernel⟩, List.mem_of_getElem? (i := 27) (by decide +kernel), List.mem_of_getElem? (i := 445) (by decide +kernel), List.mem_of_getElem? (i := 446) (by decide +kernel)⟩
theorem lw_p7 : lw_okq (⟨"TurfHeaps$Tape", "expect", "(Z)V"⟩, 7) := ⟨⟨by decide +kernel, by decide +kernel⟩, List.mem_of_getElem? (i := 27) (by decide +kernel), List.mem_of_getElem? (i := 497) (by decide +kernel), List.mem_of_getElem? (i := 498) (by decide +kernel)⟩
theorem lw_p8 : lw_okq (⟨"TurfHeaps$Tape", "fail", "(I)V"⟩, 7) := ⟨⟨by decide +kernel, by decide +kernel⟩, List.mem_of_getElem? (i := 27) (by decide +kernel), List.mem_of_getElem? (i := 501) (by decide +kernel), List.mem_of_getElem? (i := 502) (by decide +kernel)⟩
theorem lw_p9 : lw_okq (⟨"TurfHeaps$Tape", "expectNumber", "(II)I"⟩, 7) := ⟨⟨by decide +kernel, by decide +kernel⟩, List.mem_of_getElem? (i := 27) (by decide +kernel), List.mem_of_getElem? (i := 506) (by decide +kernel), List.mem_of_getElem? (i := 507) (by decide +kernel)⟩
theorem lw_p10 : lw_okq (⟨"TurfHeaps$Tape", "number", "()I"⟩, 7) := ⟨⟨by decide +kernel, by decide +kernel⟩, List.mem_of_getElem? (i := 27) (by decide +kernel), List.mem_of_getElem? (i := 510) (by decide +kernel), List.mem_of_getElem? (i := 511) (by decide +kernel)⟩
theorem lw_p11 : lw_okq (⟨"TurfHeaps$Tape", "readHeap", "(LTurfHeaps$Moor;)V"⟩, 7) := ⟨⟨by decide +kernel, by decide +kernel⟩, List.mem_of_getElem? (i := 27) (by decide +kernel), List.mem_of_getElem? (i := 520) (by decide +kernel), List.mem_of_getElem? (i := 521) (by decide +kernel)⟩
theorem lw_p12 : lw_okq (⟨"TurfHeaps$Tape", "readCart", "(LTurfHeaps$Moor;)V"⟩, 7) := ⟨⟨by decide +kernel, by decide +kernel⟩, List.mem_of_getElem? (i := 27) (by decide +kernel), List.mem_of_getElem? (i := 526) (by decide +kernel), List.mem_of_getElem? (i := 527) (by decide +kernel)⟩
theorem lw_p13 : lw_okq (⟨"TurfHeaps$Moor", "become", "(LTurfHeaps$Moor;)V"⟩, 13) := ⟨⟨by decide +kernel, by decide +kernel⟩, List.mem_of_getElem? (i := 59) (by decide +kernel), List.mem_of_getElem? (i := 531) (by decide +kernel), List.mem_of_getElem? (i := 532) (by decide +kernel)⟩
theorem lw_p14 : lw_okq (⟨"TurfHeaps", "forget", "()V"⟩, 16) := ⟨⟨by decide +kernel, by decide +kernel⟩, List.mem_of_getElem? (i := 19) (by decide +kernel), List.mem_of_getElem? (i := 538) (by decide +kernel), List.mem_of_getElem? (i := 539) (by decide +kernel)⟩
theorem lw_p15 : lw_okq (⟨"TurfHeaps", "isTold", "(I)Z"⟩, 16) := ⟨⟨by decide +kernel, by decide +kernel⟩, List.mem_of_getElem? (i := 19) (by decide +kernel), List.mem_of_getElem? (i := 550) (by decide +kernel), List.mem_of_getElem? (i := 551) (by decide +kernel)⟩
def lw_privs_1 : List (MethodName × Nat) := [(⟨"TurfHeaps$Tape", "put", "(I)V"⟩, 7), (⟨"TurfHeaps$Tape", "readInto", "(LTurfHeaps$Moor;)Z"⟩, 7), (⟨"TurfHeaps$Moor", "clear", "()V"⟩, 13), (⟨"TurfHeaps$Tape", "nextToken", "()V"⟩, 7), (⟨"TurfHeaps$Tape", "readLine", "(LTurfHeaps$Moor;)V"⟩, 7), (⟨"TurfHeaps$Tape", "readFirst", "(LTurfHeaps$Moor;)V"⟩, 7), (⟨"TurfHeaps$Tape", "isWord", "(Ljava/lang/String;)Z"⟩, 7), (⟨"TurfHeaps$Tape", "expect", "(Z)V"⟩, 7), (⟨"TurfHeaps$Tape", "fail", "(I)V"⟩, 7), (⟨"TurfHeaps$Tape", "expectNumber", "(II)I"⟩, 7), (⟨"TurfHeaps$Tape", "number", "()I"⟩, 7), (⟨"TurfHeaps$Tape", "readHeap", "(LTurfHeaps$Moor;)V"⟩, 7), (⟨"TurfHeaps$Tape", "readCart", "(LTurfHeaps$Moor;)V"⟩, 7), (⟨"TurfHeaps$Moor", "become", "(LTurfHeaps$Moor;)V"⟩, 13), (⟨"TurfHeaps", "forget", "()V"⟩, 16), (⟨"TurfHeaps", "isTold", "(I)Z"⟩, 16)]
theorem lw_r1 : ∀ q ∈ lw_privs_1, lw_okq q := List.forall_mem_cons.mpr ⟨lw_p0, List.forall_mem_cons.mpr ⟨lw_p1, List.forall_mem_cons.mpr ⟨lw_p2, List.forall_mem_cons.mpr ⟨lw_p3, List.forall_mem_cons.mpr ⟨lw_p4, List.forall_mem_cons.mpr ⟨lw_p5, List.forall_mem_cons.mpr ⟨lw_p6, List.forall_mem_cons.mpr ⟨lw_p7, List.forall_mem_cons.mpr ⟨lw_p8, List.forall_mem_cons.mpr ⟨lw_p9, List.forall_mem_cons.mpr ⟨lw_p10, List.forall_mem_cons.mpr ⟨lw_p11, List.forall_mem_cons.mpr ⟨lw_p12, List.forall_mem_cons.mpr ⟨lw_p13, List.forall_mem_cons.mpr ⟨lw_p14, List.forall_mem_cons.mpr ⟨lw_p15, fun _ h => absurd h List.not_mem_nil⟩⟩⟩⟩⟩⟩⟩⟩⟩⟩⟩⟩⟩⟩⟩⟩
theorem lw_p16 : lw_okq (⟨"TurfHeaps", "isCart", "(I)Z"⟩, 16) := ⟨⟨by decide +kernel, by decide +kernel⟩, List.mem_of_getElem? (i := 19) (by decide +kernel), List.mem_of_getElem? (i := 558) (by decide +kernel), List.mem_of_getElem? (i := 559) (by decide +kernel)⟩
theorem lw_p17 : lw_okq (⟨"TurfHeaps", "isDay", "(I)Z"⟩, 16) := ⟨⟨by decide +kernel, by decide +kernel⟩, List.mem_of_getElem? (i := 19) (by decide +kernel), List.mem_of_getElem? (i := 569) (by decide +kernel), List.mem_of_getElem? (i := 570) (by decide +kernel)⟩
theorem lw_p18 : lw_okq (⟨"TurfHeaps", "noMoor", "()Z"⟩, 16) := ⟨⟨by decide +kernel, by decide +kernel⟩, List.mem_of_getElem? (i := 19) (by decide +kernel), List.mem_of_getElem? (i := 573) (by decide +kernel), List.mem_of_getElem? (i := 574) (by decide +kernel)⟩
theorem lw_p19 : lw_okq (⟨"TurfHeaps", "rowOfDay", "(I)LTurfHeaps$Row;"⟩, 16) := ⟨⟨by decide +kernel, by decide +kernel⟩, List.mem_of_getElem? (i := 19) (by decide +kernel), List.mem_of_getElem? (i := 577) (by decide +kernel), List.mem_of_getElem? (i := 578) (by decide +kernel)⟩
theorem lw_p20 : lw_okq (⟨"TurfHeaps$Season", "asTold", "(LTurfHeaps$Moor;)V"⟩, 9) := ⟨⟨by decide +kernel, by decide +kernel⟩, List.mem_of_getElem? (i := 140) (by decide +kernel), List.mem_of_getElem? (i := 581) (by decide +kernel), List.mem_of_getElem? (i := 582) (by decide +kernel)⟩
theorem lw_p21 : lw_okq (⟨"TurfHeaps$Season", "pass", "(LTurfHeaps$Moor;)V"⟩, 9) := ⟨⟨by decide +kernel, by decide +kernel⟩, List.mem_of_getElem? (i := 140) (by decide +kernel), List.mem_of_getElem? (i := 585) (by decide +kernel), List.mem_of_getElem? (i := 586) (by decide +kernel)⟩
theorem lw_p22 : lw_okq (⟨"TurfHeaps$Season", "begin", "(LTurfHeaps$Moor;)V"⟩, 9) := ⟨⟨by decide +kernel, by decide +kernel⟩, List.mem_of_getElem? (i := 140) (by decide +kernel), List.mem_of_getElem? (i := 589) (by decide +kernel), List.mem_of_getElem? (i := 590) (by decide +kernel)⟩
theorem lw_p23 : lw_okq (⟨"TurfHeaps$Row", "clear", "()V"⟩, 5) := ⟨⟨by decide +kernel, by decide +kernel⟩, List.mem_of_getElem? (i := 147) (by decide +kernel), List.mem_of_getElem? (i := 593) (by decide +kernel), List.mem_of_getElem? (i := 594) (by decide +kernel)⟩
theorem lw_p24 : lw_okq (⟨"TurfHeaps$Row", "lay", "(I)V"⟩, 5) := ⟨⟨by decide +kernel, by decide +kernel⟩, List.mem_of_getElem? (i := 147) (by decide +kernel), List.mem_of_getElem? (i := 597) (by decide +kernel), List.mem_of_getElem? (i := 598) (by decide +kernel)⟩
theorem lw_p25 : lw_okq (⟨"TurfHeaps$Season", "arrive", "(LTurfHeaps$Moor;I)V"⟩, 9) := ⟨⟨by decide +kernel, by decide +kernel⟩, List.mem_of_getElem? (i := 140) (by decide +kernel), List.mem_of_getElem? (i := 602) (by decide +kernel), List.mem_of_getElem? (i := 603) (by decide +kernel)⟩
theorem lw_p26 : lw_okq (⟨"TurfHeaps$Season", "at", "(I)LTurfHeaps$Row;"⟩, 9) := ⟨⟨by decide +kernel, by decide +kernel⟩, List.mem_of_getElem? (i := 140) (by decide +kernel), List.mem_of_getElem? (i := 606) (by decide +kernel), List.mem_of_getElem? (i := 607) (by decide +kernel)⟩
theorem lw_p27 : lw_okq (⟨"TurfHeaps$Row", "dropHighest", "()I"⟩, 5) := ⟨⟨by decide +kernel, by decide +kernel⟩, List.mem_of_getElem? (i := 147) (by decide +kernel), List.mem_of_getElem? (i := 610) (by decide +kernel), List.mem_of_getElem? (i := 611) (by decide +kernel)⟩
theorem lw_p28 : lw_okq (⟨"TurfHeaps$Season", "next", "(LTurfHeaps$Moor;I)V"⟩, 9) := ⟨⟨by decide +kernel, by decide +kernel⟩, List.mem_of_getElem? (i := 140) (by decide +kernel), List.mem_of_getElem? (i := 614) (by decide +kernel), List.mem_of_getElem? (i := 615) (by decide +kernel)⟩
theorem lw_p29 : lw_okq (⟨"TurfHeaps$Row", "become", "(LTurfHeaps$Row;)V"⟩, 5) := ⟨⟨by decide +kernel, by decide +kernel⟩, List.mem_of_getElem? (i := 147) (by decide +kernel), List.mem_of_getElem? (i := 618) (by decide +kernel), List.mem_of_getElem? (i := 619) (by decide +kernel)⟩
theorem lw_p30 : lw_okq (⟨"TurfHeaps$Row", "step", "(I)V"⟩, 5) := ⟨⟨by decide +kernel, by decide +kernel⟩, List.mem_of_getElem? (i := 147) (by decide +kernel), List.mem_of_getElem? (i := 622) (by decide +kernel), List.mem_of_getElem? (i := 623) (by decide +kernel)⟩
theorem lw_p31 : lw_okq (⟨"TurfHeaps$Row", "lower", "(I)I"⟩, 5) := ⟨⟨by decide +kernel, by decide +kernel⟩, List.mem_of_getElem? (i := 147) (by decide +kernel), List.mem_of_getElem? (i := 627) (by decide +kernel), List.mem_of_getElem? (i := 628) (by decide +kernel)⟩
def lw_privs_2 : List (MethodName × Nat) := [(⟨"TurfHeaps", "isCart", "(I)Z"⟩, 16), (⟨"TurfHeaps", "isDay", "(I)Z"⟩, 16), (⟨"TurfHeaps", "noMoor", "()Z"⟩, 16), (⟨"TurfHeaps", "rowOfDay", "(I)LTurfHeaps$Row;"⟩, 16), (⟨"TurfHeaps$Season", "asTold", "(LTurfHeaps$Moor;)V"⟩, 9), (⟨"TurfHeaps$Season", "pass", "(LTurfHeaps$Moor;)V"⟩, 9), (⟨"TurfHeaps$Season", "begin", "(LTurfHeaps$Moor;)V"⟩, 9), (⟨"TurfHeaps$Row", "clear", "()V"⟩, 5), (⟨"TurfHeaps$Row", "lay", "(I)V"⟩, 5), (⟨"TurfHeaps$Season", "arrive", "(LTurfHeaps$Moor;I)V"⟩, 9), (⟨"TurfHeaps$Season", "at", "(I)LTurfHeaps$Row;"⟩, 9), (⟨"TurfHeaps$Row", "dropHighest", "()I"⟩, 5), (⟨"TurfHeaps$Season", "next", "(LTurfHeaps$Moor;I)V"⟩, 9), (⟨"TurfHeaps$Row", "become", "(LTurfHeaps$Row;)V"⟩, 5), (⟨"TurfHeaps$Row", "step", "(I)V"⟩, 5), (⟨"TurfHeaps$Row", "lower", "(I)I"⟩, 5)]
theorem lw_r2 : ∀ q ∈ lw_privs_2, lw_okq q := List.forall_mem_cons.mpr ⟨lw_p16, List.forall_mem_cons.mpr ⟨lw_p17, List.forall_mem_cons.mpr ⟨lw_p18, List.forall_mem_cons.mpr ⟨lw_p19, List.forall_mem_cons.mpr ⟨lw_p20, List.forall_mem_cons.mpr ⟨lw_p21, List.forall_mem_cons.mpr ⟨lw_p22, List.forall_mem_cons.mpr ⟨lw_p23, List.forall_mem_cons.mpr ⟨lw_p24, List.forall_mem_cons.mpr ⟨lw_p25, List.forall_mem_cons.mpr ⟨lw_p26, List.forall_mem_cons.mpr ⟨lw_p27, List.forall_mem_cons.mpr ⟨lw_p28, List.forall_mem_cons.mpr ⟨lw_p29, List.forall_mem_cons.mpr ⟨lw_p30, List.forall_mem_cons.mpr ⟨lw_p31, fun _ h => absurd h List.not_mem_nil⟩⟩⟩⟩⟩⟩⟩⟩⟩⟩⟩⟩⟩⟩⟩⟩
theorem lw_p32 : lw_okq (⟨"TurfHeaps$Row", "heapAt", "(I)I"⟩, 5) := ⟨⟨by decide +kernel, by decide +kernel⟩, List.mem_of_getElem? (i := 147) (by decide +kernel), List.mem_of_getElem? (i := 640) (by decide +kernel), List.mem_of_getElem? (i := 641) (by decide +kernel)⟩
theorem lw_p33 : lw_okq (⟨"TurfHeaps$Row", "heapsOf", "(I)I"⟩, 5) := ⟨⟨by decide +kernel, by decide +kernel⟩, List.mem_of_getElem? (i := 147) (by decide +kernel), List.mem_of_getElem? (i := 652) (by decide +kernel), List.mem_of_getElem? (i := 653) (by decide +kernel)⟩
theorem lw_p34 : lw_okq (⟨"TurfHeaps$Row", "highest", "()I"⟩, 5) := ⟨⟨by decide +kernel, by decide +kernel⟩, List.mem_of_getElem? (i := 147) (by decide +kernel), List.mem_of_getElem? (i := 664) (by decide +kernel), List.mem_of_getElem? (i := 665) (by decide +kernel)⟩
theorem lw_p35 : lw_okq (⟨"TurfHeaps$Row", "lowest", "()I"⟩, 5) := ⟨⟨by decide +kernel, by decide +kernel⟩, List.mem_of_getElem? (i := 147) (by decide +kernel), List.mem_of_getElem? (i := 668) (by decide +kernel), List.mem_of_getElem? (i := 669) (by decide +kernel)⟩
theorem lw_p36 : lw_okq (⟨"TurfHeaps$Row", "oddHeaps", "()I"⟩, 5) := ⟨⟨by decide +kernel, by decide +kernel⟩, List.mem_of_getElem? (i := 147) (by decide +kernel), List.mem_of_getElem? (i := 676) (by decide +kernel), List.mem_of_getElem? (i := 677) (by decide +kernel)⟩
theorem lw_p37 : lw_okq (⟨"TurfHeaps", "isDayAheadOfLast", "(I)Z"⟩, 16) := ⟨⟨by decide +kernel, by decide +kernel⟩, List.mem_of_getElem? (i := 19) (by decide +kernel), List.mem_of_getElem? (i := 684) (by decide +kernel), List.mem_of_getElem? (i := 685) (by decide +kernel)⟩
theorem lw_p38 : lw_okq (⟨"TurfHeaps$Row", "takenBy", "(I)I"⟩, 5) := ⟨⟨by decide +kernel, by decide +kernel⟩, List.mem_of_getElem? (i := 147) (by decide +kernel), List.mem_of_getElem? (i := 688) (by decide +kernel), List.mem_of_getElem? (i := 689) (by decide +kernel)⟩
theorem lw_p39 : lw_okq (⟨"TurfHeaps$Row", "touched", "(II)I"⟩, 5) := ⟨⟨by decide +kernel, by decide +kernel⟩, List.mem_of_getElem? (i := 147) (by decide +kernel), List.mem_of_getElem? (i := 692) (by decide +kernel), List.mem_of_getElem? (i := 693) (by decide +kernel)⟩
theorem lw_p40 : lw_okq (⟨"TurfHeaps$Row", "goneBy", "(I)I"⟩, 5) := ⟨⟨by decide +kernel, by decide +kernel⟩, List.mem_of_getElem? (i := 147) (by decide +kernel), List.mem_of_getElem? (i := 700) (by decide +kernel), List.mem_of_getElem? (i := 701) (by decide +kernel)⟩
theorem lw_p41 : lw_okq (⟨"TurfHeaps", "firstLike", "(I)I"⟩, 16) := ⟨⟨by decide +kernel, by decide +kernel⟩, List.mem_of_getElem? (i := 19) (by decide +kernel), List.mem_of_getElem? (i := 719) (by decide +kernel), List.mem_of_getElem? (i := 720) (by decide +kernel)⟩
theorem lw_p42 : lw_okq (⟨"TurfHeaps$Row", "alike", "(LTurfHeaps$Row;)Z"⟩, 5) := ⟨⟨by decide +kernel, by decide +kernel⟩, List.mem_of_getElem? (i := 147) (by decide +kernel), List.mem_of_getElem? (i := 723) (by decide +kernel), List.mem_of_getElem? (i := 724) (by decide +kernel)⟩
theorem lw_p43 : lw_okq (⟨"TurfHeaps$Row", "isStair", "()Z"⟩, 5) := ⟨⟨by decide +kernel, by decide +kernel⟩, List.mem_of_getElem? (i := 147) (by decide +kernel), List.mem_of_getElem? (i := 739) (by decide +kernel), List.mem_of_getElem? (i := 740) (by decide +kernel)⟩
theorem lw_p44 : lw_okq (⟨"TurfHeaps$Row", "squareSide", "()I"⟩, 5) := ⟨⟨by decide +kernel, by decide +kernel⟩, List.mem_of_getElem? (i := 147) (by decide +kernel), List.mem_of_getElem? (i := 754) (by decide +kernel), List.mem_of_getElem? (i := 755) (by decide +kernel)⟩
theorem lw_p45 : lw_okq (⟨"TurfHeaps$Row", "heapsFrom", "(I)I"⟩, 5) := ⟨⟨by decide +kernel, by decide +kernel⟩, List.mem_of_getElem? (i := 147) (by decide +kernel), List.mem_of_getElem? (i := 758) (by decide +kernel), List.mem_of_getElem? (i := 759) (by decide +kernel)⟩
theorem lw_p46 : lw_okq (⟨"TurfHeaps$Row", "sameTurnedOver", "()Z"⟩, 5) := ⟨⟨by decide +kernel, by decide +kernel⟩, List.mem_of_getElem? (i := 147) (by decide +kernel), List.mem_of_getElem? (i := 771) (by decide +kernel), List.mem_of_getElem? (i := 772) (by decide +kernel)⟩
theorem lw_p47 : lw_okq (⟨"TurfHeaps$Row", "standsTo", "(LTurfHeaps$Row;)I"⟩, 5) := ⟨⟨by decide +kernel, by decide +kernel⟩, List.mem_of_getElem? (i := 147) (by decide +kernel), List.mem_of_getElem? (i := 781) (by decide +kernel), List.mem_of_getElem? (i := 782) (by decide +kernel)⟩
def lw_privs_3 : List (MethodName × Nat) := [(⟨"TurfHeaps$Row", "heapAt", "(I)I"⟩, 5), (⟨"TurfHeaps$Row", "heapsOf", "(I)I"⟩, 5), (⟨"TurfHeaps$Row", "highest", "()I"⟩, 5), (⟨"TurfHeaps$Row", "lowest", "()I"⟩, 5), (⟨"TurfHeaps$Row", "oddHeaps", "()I"⟩, 5), (⟨"TurfHeaps", "isDayAheadOfLast", "(I)Z"⟩, 16), (⟨"TurfHeaps$Row", "takenBy", "(I)I"⟩, 5), (⟨"TurfHeaps$Row", "touched", "(II)I"⟩, 5), (⟨"TurfHeaps$Row", "goneBy", "(I)I"⟩, 5), (⟨"TurfHeaps", "firstLike", "(I)I"⟩, 16), (⟨"TurfHeaps$Row", "alike", "(LTurfHeaps$Row;)Z"⟩, 5), (⟨"TurfHeaps$Row", "isStair", "()Z"⟩, 5), (⟨"TurfHeaps$Row", "squareSide", "()I"⟩, 5), (⟨"TurfHeaps$Row", "heapsFrom", "(I)I"⟩, 5), (⟨"TurfHeaps$Row", "sameTurnedOver", "()Z"⟩, 5), (⟨"TurfHeaps$Row", "standsTo", "(LTurfHeaps$Row;)I"⟩, 5)]
theorem lw_r3 : ∀ q ∈ lw_privs_3, lw_okq q := List.forall_mem_cons.mpr ⟨lw_p32, List.forall_mem_cons.mpr ⟨lw_p33, List.forall_mem_cons.mpr ⟨lw_p34, List.forall_mem_cons.mpr ⟨lw_p35, List.forall_mem_cons.mpr ⟨lw_p36, List.forall_mem_cons.mpr ⟨lw_p37, List.forall_mem_cons.mpr ⟨lw_p38, List.forall_mem_cons.mpr ⟨lw_p39, List.forall_mem_cons.mpr ⟨lw_p40, List.forall_mem_cons.mpr ⟨lw_p41, List.forall_mem_cons.mpr ⟨lw_p42, List.forall_mem_cons.mpr ⟨lw_p43, List.forall_mem_cons.mpr ⟨lw_p44, List.forall_mem_cons.mpr ⟨lw_p45, List.forall_mem_cons.mpr ⟨lw_p46, List.forall_mem_cons.mpr ⟨lw_p47, fun _ h => absurd h List.not_mem_nil⟩⟩⟩⟩⟩⟩⟩⟩⟩⟩⟩⟩⟩⟩⟩⟩
theorem lw_p48 : lw_okq (⟨"TurfHeaps", "roundOf", "(I)LTurfHeaps$Round;"⟩, 16) := ⟨⟨by decide +kernel, by decide +kernel⟩, List.mem_of_getElem? (i := 19) (by decide +kernel), List.mem_of_getElem? (i := 790) (by decide +kernel), List.mem_of_getElem? (i := 791) (by decide +kernel)⟩
theorem lw_p49 : lw_okq (⟨"TurfHeaps$Round", "follow", "(LTurfHeaps$Row;I)V"⟩, 6) := ⟨⟨by decide +kernel, by decide +kernel⟩, List.mem_of_getElem? (i := 216) (by decide +kernel), List.mem_of_getElem? (i := 794) (by decide +kernel), List.mem_of_getElem? (i := 795) (by decide +kernel)⟩
theorem lw_p50 : lw_okq (⟨"TurfHeaps$Round", "turnFrom", "(LTurfHeaps$Row;I)I"⟩, 6) := ⟨⟨by decide +kernel, by decide +kernel⟩, List.mem_of_getElem? (i := 216) (by decide +kernel), List.mem_of_getElem? (i := 798) (by decide +kernel), List.mem_of_getElem? (i := 799) (by decide +kernel)⟩
theorem lw_p51 : lw_okq (⟨"TurfHeaps$Round", "stepsAheadOfRing", "(LTurfHeaps$Row;I)I"⟩, 6) := ⟨⟨by decide +kernel, by decide +kernel⟩, List.mem_of_getElem? (i := 216) (by decide +kernel), List.mem_of_getElem? (i := 805) (by decide +kernel), List.mem_of_getElem? (i := 806) (by decide +kernel)⟩
theorem lw_p52 : lw_okq (⟨"TurfHeaps$Round", "lookForStair", "(I)V"⟩, 6) := ⟨⟨by decide +kernel, by decide +kernel⟩, List.mem_of_getElem? (i := 216) (by decide +kernel), List.mem_of_getElem? (i := 809) (by decide +kernel), List.mem_of_getElem? (i := 810) (by decide +kernel)⟩
theorem lw_p53 : lw_okq (⟨"TurfHeaps", "isOfAll", "(I)Z"⟩, 16) := ⟨⟨by decide +kernel, by decide +kernel⟩, List.mem_of_getElem? (i := 19) (by decide +kernel), List.mem_of_getElem? (i := 837) (by decide +kernel), List.mem_of_getElem? (i := 838) (by decide +kernel)⟩
theorem lw_p54 : lw_okq (⟨"TurfHeaps", "everyOf", "(I)LTurfHeaps$Every;"⟩, 16) := ⟨⟨by decide +kernel, by decide +kernel⟩, List.mem_of_getElem? (i := 19) (by decide +kernel), List.mem_of_getElem? (i := 841) (by decide +kernel), List.mem_of_getElem? (i := 842) (by decide +kernel)⟩
theorem lw_p55 : lw_okq (⟨"TurfHeaps$Every", "workOut", "(II)V"⟩, 15) := ⟨⟨by decide +kernel, by decide +kernel⟩, List.mem_of_getElem? (i := 247) (by decide +kernel), List.mem_of_getElem? (i := 845) (by decide +kernel), List.mem_of_getElem? (i := 846) (by decide +kernel)⟩
theorem lw_p56 : lw_okq (⟨"TurfHeaps$Every", "listRows", "(I)V"⟩, 15) := ⟨⟨by decide +kernel, by decide +kernel⟩, List.mem_of_getElem? (i := 247) (by decide +kernel), List.mem_of_getElem? (i := 849) (by decide +kernel), List.mem_of_getElem? (i := 850) (by decide +kernel)⟩
theorem lw_p57 : lw_okq (⟨"TurfHeaps$Every", "codeOfParts", "(I)J"⟩, 15) := ⟨⟨by decide +kernel, by decide +kernel⟩, List.mem_of_getElem? (i := 247) (by decide +kernel), List.mem_of_getElem? (i := 853) (by decide +kernel), List.mem_of_getElem? (i := 854) (by decide +kernel)⟩
theorem lw_p58 : lw_okq (⟨"TurfHeaps$Every", "nextParts", "(I)I"⟩, 15) := ⟨⟨by decide +kernel, by decide +kernel⟩, List.mem_of_getElem? (i := 247) (by decide +kernel), List.mem_of_getElem? (i := 857) (by decide +kernel), List.mem_of_getElem? (i := 858) (by decide +kernel)⟩
theorem lw_p59 : lw_okq (⟨"TurfHeaps$Every", "linkRows", "(I)V"⟩, 15) := ⟨⟨by decide +kernel, by decide +kernel⟩, List.mem_of_getElem? (i := 247) (by decide +kernel), List.mem_of_getElem? (i := 862) (by decide +kernel), List.mem_of_getElem? (i := 863) (by decide +kernel)⟩
theorem lw_p60 : lw_okq (⟨"TurfHeaps$Every", "fill", "(J)V"⟩, 15) := ⟨⟨by decide +kernel, by decide +kernel⟩, List.mem_of_getElem? (i := 247) (by decide +kernel), List.mem_of_getElem? (i := 866) (by decide +kernel), List.mem_of_getElem? (i := 867) (by decide +kernel)⟩
theorem lw_p61 : lw_okq (⟨"TurfHeaps$Every", "indexOf", "(J)I"⟩, 15) := ⟨⟨by decide +kernel, by decide +kernel⟩, List.mem_of_getElem? (i := 247) (by decide +kernel), List.mem_of_getElem? (i := 880) (by decide +kernel), List.mem_of_getElem? (i := 881) (by decide +kernel)⟩
theorem lw_p62 : lw_okq (⟨"TurfHeaps$Every", "peelTails", "()I"⟩, 15) := ⟨⟨by decide +kernel, by decide +kernel⟩, List.mem_of_getElem? (i := 247) (by decide +kernel), List.mem_of_getElem? (i := 884) (by decide +kernel), List.mem_of_getElem? (i := 885) (by decide +kernel)⟩
theorem lw_p63 : lw_okq (⟨"TurfHeaps$Every", "measureTails", "(I)V"⟩, 15) := ⟨⟨by decide +kernel, by decide +kernel⟩, List.mem_of_getElem? (i := 247) (by decide +kernel), List.mem_of_getElem? (i := 888) (by decide +kernel), List.mem_of_getElem? (i := 889) (by decide +kernel)⟩
def lw_privs_4 : List (MethodName × Nat) := [(⟨"TurfHeaps", "roundOf", "(I)LTurfHeaps$Round;"⟩, 16), (⟨"TurfHeaps$Round", "follow", "(LTurfHeaps$Row;I)V"⟩, 6), (⟨"TurfHeaps$Round", "turnFrom", "(LTurfHeaps$Row;I)I"⟩, 6), (⟨"TurfHeaps$Round", "stepsAheadOfRing", "(LTurfHeaps$Row;I)I"⟩, 6), (⟨"TurfHeaps$Round", "lookForStair", "(I)V"⟩, 6), (⟨"TurfHeaps", "isOfAll", "(I)Z"⟩, 16), (⟨"TurfHeaps", "everyOf", "(I)LTurfHeaps$Every;"⟩, 16), (⟨"TurfHeaps$Every", "workOut", "(II)V"⟩, 15), (⟨"TurfHeaps$Every", "listRows", "(I)V"⟩, 15), (⟨"TurfHeaps$Every", "codeOfParts", "(I)J"⟩, 15), (⟨"TurfHeaps$Every", "nextParts", "(I)I"⟩, 15), (⟨"TurfHeaps$Every", "linkRows", "(I)V"⟩, 15), (⟨"TurfHeaps$Every", "fill", "(J)V"⟩, 15), (⟨"TurfHeaps$Every", "indexOf", "(J)I"⟩, 15), (⟨"TurfHeaps$Every", "peelTails", "()I"⟩, 15), (⟨"TurfHeaps$Every", "measureTails", "(I)V"⟩, 15)]
theorem lw_r4 : ∀ q ∈ lw_privs_4, lw_okq q := List.forall_mem_cons.mpr ⟨lw_p48, List.forall_mem_cons.mpr ⟨lw_p49, List.forall_mem_cons.mpr ⟨lw_p50, List.forall_mem_cons.mpr ⟨lw_p51, List.forall_mem_cons.mpr ⟨lw_p52, List.forall_mem_cons.mpr ⟨lw_p53, List.forall_mem_cons.mpr ⟨lw_p54, List.forall_mem_cons.mpr ⟨lw_p55, List.forall_mem_cons.mpr ⟨lw_p56, List.forall_mem_cons.mpr ⟨lw_p57, List.forall_mem_cons.mpr ⟨lw_p58, List.forall_mem_cons.mpr ⟨lw_p59, List.forall_mem_cons.mpr ⟨lw_p60, List.forall_mem_cons.mpr ⟨lw_p61, List.forall_mem_cons.mpr ⟨lw_p62, List.forall_mem_cons.mpr ⟨lw_p63, fun _ h => absurd h List.not_mem_nil⟩⟩⟩⟩⟩⟩⟩⟩⟩⟩⟩⟩⟩⟩⟩⟩
theorem lw_p64 : lw_okq (⟨"TurfHeaps$Every", "countRings", "()V"⟩, 15) := ⟨⟨by decide +kernel, by decide +kernel⟩, List.mem_of_getElem? (i := 247) (by decide +kernel), List.mem_of_getElem? (i := 893) (by decide +kernel), List.mem_of_getElem? (i := 894) (by decide +kernel)⟩
theorem lw_p65 : lw_okq (⟨"TurfHeaps", "smallRowFault", "(I)I"⟩, 16) := ⟨⟨by decide +kernel, by decide +kernel⟩, List.mem_of_getElem? (i := 19) (by decide +kernel), List.mem_of_getElem? (i := 917) (by decide +kernel), List.mem_of_getElem? (i := 918) (by decide +kernel)⟩
theorem lw_p66 : lw_okq (⟨"TurfHeaps$Slot", "fillSmall", "(LTurfHeaps$Row;)Z"⟩, 4) := ⟨⟨by decide +kernel, by decide +kernel⟩, List.mem_of_getElem? (i := 327) (by decide +kernel), List.mem_of_getElem? (i := 924) (by decide +kernel), List.mem_of_getElem? (i := 925) (by decide +kernel)⟩
theorem lw_p67 : lw_okq (⟨"TurfHeaps$Every", "comersTo", "(LTurfHeaps$Row;)I"⟩, 15) := ⟨⟨by decide +kernel, by decide +kernel⟩, List.mem_of_getElem? (i := 247) (by decide +kernel), List.mem_of_getElem? (i := 930) (by decide +kernel), List.mem_of_getElem? (i := 931) (by decide +kernel)⟩
theorem lw_p68 : lw_okq (⟨"TurfHeaps$Every", "heapOfFirstComer", "(LTurfHeaps$Row;I)I"⟩, 15) := ⟨⟨by decide +kernel, by decide +kernel⟩, List.mem_of_getElem? (i := 247) (by decide +kernel), List.mem_of_getElem? (i := 938) (by decide +kernel), List.mem_of_getElem? (i := 939) (by decide +kernel)⟩
theorem lw_p69 : lw_okq (⟨"TurfHeaps$Every", "tailOf", "(LTurfHeaps$Row;)I"⟩, 15) := ⟨⟨by decide +kernel, by decide +kernel⟩, List.mem_of_getElem? (i := 247) (by decide +kernel), List.mem_of_getElem? (i := 946) (by decide +kernel), List.mem_of_getElem? (i := 947) (by decide +kernel)⟩
theorem lw_p70 : lw_okq (⟨"TurfHeaps", "heapsAtLast", "()I"⟩, 16) := ⟨⟨by decide +kernel, by decide +kernel⟩, List.mem_of_getElem? (i := 19) (by decide +kernel), List.mem_of_getElem? (i := 954) (by decide +kernel), List.mem_of_getElem? (i := 955) (by decide +kernel)⟩
theorem lw_p71 : lw_okq (⟨"TurfHeaps", "heapsWithMore", "(II)I"⟩, 16) := ⟨⟨by decide +kernel, by decide +kernel⟩, List.mem_of_getElem? (i := 19) (by decide +kernel), List.mem_of_getElem? (i := 958) (by decide +kernel), List.mem_of_getElem? (i := 959) (by decide +kernel)⟩
theorem lw_p72 : lw_okq (⟨"TurfHeaps", "heapsWithSet", "(I)I"⟩, 16) := ⟨⟨by decide +kernel, by decide +kernel⟩, List.mem_of_getElem? (i := 19) (by decide +kernel), List.mem_of_getElem? (i := 970) (by decide +kernel), List.mem_of_getElem? (i := 971) (by decide +kernel)⟩
theorem lw_p73 : lw_okq (⟨"TurfHeaps", "seenFault", "(IZ)I"⟩, 16) := ⟨⟨by decide +kernel, by decide +kernel⟩, List.mem_of_getElem? (i := 19) (by decide +kernel), List.mem_of_getElem? (i := 978) (by decide +kernel), List.mem_of_getElem? (i := 979) (by decide +kernel)⟩
theorem lw_p74 : lw_okq (⟨"TurfHeaps$Slot", "isOfThrees", "(I)Z"⟩, 4) := ⟨⟨by decide +kernel, by decide +kernel⟩, List.mem_of_getElem? (i := 327) (by decide +kernel), List.mem_of_getElem? (i := 982) (by decide +kernel), List.mem_of_getElem? (i := 983) (by decide +kernel)⟩
theorem lw_p75 : lw_okq (⟨"TurfHeaps", "lookAt", "(II)LTurfHeaps$Seen;"⟩, 16) := ⟨⟨by decide +kernel, by decide +kernel⟩, List.mem_of_getElem? (i := 19) (by decide +kernel), List.mem_of_getElem? (i := 986) (by decide +kernel), List.mem_of_getElem? (i := 987) (by decide +kernel)⟩
theorem lw_p76 : lw_okq (⟨"TurfHeaps$Seen", "clear", "()V"⟩, 3) := ⟨⟨by decide +kernel, by decide +kernel⟩, List.mem_of_getElem? (i := 307) (by decide +kernel), List.mem_of_getElem? (i := 990) (by decide +kernel), List.mem_of_getElem? (i := 991) (by decide +kernel)⟩
theorem lw_p77 : lw_okq (⟨"TurfHeaps$Slot", "tellsOf", "(LTurfHeaps$Season;)Z"⟩, 4) := ⟨⟨by decide +kernel, by decide +kernel⟩, List.mem_of_getElem? (i := 327) (by decide +kernel), List.mem_of_getElem? (i := 994) (by decide +kernel), List.mem_of_getElem? (i := 995) (by decide +kernel)⟩
theorem lw_p78 : lw_okq (⟨"TurfHeaps$Seen", "keep", "(ILTurfHeaps$Season;)V"⟩, 3) := ⟨⟨by decide +kernel, by decide +kernel⟩, List.mem_of_getElem? (i := 307) (by decide +kernel), List.mem_of_getElem? (i := 1000) (by decide +kernel), List.mem_of_getElem? (i := 1001) (by decide +kernel)⟩
theorem lw_p79 : lw_okq (⟨"TurfHeaps$Seen", "lowest", "()I"⟩, 3) := ⟨⟨by decide +kernel, by decide +kernel⟩, List.mem_of_getElem? (i := 307) (by decide +kernel), List.mem_of_getElem? (i := 1009) (by decide +kernel), List.mem_of_getElem? (i := 1010) (by decide +kernel)⟩
def lw_privs_5 : List (MethodName × Nat) := [(⟨"TurfHeaps$Every", "countRings", "()V"⟩, 15), (⟨"TurfHeaps", "smallRowFault", "(I)I"⟩, 16), (⟨"TurfHeaps$Slot", "fillSmall", "(LTurfHeaps$Row;)Z"⟩, 4), (⟨"TurfHeaps$Every", "comersTo", "(LTurfHeaps$Row;)I"⟩, 15), (⟨"TurfHeaps$Every", "heapOfFirstComer", "(LTurfHeaps$Row;I)I"⟩, 15), (⟨"TurfHeaps$Every", "tailOf", "(LTurfHeaps$Row;)I"⟩, 15), (⟨"TurfHeaps", "heapsAtLast", "()I"⟩, 16), (⟨"TurfHeaps", "heapsWithMore", "(II)I"⟩, 16), (⟨"TurfHeaps", "heapsWithSet", "(I)I"⟩, 16), (⟨"TurfHeaps", "seenFault", "(IZ)I"⟩, 16), (⟨"TurfHeaps$Slot", "isOfThrees", "(I)Z"⟩, 4), (⟨"TurfHeaps", "lookAt", "(II)LTurfHeaps$Seen;"⟩, 16), (⟨"TurfHeaps$Seen", "clear", "()V"⟩, 3), (⟨"TurfHeaps$Slot", "tellsOf", "(LTurfHeaps$Season;)Z"⟩, 4), (⟨"TurfHeaps$Seen", "keep", "(ILTurfHeaps$Season;)V"⟩, 3), (⟨"TurfHeaps$Seen", "lowest", "()I"⟩, 3)]
theorem lw_r5 : ∀ q ∈ lw_privs_5, lw_okq q := List.forall_mem_cons.mpr ⟨lw_p64, List.forall_mem_cons.mpr ⟨lw_p65, List.forall_mem_cons.mpr ⟨lw_p66, List.forall_mem_cons.mpr ⟨lw_p67, List.forall_mem_cons.mpr ⟨lw_p68, List.forall_mem_cons.mpr ⟨lw_p69, List.forall_mem_cons.mpr ⟨lw_p70, List.forall_mem_cons.mpr ⟨lw_p71, List.forall_mem_cons.mpr ⟨lw_p72, List.forall_mem_cons.mpr ⟨lw_p73, List.forall_mem_cons.mpr ⟨lw_p74, List.forall_mem_cons.mpr ⟨lw_p75, List.forall_mem_cons.mpr ⟨lw_p76, List.forall_mem_cons.mpr ⟨lw_p77, List.forall_mem_cons.mpr ⟨lw_p78, List.forall_mem_cons.mpr ⟨lw_p79, fun _ h => absurd h List.not_mem_nil⟩⟩⟩⟩⟩⟩⟩⟩⟩⟩⟩⟩⟩⟩⟩⟩
theorem lw_p80 : lw_okq (⟨"TurfHeaps$Seen", "highest", "()I"⟩, 3) := ⟨⟨by decide +kernel, by decide +kernel⟩, List.mem_of_getElem? (i := 307) (by decide +kernel), List.mem_of_getElem? (i := 1017) (by decide +kernel), List.mem_of_getElem? (i := 1018) (by decide +kernel)⟩
theorem lw_p81 : lw_okq (⟨"TurfHeaps$Seen", "bestDay", "(I)I"⟩, 3) := ⟨⟨by decide +kernel, by decide +kernel⟩, List.mem_of_getElem? (i := 307) (by decide +kernel), List.mem_of_getElem? (i := 1025) (by decide +kernel), List.mem_of_getElem? (i := 1026) (by decide +kernel)⟩
theorem lw_p82 : lw_okq (⟨"TurfHeaps$Seen", "worstOf", "(I)I"⟩, 3) := ⟨⟨by decide +kernel, by decide +kernel⟩, List.mem_of_getElem? (i := 307) (by decide +kernel), List.mem_of_getElem? (i := 1029) (by decide +kernel), List.mem_of_getElem? (i := 1030) (by decide +kernel)⟩
theorem lw_p83 : lw_okq (⟨"TurfHeaps$Seen", "leftAtWorst", "(I)I"⟩, 3) := ⟨⟨by decide +kernel, by decide +kernel⟩, List.mem_of_getElem? (i := 307) (by decide +kernel), List.mem_of_getElem? (i := 1038) (by decide +kernel), List.mem_of_getElem? (i := 1039) (by decide +kernel)⟩
theorem lw_p84 : lw_okq (⟨"TurfHeaps", "passByLaw", "(I)LTurfHeaps$Row;"⟩, 16) := ⟨⟨by decide +kernel, by decide +kernel⟩, List.mem_of_getElem? (i := 19) (by decide +kernel), List.mem_of_getElem? (i := 1047) (by decide +kernel), List.mem_of_getElem? (i := 1048) (by decide +kernel)⟩
theorem lw_p85 : lw_okq (⟨"TurfHeaps", "knowWorths", "()V"⟩, 16) := ⟨⟨by decide +kernel, by decide +kernel⟩, List.mem_of_getElem? (i := 19) (by decide +kernel), List.mem_of_getElem? (i := 1067) (by decide +kernel), List.mem_of_getElem? (i := 1068) (by decide +kernel)⟩
theorem lw_p86 : lw_okq (⟨"TurfHeaps", "gainOverOrders", "(I)I"⟩, 16) := ⟨⟨by decide +kernel, by decide +kernel⟩, List.mem_of_getElem? (i := 19) (by decide +kernel), List.mem_of_getElem? (i := 1071) (by decide +kernel), List.mem_of_getElem? (i := 1072) (by decide +kernel)⟩
theorem lw_p87 : lw_okq (⟨"TurfHeaps$Row", "nimSum", "(I)I"⟩, 5) := ⟨⟨by decide +kernel, by decide +kernel⟩, List.mem_of_getElem? (i := 147) (by decide +kernel), List.mem_of_getElem? (i := 1097) (by decide +kernel), List.mem_of_getElem? (i := 1098) (by decide +kernel)⟩
theorem lw_p88 : lw_okq (⟨"TurfHeaps$Row", "winningTake", "(II)I"⟩, 5) := ⟨⟨by decide +kernel, by decide +kernel⟩, List.mem_of_getElem? (i := 147) (by decide +kernel), List.mem_of_getElem? (i := 1105) (by decide +kernel), List.mem_of_getElem? (i := 1106) (by decide +kernel)⟩
theorem lw_p89 : lw_okq (⟨"TurfHeaps", "passLate", "(IIII)LTurfHeaps$Row;"⟩, 16) := ⟨⟨by decide +kernel, by decide +kernel⟩, List.mem_of_getElem? (i := 19) (by decide +kernel), List.mem_of_getElem? (i := 1118) (by decide +kernel), List.mem_of_getElem? (i := 1119) (by decide +kernel)⟩
theorem lw_p90 : lw_okq (⟨"TurfHeaps", "isChanceDay", "(I)Z"⟩, 16) := ⟨⟨by decide +kernel, by decide +kernel⟩, List.mem_of_getElem? (i := 19) (by decide +kernel), List.mem_of_getElem? (i := 1136) (by decide +kernel), List.mem_of_getElem? (i := 1137) (by decide +kernel)⟩
theorem lw_p91 : lw_okq (⟨"TurfHeaps", "weighHeaps", "(II)J"⟩, 16) := ⟨⟨by decide +kernel, by decide +kernel⟩, List.mem_of_getElem? (i := 19) (by decide +kernel), List.mem_of_getElem? (i := 1141) (by decide +kernel), List.mem_of_getElem? (i := 1142) (by decide +kernel)⟩
theorem lw_p92 : lw_okq (⟨"TurfHeaps", "weightOf", "(II)J"⟩, 16) := ⟨⟨by decide +kernel, by decide +kernel⟩, List.mem_of_getElem? (i := 19) (by decide +kernel), List.mem_of_getElem? (i := 1147) (by decide +kernel), List.mem_of_getElem? (i := 1148) (by decide +kernel)⟩
theorem lw_p93 : lw_okq (⟨"TurfHeaps", "passChoice", "(III)V"⟩, 16) := ⟨⟨by decide +kernel, by decide +kernel⟩, List.mem_of_getElem? (i := 19) (by decide +kernel), List.mem_of_getElem? (i := 1151) (by decide +kernel), List.mem_of_getElem? (i := 1152) (by decide +kernel)⟩
theorem lw_p94 : lw_okq (⟨"TurfHeaps", "act", "(II)I"⟩, 16) := ⟨⟨by decide +kernel, by decide +kernel⟩, List.mem_of_getElem? (i := 19) (by decide +kernel), List.mem_of_getElem? (i := 1171) (by decide +kernel), List.mem_of_getElem? (i := 1172) (by decide +kernel)⟩
theorem lw_p95 : lw_okq (⟨"TurfHeaps", "wetDays", "(J)I"⟩, 16) := ⟨⟨by decide +kernel, by decide +kernel⟩, List.mem_of_getElem? (i := 19) (by decide +kernel), List.mem_of_getElem? (i := 1192) (by decide +kernel), List.mem_of_getElem? (i := 1193) (by decide +kernel)⟩
def lw_privs_6 : List (MethodName × Nat) := [(⟨"TurfHeaps$Seen", "highest", "()I"⟩, 3), (⟨"TurfHeaps$Seen", "bestDay", "(I)I"⟩, 3), (⟨"TurfHeaps$Seen", "worstOf", "(I)I"⟩, 3), (⟨"TurfHeaps$Seen", "leftAtWorst", "(I)I"⟩, 3), (⟨"TurfHeaps", "passByLaw", "(I)LTurfHeaps$Row;"⟩, 16), (⟨"TurfHeaps", "knowWorths", "()V"⟩, 16), (⟨"TurfHeaps", "gainOverOrders", "(I)I"⟩, 16), (⟨"TurfHeaps$Row", "nimSum", "(I)I"⟩, 5), (⟨"TurfHeaps$Row", "winningTake", "(II)I"⟩, 5), (⟨"TurfHeaps", "passLate", "(IIII)LTurfHeaps$Row;"⟩, 16), (⟨"TurfHeaps", "isChanceDay", "(I)Z"⟩, 16), (⟨"TurfHeaps", "weighHeaps", "(II)J"⟩, 16), (⟨"TurfHeaps", "weightOf", "(II)J"⟩, 16), (⟨"TurfHeaps", "passChoice", "(III)V"⟩, 16), (⟨"TurfHeaps", "act", "(II)I"⟩, 16), (⟨"TurfHeaps", "wetDays", "(J)I"⟩, 16)]
theorem lw_r6 : ∀ q ∈ lw_privs_6, lw_okq q := List.forall_mem_cons.mpr ⟨lw_p80, List.forall_mem_cons.mpr ⟨lw_p81, List.forall_mem_cons.mpr ⟨lw_p82, List.forall_mem_cons.mpr ⟨lw_p83, List.forall_mem_cons.mpr ⟨lw_p84, List.forall_mem_cons.mpr ⟨lw_p85, List.forall_mem_cons.mpr ⟨lw_p86, List.forall_mem_cons.mpr ⟨lw_p87, List.forall_mem_cons.mpr ⟨lw_p88, List.forall_mem_cons.mpr ⟨lw_p89, List.forall_mem_cons.mpr ⟨lw_p90, List.forall_mem_cons.mpr ⟨lw_p91, List.forall_mem_cons.mpr ⟨lw_p92, List.forall_mem_cons.mpr ⟨lw_p93, List.forall_mem_cons.mpr ⟨lw_p94, List.forall_mem_cons.mpr ⟨lw_p95, fun _ h => absurd h List.not_mem_nil⟩⟩⟩⟩⟩⟩⟩⟩⟩⟩⟩⟩⟩⟩⟩⟩
theorem lw_p96 : lw_okq (⟨"TurfHeaps", "heapsWithWet", "(I)I"⟩, 16) := ⟨⟨by decide +kernel, by decide +kernel⟩, List.mem_of_getElem? (i := 19) (by decide +kernel), List.mem_of_getElem? (i := 1200) (by decide +kernel), List.mem_of_getElem? (i := 1201) (by decide +kernel)⟩
theorem lw_p97 : lw_okq (⟨"TurfHeaps", "slotsWithRow", "()I"⟩, 16) := ⟨⟨by decide +kernel, by decide +kernel⟩, List.mem_of_getElem? (i := 19) (by decide +kernel), List.mem_of_getElem? (i := 1216) (by decide +kernel), List.mem_of_getElem? (i := 1217) (by decide +kernel)⟩
theorem lw_p98 : lw_okq (⟨"TurfHeaps$Slot", "lay", "(II)V"⟩, 4) := ⟨⟨by decide +kernel, by decide +kernel⟩, List.mem_of_getElem? (i := 327) (by decide +kernel), List.mem_of_getElem? (i := 1232) (by decide +kernel), List.mem_of_getElem? (i := 1233) (by decide +kernel)⟩
theorem lw_p99 : lw_okq (⟨"TurfHeaps$Slot", "reaches", "(II)Z"⟩, 4) := ⟨⟨by decide +kernel, by decide +kernel⟩, List.mem_of_getElem? (i := 327) (by decide +kernel), List.mem_of_getElem? (i := 1247) (by decide +kernel), List.mem_of_getElem? (i := 1248) (by decide +kernel)⟩
theorem lw_p100 : lw_okq (⟨"TurfHeapsModel", "advance", "()V"⟩, 46) := ⟨⟨by decide +kernel, by decide +kernel⟩, List.mem_of_getElem? (i := 1252) (by decide +kernel), List.mem_of_getElem? (i := 1425) (by decide +kernel), List.mem_of_getElem? (i := 1426) (by decide +kernel)⟩
theorem lw_p101 : lw_okq (⟨"TurfHeapsModel", "see", "(I)I"⟩, 46) := ⟨⟨by decide +kernel, by decide +kernel⟩, List.mem_of_getElem? (i := 1252) (by decide +kernel), List.mem_of_getElem? (i := 1429) (by decide +kernel), List.mem_of_getElem? (i := 1430) (by decide +kernel)⟩
theorem lw_p102 : lw_okq (⟨"TurfHeapsModel", "good", "()Z"⟩, 46) := ⟨⟨by decide +kernel, by decide +kernel⟩, List.mem_of_getElem? (i := 1252) (by decide +kernel), List.mem_of_getElem? (i := 1439) (by decide +kernel), List.mem_of_getElem? (i := 1440) (by decide +kernel)⟩
theorem lw_p103 : lw_okq (⟨"TurfHeapsModel", "readLine", "()V"⟩, 46) := ⟨⟨by decide +kernel, by decide +kernel⟩, List.mem_of_getElem? (i := 1252) (by decide +kernel), List.mem_of_getElem? (i := 1443) (by decide +kernel), List.mem_of_getElem? (i := 1444) (by decide +kernel)⟩
theorem lw_p104 : lw_okq (⟨"TurfHeapsModel", "readFirst", "()V"⟩, 46) := ⟨⟨by decide +kernel, by decide +kernel⟩, List.mem_of_getElem? (i := 1252) (by decide +kernel), List.mem_of_getElem? (i := 1447) (by decide +kernel), List.mem_of_getElem? (i := 1448) (by decide +kernel)⟩
theorem lw_p105 : lw_okq (⟨"TurfHeapsModel", "expects", "(Ljava/lang/String;)V"⟩, 46) := ⟨⟨by decide +kernel, by decide +kernel⟩, List.mem_of_getElem? (i := 1252) (by decide +kernel), List.mem_of_getElem? (i := 1452) (by decide +kernel), List.mem_of_getElem? (i := 1453) (by decide +kernel)⟩
theorem lw_p106 : lw_okq (⟨"TurfHeapsModel", "takes", "(Ljava/lang/String;)Z"⟩, 46) := ⟨⟨by decide +kernel, by decide +kernel⟩, List.mem_of_getElem? (i := 1252) (by decide +kernel), List.mem_of_getElem? (i := 1456) (by decide +kernel), List.mem_of_getElem? (i := 1457) (by decide +kernel)⟩
theorem lw_p107 : lw_okq (⟨"TurfHeapsModel", "is", "(Ljava/lang/String;)Z"⟩, 46) := ⟨⟨by decide +kernel, by decide +kernel⟩, List.mem_of_getElem? (i := 1252) (by decide +kernel), List.mem_of_getElem? (i := 1460) (by decide +kernel), List.mem_of_getElem? (i := 1461) (by decide +kernel)⟩
theorem lw_p108 : lw_okq (⟨"TurfHeapsModel", "errs", "(I)V"⟩, 46) := ⟨⟨by decide +kernel, by decide +kernel⟩, List.mem_of_getElem? (i := 1252) (by decide +kernel), List.mem_of_getElem? (i := 1466) (by decide +kernel), List.mem_of_getElem? (i := 1467) (by decide +kernel)⟩
theorem lw_p109 : lw_okq (⟨"TurfHeapsModel", "toldBy", "(Ljava/lang/String;II)I"⟩, 46) := ⟨⟨by decide +kernel, by decide +kernel⟩, List.mem_of_getElem? (i := 1252) (by decide +kernel), List.mem_of_getElem? (i := 1471) (by decide +kernel), List.mem_of_getElem? (i := 1472) (by decide +kernel)⟩
theorem lw_p110 : lw_okq (⟨"TurfHeapsModel", "number", "(II)I"⟩, 46) := ⟨⟨by decide +kernel, by decide +kernel⟩, List.mem_of_getElem? (i := 1252) (by decide +kernel), List.mem_of_getElem? (i := 1475) (by decide +kernel), List.mem_of_getElem? (i := 1476) (by decide +kernel)⟩
theorem lw_p111 : lw_okq (⟨"TurfHeapsModel", "readNext", "()V"⟩, 46) := ⟨⟨by decide +kernel, by decide +kernel⟩, List.mem_of_getElem? (i := 1252) (by decide +kernel), List.mem_of_getElem? (i := 1481) (by decide +kernel), List.mem_of_getElem? (i := 1482) (by decide +kernel)⟩
def lw_privs_7 : List (MethodName × Nat) := [(⟨"TurfHeaps", "heapsWithWet", "(I)I"⟩, 16), (⟨"TurfHeaps", "slotsWithRow", "()I"⟩, 16), (⟨"TurfHeaps$Slot", "lay", "(II)V"⟩, 4), (⟨"TurfHeaps$Slot", "reaches", "(II)Z"⟩, 4), (⟨"TurfHeapsModel", "advance", "()V"⟩, 46), (⟨"TurfHeapsModel", "see", "(I)I"⟩, 46), (⟨"TurfHeapsModel", "good", "()Z"⟩, 46), (⟨"TurfHeapsModel", "readLine", "()V"⟩, 46), (⟨"TurfHeapsModel", "readFirst", "()V"⟩, 46), (⟨"TurfHeapsModel", "expects", "(Ljava/lang/String;)V"⟩, 46), (⟨"TurfHeapsModel", "takes", "(Ljava/lang/String;)Z"⟩, 46), (⟨"TurfHeapsModel", "is", "(Ljava/lang/String;)Z"⟩, 46), (⟨"TurfHeapsModel", "errs", "(I)V"⟩, 46), (⟨"TurfHeapsModel", "toldBy", "(Ljava/lang/String;II)I"⟩, 46), (⟨"TurfHeapsModel", "number", "(II)I"⟩, 46), (⟨"TurfHeapsModel", "readNext", "()V"⟩, 46)]
theorem lw_r7 : ∀ q ∈ lw_privs_7, lw_okq q := List.forall_mem_cons.mpr ⟨lw_p96, List.forall_mem_cons.mpr ⟨lw_p97, List.forall_mem_cons.mpr ⟨lw_p98, List.forall_mem_cons.mpr ⟨lw_p99, List.forall_mem_cons.mpr ⟨lw_p100, List.forall_mem_cons.mpr ⟨lw_p101, List.forall_mem_cons.mpr ⟨lw_p102, List.forall_mem_cons.mpr ⟨lw_p103, List.forall_mem_cons.mpr ⟨lw_p104, List.forall_mem_cons.mpr ⟨lw_p105, List.forall_mem_cons.mpr ⟨lw_p106, List.forall_mem_cons.mpr ⟨lw_p107, List.forall_mem_cons.mpr ⟨lw_p108, List.forall_mem_cons.mpr ⟨lw_p109, List.forall_mem_cons.mpr ⟨lw_p110, List.forall_mem_cons.mpr ⟨lw_p111, fun _ h => absurd h List.not_mem_nil⟩⟩⟩⟩⟩⟩⟩⟩⟩⟩⟩⟩⟩⟩⟩⟩
theorem lw_p112 : lw_okq (⟨"TurfHeapsModel", "isHeap", "(I)Z"⟩, 46) := ⟨⟨by decide +kernel, by decide +kernel⟩, List.mem_of_getElem? (i := 1252) (by decide +kernel), List.mem_of_getElem? (i := 1493) (by decide +kernel), List.mem_of_getElem? (i := 1494) (by decide +kernel)⟩
theorem lw_p113 : lw_okq (⟨"TurfHeapsModel", "isCart", "(I)Z"⟩, 46) := ⟨⟨by decide +kernel, by decide +kernel⟩, List.mem_of_getElem? (i := 1252) (by decide +kernel), List.mem_of_getElem? (i := 1501) (by decide +kernel), List.mem_of_getElem? (i := 1502) (by decide +kernel)⟩
theorem lw_p114 : lw_okq (⟨"TurfHeapsModel", "cartMany", "()I"⟩, 46) := ⟨⟨by decide +kernel, by decide +kernel⟩, List.mem_of_getElem? (i := 1252) (by decide +kernel), List.mem_of_getElem? (i := 1505) (by decide +kernel), List.mem_of_getElem? (i := 1506) (by decide +kernel)⟩
theorem lw_p115 : lw_okq (⟨"TurfHeapsModel", "asksDay", "(I)Z"⟩, 46) := ⟨⟨by decide +kernel, by decide +kernel⟩, List.mem_of_getElem? (i := 1252) (by decide +kernel), List.mem_of_getElem? (i := 1513) (by decide +kernel), List.mem_of_getElem? (i := 1514) (by decide +kernel)⟩
theorem lw_p116 : lw_okq (⟨"TurfHeapsModel", "asksMoor", "()Z"⟩, 46) := ⟨⟨by decide +kernel, by decide +kernel⟩, List.mem_of_getElem? (i := 1252) (by decide +kernel), List.mem_of_getElem? (i := 1517) (by decide +kernel), List.mem_of_getElem? (i := 1518) (by decide +kernel)⟩
theorem lw_p117 : lw_okq (⟨"TurfHeapsModel", "asItIs", "()V"⟩, 46) := ⟨⟨by decide +kernel, by decide +kernel⟩, List.mem_of_getElem? (i := 1252) (by decide +kernel), List.mem_of_getElem? (i := 1521) (by decide +kernel), List.mem_of_getElem? (i := 1522) (by decide +kernel)⟩
theorem lw_p118 : lw_okq (⟨"TurfHeapsModel", "goAll", "()V"⟩, 46) := ⟨⟨by decide +kernel, by decide +kernel⟩, List.mem_of_getElem? (i := 1252) (by decide +kernel), List.mem_of_getElem? (i := 1525) (by decide +kernel), List.mem_of_getElem? (i := 1526) (by decide +kernel)⟩
theorem lw_p119 : lw_okq (⟨"TurfHeapsModel", "empty", "(I)V"⟩, 46) := ⟨⟨by decide +kernel, by decide +kernel⟩, List.mem_of_getElem? (i := 1252) (by decide +kernel), List.mem_of_getElem? (i := 1529) (by decide +kernel), List.mem_of_getElem? (i := 1530) (by decide +kernel)⟩
theorem lw_p120 : lw_okq (⟨"TurfHeapsModel", "lay", "(II)V"⟩, 46) := ⟨⟨by decide +kernel, by decide +kernel⟩, List.mem_of_getElem? (i := 1252) (by decide +kernel), List.mem_of_getElem? (i := 1533) (by decide +kernel), List.mem_of_getElem? (i := 1534) (by decide +kernel)⟩
theorem lw_p121 : lw_okq (⟨"TurfHeapsModel", "manyOf", "(I)I"⟩, 46) := ⟨⟨by decide +kernel, by decide +kernel⟩, List.mem_of_getElem? (i := 1252) (by decide +kernel), List.mem_of_getElem? (i := 1537) (by decide +kernel), List.mem_of_getElem? (i := 1538) (by decide +kernel)⟩
theorem lw_p122 : lw_okq (⟨"TurfHeapsModel", "heightOf", "(II)I"⟩, 46) := ⟨⟨by decide +kernel, by decide +kernel⟩, List.mem_of_getElem? (i := 1252) (by decide +kernel), List.mem_of_getElem? (i := 1541) (by decide +kernel), List.mem_of_getElem? (i := 1542) (by decide +kernel)⟩
theorem lw_p123 : lw_okq (⟨"TurfHeapsModel", "days", "()I"⟩, 46) := ⟨⟨by decide +kernel, by decide +kernel⟩, List.mem_of_getElem? (i := 1252) (by decide +kernel), List.mem_of_getElem? (i := 1545) (by decide +kernel), List.mem_of_getElem? (i := 1546) (by decide +kernel)⟩
theorem lw_p124 : lw_okq (⟨"TurfHeapsModel", "beginDay", "(I)V"⟩, 46) := ⟨⟨by decide +kernel, by decide +kernel⟩, List.mem_of_getElem? (i := 1252) (by decide +kernel), List.mem_of_getElem? (i := 1549) (by decide +kernel), List.mem_of_getElem? (i := 1550) (by decide +kernel)⟩
theorem lw_p125 : lw_okq (⟨"TurfHeapsModel", "takeHighest", "(I)V"⟩, 46) := ⟨⟨by decide +kernel, by decide +kernel⟩, List.mem_of_getElem? (i := 1252) (by decide +kernel), List.mem_of_getElem? (i := 1556) (by decide +kernel), List.mem_of_getElem? (i := 1557) (by decide +kernel)⟩
theorem lw_p126 : lw_okq (⟨"TurfHeapsModel", "copyRow", "(II)V"⟩, 46) := ⟨⟨by decide +kernel, by decide +kernel⟩, List.mem_of_getElem? (i := 1252) (by decide +kernel), List.mem_of_getElem? (i := 1560) (by decide +kernel), List.mem_of_getElem? (i := 1561) (by decide +kernel)⟩
theorem lw_p127 : lw_okq (⟨"TurfHeapsModel", "step", "(I)V"⟩, 46) := ⟨⟨by decide +kernel, by decide +kernel⟩, List.mem_of_getElem? (i := 1252) (by decide +kernel), List.mem_of_getElem? (i := 1564) (by decide +kernel), List.mem_of_getElem? (i := 1565) (by decide +kernel)⟩
def lw_privs_8 : List (MethodName × Nat) := [(⟨"TurfHeapsModel", "isHeap", "(I)Z"⟩, 46), (⟨"TurfHeapsModel", "isCart", "(I)Z"⟩, 46), (⟨"TurfHeapsModel", "cartMany", "()I"⟩, 46), (⟨"TurfHeapsModel", "asksDay", "(I)Z"⟩, 46), (⟨"TurfHeapsModel", "asksMoor", "()Z"⟩, 46), (⟨"TurfHeapsModel", "asItIs", "()V"⟩, 46), (⟨"TurfHeapsModel", "goAll", "()V"⟩, 46), (⟨"TurfHeapsModel", "empty", "(I)V"⟩, 46), (⟨"TurfHeapsModel", "lay", "(II)V"⟩, 46), (⟨"TurfHeapsModel", "manyOf", "(I)I"⟩, 46), (⟨"TurfHeapsModel", "heightOf", "(II)I"⟩, 46), (⟨"TurfHeapsModel", "days", "()I"⟩, 46), (⟨"TurfHeapsModel", "beginDay", "(I)V"⟩, 46), (⟨"TurfHeapsModel", "takeHighest", "(I)V"⟩, 46), (⟨"TurfHeapsModel", "copyRow", "(II)V"⟩, 46), (⟨"TurfHeapsModel", "step", "(I)V"⟩, 46)]
theorem lw_r8 : ∀ q ∈ lw_privs_8, lw_okq q := List.forall_mem_cons.mpr ⟨lw_p112, List.forall_mem_cons.mpr ⟨lw_p113, List.forall_mem_cons.mpr ⟨lw_p114, List.forall_mem_cons.mpr ⟨lw_p115, List.forall_mem_cons.mpr ⟨lw_p116, List.forall_mem_cons.mpr ⟨lw_p117, List.forall_mem_cons.mpr ⟨lw_p118, List.forall_mem_cons.mpr ⟨lw_p119, List.forall_mem_cons.mpr ⟨lw_p120, List.forall_mem_cons.mpr ⟨lw_p121, List.forall_mem_cons.mpr ⟨lw_p122, List.forall_mem_cons.mpr ⟨lw_p123, List.forall_mem_cons.mpr ⟨lw_p124, List.forall_mem_cons.mpr ⟨lw_p125, List.forall_mem_cons.mpr ⟨lw_p126, List.forall_mem_cons.mpr ⟨lw_p127, fun _ h => absurd h List.not_mem_nil⟩⟩⟩⟩⟩⟩⟩⟩⟩⟩⟩⟩⟩⟩⟩⟩
theorem lw_p128 : lw_okq (⟨"TurfHeapsModel", "offHeap", "(II)I"⟩, 46) := ⟨⟨by decide +kernel, by decide +kernel⟩, List.mem_of_getElem? (i := 1252) (by decide +kernel), List.mem_of_getElem? (i := 1568) (by decide +kernel), List.mem_of_getElem? (i := 1569) (by decide +kernel)⟩
theorem lw_p129 : lw_okq (⟨"TurfHeapsModel", "isMoor", "()Z"⟩, 46) := ⟨⟨by decide +kernel, by decide +kernel⟩, List.mem_of_getElem? (i := 1252) (by decide +kernel), List.mem_of_getElem? (i := 1572) (by decide +kernel), List.mem_of_getElem? (i := 1573) (by decide +kernel)⟩
theorem lw_p130 : lw_okq (⟨"TurfHeapsModel", "isDay", "(J)Z"⟩, 46) := ⟨⟨by decide +kernel, by decide +kernel⟩, List.mem_of_getElem? (i := 1252) (by decide +kernel), List.mem_of_getElem? (i := 1576) (by decide +kernel), List.mem_of_getElem? (i := 1577) (by decide +kernel)⟩
theorem lw_p131 : lw_okq (⟨"TurfHeapsModel", "turfsOf", "(I)I"⟩, 46) := ⟨⟨by decide +kernel, by decide +kernel⟩, List.mem_of_getElem? (i := 1252) (by decide +kernel), List.mem_of_getElem? (i := 1588) (by decide +kernel), List.mem_of_getElem? (i := 1589) (by decide +kernel)⟩
theorem lw_p132 : lw_okq (⟨"TurfHeapsModel", "isAhead", "(J)Z"⟩, 46) := ⟨⟨by decide +kernel, by decide +kernel⟩, List.mem_of_getElem? (i := 1252) (by decide +kernel), List.mem_of_getElem? (i := 1613) (by decide +kernel), List.mem_of_getElem? (i := 1614) (by decide +kernel)⟩
theorem lw_p133 : lw_okq (⟨"TurfHeapsModel", "highestOf", "(I)I"⟩, 46) := ⟨⟨by decide +kernel, by decide +kernel⟩, List.mem_of_getElem? (i := 1252) (by decide +kernel), List.mem_of_getElem? (i := 1630) (by decide +kernel), List.mem_of_getElem? (i := 1631) (by decide +kernel)⟩
theorem lw_p134 : lw_okq (⟨"TurfHeapsModel", "firstSame", "(I)I"⟩, 46) := ⟨⟨by decide +kernel, by decide +kernel⟩, List.mem_of_getElem? (i := 1252) (by decide +kernel), List.mem_of_getElem? (i := 1638) (by decide +kernel), List.mem_of_getElem? (i := 1639) (by decide +kernel)⟩
theorem lw_p135 : lw_okq (⟨"TurfHeapsModel", "areSame", "(II)Z"⟩, 46) := ⟨⟨by decide +kernel, by decide +kernel⟩, List.mem_of_getElem? (i := 1252) (by decide +kernel), List.mem_of_getElem? (i := 1642) (by decide +kernel), List.mem_of_getElem? (i := 1643) (by decide +kernel)⟩
theorem lw_p136 : lw_okq (⟨"TurfHeapsModel", "isStair", "(I)Z"⟩, 46) := ⟨⟨by decide +kernel, by decide +kernel⟩, List.mem_of_getElem? (i := 1252) (by decide +kernel), List.mem_of_getElem? (i := 1658) (by decide +kernel), List.mem_of_getElem? (i := 1659) (by decide +kernel)⟩
theorem lw_p137 : lw_okq (⟨"TurfHeapsModel", "turnedHeap", "(II)I"⟩, 46) := ⟨⟨by decide +kernel, by decide +kernel⟩, List.mem_of_getElem? (i := 1252) (by decide +kernel), List.mem_of_getElem? (i := 1674) (by decide +kernel), List.mem_of_getElem? (i := 1675) (by decide +kernel)⟩
theorem lw_p138 : lw_okq (⟨"TurfHeapsModel", "isAbove", "(II)Z"⟩, 46) := ⟨⟨by decide +kernel, by decide +kernel⟩, List.mem_of_getElem? (i := 1252) (by decide +kernel), List.mem_of_getElem? (i := 1686) (by decide +kernel), List.mem_of_getElem? (i := 1687) (by decide +kernel)⟩
theorem lw_p139 : lw_okq (⟨"TurfHeapsModel", "goesRound", "(I)Z"⟩, 46) := ⟨⟨by decide +kernel, by decide +kernel⟩, List.mem_of_getElem? (i := 1252) (by decide +kernel), List.mem_of_getElem? (i := 1694) (by decide +kernel), List.mem_of_getElem? (i := 1695) (by decide +kernel)⟩
theorem lw_p140 : lw_okq (⟨"TurfHeapsModel", "asksAll", "(I)Z"⟩, 46) := ⟨⟨by decide +kernel, by decide +kernel⟩, List.mem_of_getElem? (i := 1252) (by decide +kernel), List.mem_of_getElem? (i := 1719) (by decide +kernel), List.mem_of_getElem? (i := 1720) (by decide +kernel)⟩
theorem lw_p141 : lw_okq (⟨"TurfHeapsModel", "listAll", "(I)V"⟩, 46) := ⟨⟨by decide +kernel, by decide +kernel⟩, List.mem_of_getElem? (i := 1252) (by decide +kernel), List.mem_of_getElem? (i := 1724) (by decide +kernel), List.mem_of_getElem? (i := 1725) (by decide +kernel)⟩
theorem lw_p142 : lw_okq (⟨"TurfHeapsModel", "keepListed", "()V"⟩, 46) := ⟨⟨by decide +kernel, by decide +kernel⟩, List.mem_of_getElem? (i := 1252) (by decide +kernel), List.mem_of_getElem? (i := 1728) (by decide +kernel), List.mem_of_getElem? (i := 1729) (by decide +kernel)⟩
theorem lw_p143 : lw_okq (⟨"TurfHeapsModel", "nextRow", "()Z"⟩, 46) := ⟨⟨by decide +kernel, by decide +kernel⟩, List.mem_of_getElem? (i := 1252) (by decide +kernel), List.mem_of_getElem? (i := 1732) (by decide +kernel), List.mem_of_getElem? (i := 1733) (by decide +kernel)⟩
def lw_privs_9 : List (MethodName × Nat) := [(⟨"TurfHeapsModel", "offHeap", "(II)I"⟩, 46), (⟨"TurfHeapsModel", "isMoor", "()Z"⟩, 46), (⟨"TurfHeapsModel", "isDay", "(J)Z"⟩, 46), (⟨"TurfHeapsModel", "turfsOf", "(I)I"⟩, 46), (⟨"TurfHeapsModel", "isAhead", "(J)Z"⟩, 46), (⟨"TurfHeapsModel", "highestOf", "(I)I"⟩, 46), (⟨"TurfHeapsModel", "firstSame", "(I)I"⟩, 46), (⟨"TurfHeapsModel", "areSame", "(II)Z"⟩, 46), (⟨"TurfHeapsModel", "isStair", "(I)Z"⟩, 46), (⟨"TurfHeapsModel", "turnedHeap", "(II)I"⟩, 46), (⟨"TurfHeapsModel", "isAbove", "(II)Z"⟩, 46), (⟨"TurfHeapsModel", "goesRound", "(I)Z"⟩, 46), (⟨"TurfHeapsModel", "asksAll", "(I)Z"⟩, 46), (⟨"TurfHeapsModel", "listAll", "(I)V"⟩, 46), (⟨"TurfHeapsModel", "keepListed", "()V"⟩, 46), (⟨"TurfHeapsModel", "nextRow", "()Z"⟩, 46)]
theorem lw_r9 : ∀ q ∈ lw_privs_9, lw_okq q := List.forall_mem_cons.mpr ⟨lw_p128, List.forall_mem_cons.mpr ⟨lw_p129, List.forall_mem_cons.mpr ⟨lw_p130, List.forall_mem_cons.mpr ⟨lw_p131, List.forall_mem_cons.mpr ⟨lw_p132, List.forall_mem_cons.mpr ⟨lw_p133, List.forall_mem_cons.mpr ⟨lw_p134, List.forall_mem_cons.mpr ⟨lw_p135, List.forall_mem_cons.mpr ⟨lw_p136, List.forall_mem_cons.mpr ⟨lw_p137, List.forall_mem_cons.mpr ⟨lw_p138, List.forall_mem_cons.mpr ⟨lw_p139, List.forall_mem_cons.mpr ⟨lw_p140, List.forall_mem_cons.mpr ⟨lw_p141, List.forall_mem_cons.mpr ⟨lw_p142, List.forall_mem_cons.mpr ⟨lw_p143, fun _ h => absurd h List.not_mem_nil⟩⟩⟩⟩⟩⟩⟩⟩⟩⟩⟩⟩⟩⟩⟩⟩
theorem lw_p144 : lw_okq (⟨"TurfHeapsModel", "takeListed", "(II)V"⟩, 46) := ⟨⟨by decide +kernel, by decide +kernel⟩, List.mem_of_getElem? (i := 1252) (by decide +kernel), List.mem_of_getElem? (i := 1736) (by decide +kernel), List.mem_of_getElem? (i := 1737) (by decide +kernel)⟩
theorem lw_p145 : lw_okq (⟨"TurfHeapsModel", "findListed", "(I)I"⟩, 46) := ⟨⟨by decide +kernel, by decide +kernel⟩, List.mem_of_getElem? (i := 1252) (by decide +kernel), List.mem_of_getElem? (i := 1740) (by decide +kernel), List.mem_of_getElem? (i := 1741) (by decide +kernel)⟩
theorem lw_p146 : lw_okq (⟨"TurfHeapsModel", "tailFrom", "(I)I"⟩, 46) := ⟨⟨by decide +kernel, by decide +kernel⟩, List.mem_of_getElem? (i := 1252) (by decide +kernel), List.mem_of_getElem? (i := 1744) (by decide +kernel), List.mem_of_getElem? (i := 1745) (by decide +kernel)⟩
theorem lw_p147 : lw_okq (⟨"TurfHeapsModel", "isRinged", "(I)Z"⟩, 46) := ⟨⟨by decide +kernel, by decide +kernel⟩, List.mem_of_getElem? (i := 1252) (by decide +kernel), List.mem_of_getElem? (i := 1748) (by decide +kernel), List.mem_of_getElem? (i := 1749) (by decide +kernel)⟩
theorem lw_p148 : lw_okq (⟨"TurfHeapsModel", "comesTo", "(I)I"⟩, 46) := ⟨⟨by decide +kernel, by decide +kernel⟩, List.mem_of_getElem? (i := 1252) (by decide +kernel), List.mem_of_getElem? (i := 1764) (by decide +kernel), List.mem_of_getElem? (i := 1765) (by decide +kernel)⟩
theorem lw_p149 : lw_okq (⟨"TurfHeapsModel", "askRow", "(I)I"⟩, 46) := ⟨⟨by decide +kernel, by decide +kernel⟩, List.mem_of_getElem? (i := 1252) (by decide +kernel), List.mem_of_getElem? (i := 1776) (by decide +kernel), List.mem_of_getElem? (i := 1777) (by decide +kernel)⟩
theorem lw_p150 : lw_okq (⟨"TurfHeapsModel", "numberAt", "(II)J"⟩, 46) := ⟨⟨by decide +kernel, by decide +kernel⟩, List.mem_of_getElem? (i := 1252) (by decide +kernel), List.mem_of_getElem? (i := 1784) (by decide +kernel), List.mem_of_getElem? (i := 1785) (by decide +kernel)⟩
theorem lw_p151 : lw_okq (⟨"TurfHeapsModel", "lastBy", "(II)I"⟩, 46) := ⟨⟨by decide +kernel, by decide +kernel⟩, List.mem_of_getElem? (i := 1252) (by decide +kernel), List.mem_of_getElem? (i := 1801) (by decide +kernel), List.mem_of_getElem? (i := 1802) (by decide +kernel)⟩
theorem lw_p152 : lw_okq (⟨"TurfHeapsModel", "lastMany", "()I"⟩, 46) := ⟨⟨by decide +kernel, by decide +kernel⟩, List.mem_of_getElem? (i := 1252) (by decide +kernel), List.mem_of_getElem? (i := 1805) (by decide +kernel), List.mem_of_getElem? (i := 1806) (by decide +kernel)⟩
theorem lw_p153 : lw_okq (⟨"TurfHeapsModel", "layFits", "(II)I"⟩, 46) := ⟨⟨by decide +kernel, by decide +kernel⟩, List.mem_of_getElem? (i := 1252) (by decide +kernel), List.mem_of_getElem? (i := 1821) (by decide +kernel), List.mem_of_getElem? (i := 1822) (by decide +kernel)⟩
theorem lw_p154 : lw_okq (⟨"TurfHeapsModel", "askSeen", "(I)I"⟩, 46) := ⟨⟨by decide +kernel, by decide +kernel⟩, List.mem_of_getElem? (i := 1252) (by decide +kernel), List.mem_of_getElem? (i := 1825) (by decide +kernel), List.mem_of_getElem? (i := 1826) (by decide +kernel)⟩
theorem lw_p155 : lw_okq (⟨"TurfHeapsModel", "isSeen", "(I)Z"⟩, 46) := ⟨⟨by decide +kernel, by decide +kernel⟩, List.mem_of_getElem? (i := 1252) (by decide +kernel), List.mem_of_getElem? (i := 1829) (by decide +kernel), List.mem_of_getElem? (i := 1830) (by decide +kernel)⟩
theorem lw_p156 : lw_okq (⟨"TurfHeapsModel", "askOf", "()I"⟩, 46) := ⟨⟨by decide +kernel, by decide +kernel⟩, List.mem_of_getElem? (i := 1252) (by decide +kernel), List.mem_of_getElem? (i := 1845) (by decide +kernel), List.mem_of_getElem? (i := 1846) (by decide +kernel)⟩
theorem lw_p157 : lw_okq (⟨"TurfHeapsModel", "worstIn", "(I)I"⟩, 46) := ⟨⟨by decide +kernel, by decide +kernel⟩, List.mem_of_getElem? (i := 1252) (by decide +kernel), List.mem_of_getElem? (i := 1849) (by decide +kernel), List.mem_of_getElem? (i := 1850) (by decide +kernel)⟩
theorem lw_p158 : lw_okq (⟨"TurfHeapsModel", "lastByLaw", "(I)I"⟩, 46) := ⟨⟨by decide +kernel, by decide +kernel⟩, List.mem_of_getElem? (i := 1252) (by decide +kernel), List.mem_of_getElem? (i := 1865) (by decide +kernel), List.mem_of_getElem? (i := 1866) (by decide +kernel)⟩
theorem lw_p159 : lw_okq (⟨"TurfHeapsModel", "worthOf", "(I)I"⟩, 46) := ⟨⟨by decide +kernel, by decide +kernel⟩, List.mem_of_getElem? (i := 1252) (by decide +kernel), List.mem_of_getElem? (i := 1877) (by decide +kernel), List.mem_of_getElem? (i := 1878) (by decide +kernel)⟩
def lw_privs_10 : List (MethodName × Nat) := [(⟨"TurfHeapsModel", "takeListed", "(II)V"⟩, 46), (⟨"TurfHeapsModel", "findListed", "(I)I"⟩, 46), (⟨"TurfHeapsModel", "tailFrom", "(I)I"⟩, 46), (⟨"TurfHeapsModel", "isRinged", "(I)Z"⟩, 46), (⟨"TurfHeapsModel", "comesTo", "(I)I"⟩, 46), (⟨"TurfHeapsModel", "askRow", "(I)I"⟩, 46), (⟨"TurfHeapsModel", "numberAt", "(II)J"⟩, 46), (⟨"TurfHeapsModel", "lastBy", "(II)I"⟩, 46), (⟨"TurfHeapsModel", "lastMany", "()I"⟩, 46), (⟨"TurfHeapsModel", "layFits", "(II)I"⟩, 46), (⟨"TurfHeapsModel", "askSeen", "(I)I"⟩, 46), (⟨"TurfHeapsModel", "isSeen", "(I)Z"⟩, 46), (⟨"TurfHeapsModel", "askOf", "()I"⟩, 46), (⟨"TurfHeapsModel", "worstIn", "(I)I"⟩, 46), (⟨"TurfHeapsModel", "lastByLaw", "(I)I"⟩, 46), (⟨"TurfHeapsModel", "worthOf", "(I)I"⟩, 46)]
theorem lw_r10 : ∀ q ∈ lw_privs_10, lw_okq q := List.forall_mem_cons.mpr ⟨lw_p144, List.forall_mem_cons.mpr ⟨lw_p145, List.forall_mem_cons.mpr ⟨lw_p146, List.forall_mem_cons.mpr ⟨lw_p147, List.forall_mem_cons.mpr ⟨lw_p148, List.forall_mem_cons.mpr ⟨lw_p149, List.forall_mem_cons.mpr ⟨lw_p150, List.forall_mem_cons.mpr ⟨lw_p151, List.forall_mem_cons.mpr ⟨lw_p152, List.forall_mem_cons.mpr ⟨lw_p153, List.forall_mem_cons.mpr ⟨lw_p154, List.forall_mem_cons.mpr ⟨lw_p155, List.forall_mem_cons.mpr ⟨lw_p156, List.forall_mem_cons.mpr ⟨lw_p157, List.forall_mem_cons.mpr ⟨lw_p158, List.forall_mem_cons.mpr ⟨lw_p159, fun _ h => absurd h List.not_mem_nil⟩⟩⟩⟩⟩⟩⟩⟩⟩⟩⟩⟩⟩⟩⟩⟩
theorem lw_p160 : lw_okq (⟨"TurfHeapsModel", "asksTaking", "(II)Z"⟩, 46) := ⟨⟨by decide +kernel, by decide +kernel⟩, List.mem_of_getElem? (i := 1252) (by decide +kernel), List.mem_of_getElem? (i := 1902) (by decide +kernel), List.mem_of_getElem? (i := 1903) (by decide +kernel)⟩
theorem lw_p161 : lw_okq (⟨"TurfHeapsModel", "taking", "(II)I"⟩, 46) := ⟨⟨by decide +kernel, by decide +kernel⟩, List.mem_of_getElem? (i := 1252) (by decide +kernel), List.mem_of_getElem? (i := 1906) (by decide +kernel), List.mem_of_getElem? (i := 1907) (by decide +kernel)⟩
theorem lw_p162 : lw_okq (⟨"TurfHeapsModel", "isFirstHigh", "(II)Z"⟩, 46) := ⟨⟨by decide +kernel, by decide +kernel⟩, List.mem_of_getElem? (i := 1252) (by decide +kernel), List.mem_of_getElem? (i := 1914) (by decide +kernel), List.mem_of_getElem? (i := 1915) (by decide +kernel)⟩
theorem lw_p163 : lw_okq (⟨"TurfHeapsModel", "isMove", "(IIII)Z"⟩, 46) := ⟨⟨by decide +kernel, by decide +kernel⟩, List.mem_of_getElem? (i := 1252) (by decide +kernel), List.mem_of_getElem? (i := 1918) (by decide +kernel), List.mem_of_getElem? (i := 1919) (by decide +kernel)⟩
theorem lw_p164 : lw_okq (⟨"TurfHeapsModel", "areTwo", "(II)Z"⟩, 46) := ⟨⟨by decide +kernel, by decide +kernel⟩, List.mem_of_getElem? (i := 1252) (by decide +kernel), List.mem_of_getElem? (i := 1930) (by decide +kernel), List.mem_of_getElem? (i := 1931) (by decide +kernel)⟩
theorem lw_p165 : lw_okq (⟨"TurfHeapsModel", "getsBy", "(IIIII)I"⟩, 46) := ⟨⟨by decide +kernel, by decide +kernel⟩, List.mem_of_getElem? (i := 1252) (by decide +kernel), List.mem_of_getElem? (i := 1934) (by decide +kernel), List.mem_of_getElem? (i := 1935) (by decide +kernel)⟩
theorem lw_p166 : lw_okq (⟨"TurfHeapsModel", "isWet", "(II)Z"⟩, 46) := ⟨⟨by decide +kernel, by decide +kernel⟩, List.mem_of_getElem? (i := 1252) (by decide +kernel), List.mem_of_getElem? (i := 1946) (by decide +kernel), List.mem_of_getElem? (i := 1947) (by decide +kernel)⟩
theorem lw_p167 : lw_okq (⟨"TurfHeapsModel", "layWet", "(II)V"⟩, 46) := ⟨⟨by decide +kernel, by decide +kernel⟩, List.mem_of_getElem? (i := 1252) (by decide +kernel), List.mem_of_getElem? (i := 1951) (by decide +kernel), List.mem_of_getElem? (i := 1952) (by decide +kernel)⟩
theorem lw_p168 : lw_okq (⟨"TurfHeapsModel", "keepAct", "(I)I"⟩, 46) := ⟨⟨by decide +kernel, by decide +kernel⟩, List.mem_of_getElem? (i := 1252) (by decide +kernel), List.mem_of_getElem? (i := 1964) (by decide +kernel), List.mem_of_getElem? (i := 1965) (by decide +kernel)⟩
theorem lw_p169 : lw_okq (⟨"TurfHeapsModel", "goDrawn", "(J)V"⟩, 46) := ⟨⟨by decide +kernel, by decide +kernel⟩, List.mem_of_getElem? (i := 1252) (by decide +kernel), List.mem_of_getElem? (i := 1988) (by decide +kernel), List.mem_of_getElem? (i := 1989) (by decide +kernel)⟩
def lw_privs_11 : List (MethodName × Nat) := [(⟨"TurfHeapsModel", "asksTaking", "(II)Z"⟩, 46), (⟨"TurfHeapsModel", "taking", "(II)I"⟩, 46), (⟨"TurfHeapsModel", "isFirstHigh", "(II)Z"⟩, 46), (⟨"TurfHeapsModel", "isMove", "(IIII)Z"⟩, 46), (⟨"TurfHeapsModel", "areTwo", "(II)Z"⟩, 46), (⟨"TurfHeapsModel", "getsBy", "(IIIII)I"⟩, 46), (⟨"TurfHeapsModel", "isWet", "(II)Z"⟩, 46), (⟨"TurfHeapsModel", "layWet", "(II)V"⟩, 46), (⟨"TurfHeapsModel", "keepAct", "(I)I"⟩, 46), (⟨"TurfHeapsModel", "goDrawn", "(J)V"⟩, 46)]
theorem lw_r11 : ∀ q ∈ lw_privs_11, lw_okq q := List.forall_mem_cons.mpr ⟨lw_p160, List.forall_mem_cons.mpr ⟨lw_p161, List.forall_mem_cons.mpr ⟨lw_p162, List.forall_mem_cons.mpr ⟨lw_p163, List.forall_mem_cons.mpr ⟨lw_p164, List.forall_mem_cons.mpr ⟨lw_p165, List.forall_mem_cons.mpr ⟨lw_p166, List.forall_mem_cons.mpr ⟨lw_p167, List.forall_mem_cons.mpr ⟨lw_p168, List.forall_mem_cons.mpr ⟨lw_p169, fun _ h => absurd h List.not_mem_nil⟩⟩⟩⟩⟩⟩⟩⟩⟩⟩
def lw_privs : List (MethodName × Nat) := lw_privs_1 ++ (lw_privs_2 ++ (lw_privs_3 ++ (lw_privs_4 ++ (lw_privs_5 ++ (lw_privs_6 ++ (lw_privs_7 ++ (lw_privs_8 ++ (lw_privs_9 ++ (lw_privs_10 ++ (lw_privs_11))))))))))
def lw_tbl : List Cond := k2_sels lw_privs ++ tables_1
theorem lw_privs_ok : ∀ q ∈ lw_privs, lw_okq q := by
  show ∀ q ∈ lw_privs_1 ++ (lw_privs_2 ++ (lw_privs_3 ++ (lw_privs_4 ++ (lw_privs_5 ++ (lw_privs_6 ++ (lw_privs_7 ++ (lw_privs_8 ++ (lw_privs_9 ++ (lw_privs_10 ++ (lw_privs_11)))))))))), lw_okq q
  exact List.forall_mem_append.mpr ⟨lw_r1, List.forall_mem_append.mpr ⟨lw_r2, List.forall_mem_append.mpr ⟨lw_r3, List.forall_mem_append.mpr ⟨lw_r4, List.forall_mem_append.mpr ⟨lw_r5, List.forall_mem_append.mpr ⟨lw_r6, List.forall_mem_append.mpr ⟨lw_r7, List.forall_mem_append.mpr ⟨lw_r8, List.forall_mem_append.mpr ⟨lw_r9, List.forall_mem_append.mpr ⟨lw_r10, lw_r11⟩⟩⟩⟩⟩⟩⟩⟩⟩⟩
-- ===== end of PART A; then your names; then what follows =====
end
section
def RX0 : String := "TurfHeaps$Every"
def TX0 : u_T := fun k => match k with
  | 0 => ("TurfHeaps$Every", "codes", "[J", true)
  | 1 => ("TurfHeaps$Every", "next", "[I", true)
  | 2 => ("TurfHeaps$Every", "comers", "[I", true)
  | 3 => ("TurfHeaps$Every", "waiting", "[I", true)
  | 4 => ("TurfHeaps$Every", "order", "[I", true)
  | 5 => ("TurfHeaps$Every", "tails", "[I", true)
  | 6 => ("TurfHeaps$Every", "parts", "[I", true)
  | 7 => ("TurfHeaps$Every", "row", "LTurfHeaps$Row;", true)
  | 8 => ("TurfHeaps$Every", "size", "I", false)
  | 9 => ("TurfHeaps$Every", "onRings", "I", false)
  | 10 => ("TurfHeaps$Every", "ringCount", "I", false)
  | 11 => ("TurfHeaps$Every", "notComeTo", "I", false)
  | 12 => ("TurfHeaps$Every", "longestTail", "I", false)
  | 13 => ("TurfHeaps$Every", "ofTurfs", "I", false)
  | _ => ("TurfHeaps$Every", "byLaw", "I", false)
def tyX0 : Nat → FieldType := fun k => match k with
  | 0 => .array .long
  | 1 => .array .int
  | 2 => .array .int
  | 3 => .array .int
  | 4 => .array .int
  | 5 => .array .int
  | 6 => .array .int
  | 7 => .object "TurfHeaps$Row"
  | 8 => .int
  | 9 => .int
  | 10 => .int
  | 11 => .int
  | 12 => .int
  | 13 => .int
  | _ => .int
abbrev wsX00 : List Cond := u_ws RX0 TX0 15
theorem nmX0 : ∀ a, a < 15 → ∀ b, b < 15 → a ≠ b → (TX0 a).2.1 ≠ (TX0 b).2.1 := by decide +kernel
theorem tyX0_ok : ∀ k, k < 15 → parseFieldDescriptor (TX0 k).2.2.1 = some (tyX0 k) := by decide +kernel
abbrev cX0_init : ByteArray := prog_2_method_1_code
def yX0_init : MethodName := ⟨RX0, "<init>", "()V"⟩
abbrev cX0_workOut : ByteArray := prog_2_method_2_code
def yX0_workOut : MethodName := ⟨RX0, "workOut", "(II)V"⟩
abbrev cX0_listRows : ByteArray := prog_2_method_3_code
def yX0_listRows : MethodName := ⟨RX0, "listRows", "(I)V"⟩
abbrev cX0_nextParts : ByteArray := prog_2_method_4_code
def yX0_nextParts : MethodName := ⟨RX0, "nextParts", "(I)I"⟩
abbrev cX0_codeOfParts : ByteArray := prog_2_method_5_code
def yX0_codeOfParts : MethodName := ⟨RX0, "codeOfParts", "(I)J"⟩
abbrev cX0_heapOfCode : ByteArray := prog_2_method_6_code
def yX0_heapOfCode : MethodName := ⟨RX0, "heapOfCode", "(JI)I"⟩
abbrev cX0_codeOf : ByteArray := prog_2_method_7_code
def yX0_codeOf : MethodName := ⟨RX0, "codeOf", "(LTurfHeaps$Row;)J"⟩
abbrev cX0_fill : ByteArray := prog_2_method_8_code
def yX0_fill : MethodName := ⟨RX0, "fill", "(J)V"⟩
abbrev cX0_indexOf : ByteArray := prog_2_method_9_code
def yX0_indexOf : MethodName := ⟨RX0, "indexOf", "(J)I"⟩
abbrev cX0_linkRows : ByteArray := prog_2_method_10_code
def yX0_linkRows : MethodName := ⟨RX0, "linkRows", "(I)V"⟩
abbrev cX0_peelTails : ByteArray := prog_2_method_11_code
def yX0_peelTails : MethodName := ⟨RX0, "peelTails", "()I"⟩
abbrev cX0_measureTails : ByteArray := prog_2_method_12_code
def yX0_measureTails : MethodName := ⟨RX0, "measureTails", "(I)V"⟩
abbrev cX0_countRings : ByteArray := prog_2_method_13_code
def yX0_countRings : MethodName := ⟨RX0, "countRings", "()V"⟩
abbrev cX0_comersTo : ByteArray := prog_2_method_14_code
def yX0_comersTo : MethodName := ⟨RX0, "comersTo", "(LTurfHeaps$Row;)I"⟩
abbrev cX0_tailOf : ByteArray := prog_2_method_15_code
def yX0_tailOf : MethodName := ⟨RX0, "tailOf", "(LTurfHeaps$Row;)I"⟩
abbrev cX0_heapOfFirstComer : ByteArray := prog_2_method_16_code
def yX0_heapOfFirstComer : MethodName := ⟨RX0, "heapOfFirstComer", "(LTurfHeaps$Row;I)I"⟩
def RX1 : String := "TurfHeaps$Moor"
def TX1 : u_T := fun k => match k with
  | 0 => ("TurfHeaps$Moor", "told", "[I", true)
  | 1 => ("TurfHeaps$Moor", "cartTurfs", "[I", true)
  | 2 => ("TurfHeaps$Moor", "cartDay", "[I", true)
  | 3 => ("TurfHeaps$Moor", "actTurfs", "[I", true)
  | 4 => ("TurfHeaps$Moor", "actDay", "[I", true)
  | 5 => ("TurfHeaps$Moor", "days", "I", false)
  | 6 => ("TurfHeaps$Moor", "law", "I", false)
  | 7 => ("TurfHeaps$Moor", "odds", "I", false)
  | 8 => ("TurfHeaps$Moor", "lines", "I", false)
  | 9 => ("TurfHeaps$Moor", "heapsTold", "I", false)
  | 10 => ("TurfHeaps$Moor", "carts", "I", false)
  | 11 => ("TurfHeaps$Moor", "acts", "I", false)
  | _ => ("TurfHeaps$Moor", "kept", "Z", false)
def tyX1 : Nat → FieldType := fun k => match k with
  | 0 => .array .int
  | 1 => .array .int
  | 2 => .array .int
  | 3 => .array .int
  | 4 => .array .int
  | 5 => .int
  | 6 => .int
  | 7 => .int
  | 8 => .int
  | 9 => .int
  | 10 => .int
  | 11 => .int
  | _ => .boolean
abbrev wsX10 : List Cond := u_ws RX1 TX1 13
theorem nmX1 : ∀ a, a < 13 → ∀ b, b < 13 → a ≠ b → (TX1 a).2.1 ≠ (TX1 b).2.1 := by decide +kernel
theorem tyX1_ok : ∀ k, k < 13 → parseFieldDescriptor (TX1 k).2.2.1 = some (tyX1 k) := by decide +kernel
abbrev cX1_init : ByteArray := prog_3_method_1_code
def yX1_init : MethodName := ⟨RX1, "<init>", "()V"⟩
abbrev cX1_clear : ByteArray := prog_3_method_2_code
def yX1_clear : MethodName := ⟨RX1, "clear", "()V"⟩
abbrev cX1_become : ByteArray := prog_3_method_3_code
def yX1_become : MethodName := ⟨RX1, "become", "(LTurfHeaps$Moor;)V"⟩
def RX2 : String := "TurfHeaps$Round"
def TX2 : u_T := fun k => match k with
  | 0 => ("TurfHeaps$Round", "slow", "LTurfHeaps$Row;", true)
  | 1 => ("TurfHeaps$Round", "fast", "LTurfHeaps$Row;", true)
  | 2 => ("TurfHeaps$Round", "steps", "I", false)
  | 3 => ("TurfHeaps$Round", "turn", "I", false)
  | 4 => ("TurfHeaps$Round", "mostHeaps", "I", false)
  | _ => ("TurfHeaps$Round", "firstStair", "I", false)
def tyX2 : Nat → FieldType := fun k => match k with
  | 0 => .object "TurfHeaps$Row"
  | 1 => .object "TurfHeaps$Row"
  | 2 => .int
  | 3 => .int
  | 4 => .int
  | _ => .int
abbrev wsX20 : List Cond := u_ws RX2 TX2 6
theorem nmX2 : ∀ a, a < 6 → ∀ b, b < 6 → a ≠ b → (TX2 a).2.1 ≠ (TX2 b).2.1 := by decide +kernel
theorem tyX2_ok : ∀ k, k < 6 → parseFieldDescriptor (TX2 k).2.2.1 = some (tyX2 k) := by decide +kernel
abbrev cX2_init : ByteArray := prog_4_method_1_code
def yX2_init : MethodName := ⟨RX2, "<init>", "()V"⟩
abbrev cX2_follow : ByteArray := prog_4_method_2_code
def yX2_follow : MethodName := ⟨RX2, "follow", "(LTurfHeaps$Row;I)V"⟩
abbrev cX2_turnFrom : ByteArray := prog_4_method_3_code
def yX2_turnFrom : MethodName := ⟨RX2, "turnFrom", "(LTurfHeaps$Row;I)I"⟩
abbrev cX2_stepsAheadOfRing : ByteArray := prog_4_method_4_code
def yX2_stepsAheadOfRing : MethodName := ⟨RX2, "stepsAheadOfRing", "(LTurfHeaps$Row;I)I"⟩
abbrev cX2_lookForStair : ByteArray := prog_4_method_5_code
def yX2_lookForStair : MethodName := ⟨RX2, "lookForStair", "(I)V"⟩
def RX3 : String := "TurfHeaps$Row"
def TX3 : u_T := fun k => match k with
  | 0 => ("TurfHeaps$Row", "high", "[I", true)
  | 1 => ("TurfHeaps$Row", "times", "[I", true)
  | 2 => ("TurfHeaps$Row", "runs", "I", false)
  | 3 => ("TurfHeaps$Row", "heaps", "I", false)
  | _ => ("TurfHeaps$Row", "turfs", "I", false)
def tyX3 : Nat → FieldType := fun k => match k with
  | 0 => .array .int
  | 1 => .array .int
  | 2 => .int
  | 3 => .int
  | _ => .int
abbrev wsX30 : List Cond := u_ws RX3 TX3 5
theorem nmX3 : ∀ a, a < 5 → ∀ b, b < 5 → a ≠ b → (TX3 a).2.1 ≠ (TX3 b).2.1 := by decide +kernel
theorem tyX3_ok : ∀ k, k < 5 → parseFieldDescriptor (TX3 k).2.2.1 = some (tyX3 k) := by decide +kernel
abbrev cX3_init : ByteArray := prog_5_method_1_code
def yX3_init : MethodName := ⟨RX3, "<init>", "()V"⟩
abbrev cX3_clear : ByteArray := prog_5_method_2_code
def yX3_clear : MethodName := ⟨RX3, "clear", "()V"⟩
abbrev cX3_become : ByteArray := prog_5_method_3_code
def yX3_become : MethodName := ⟨RX3, "become", "(LTurfHeaps$Row;)V"⟩
abbrev cX3_alike : ByteArray := prog_5_method_4_code
def yX3_alike : MethodName := ⟨RX3, "alike", "(LTurfHeaps$Row;)Z"⟩
abbrev cX3_lay : ByteArray := prog_5_method_5_code
def yX3_lay : MethodName := ⟨RX3, "lay", "(I)V"⟩
abbrev cX3_dropHighest : ByteArray := prog_5_method_6_code
def yX3_dropHighest : MethodName := ⟨RX3, "dropHighest", "()I"⟩
abbrev cX3_step : ByteArray := prog_5_method_7_code
def yX3_step : MethodName := ⟨RX3, "step", "(I)V"⟩
abbrev cX3_lower : ByteArray := prog_5_method_8_code
def yX3_lower : MethodName := ⟨RX3, "lower", "(I)I"⟩
abbrev cX3_offEach : ByteArray := prog_5_method_9_code
def yX3_offEach : MethodName := ⟨RX3, "offEach", "(II)I"⟩
abbrev cX3_takenBy : ByteArray := prog_5_method_10_code
def yX3_takenBy : MethodName := ⟨RX3, "takenBy", "(I)I"⟩
abbrev cX3_goneBy : ByteArray := prog_5_method_11_code
def yX3_goneBy : MethodName := ⟨RX3, "goneBy", "(I)I"⟩
abbrev cX3_touched : ByteArray := prog_5_method_12_code
def yX3_touched : MethodName := ⟨RX3, "touched", "(II)I"⟩
abbrev cX3_highest : ByteArray := prog_5_method_13_code
def yX3_highest : MethodName := ⟨RX3, "highest", "()I"⟩
abbrev cX3_lowest : ByteArray := prog_5_method_14_code
def yX3_lowest : MethodName := ⟨RX3, "lowest", "()I"⟩
abbrev cX3_heapAt : ByteArray := prog_5_method_15_code
def yX3_heapAt : MethodName := ⟨RX3, "heapAt", "(I)I"⟩
abbrev cX3_heapsOf : ByteArray := prog_5_method_16_code
def yX3_heapsOf : MethodName := ⟨RX3, "heapsOf", "(I)I"⟩
abbrev cX3_heapsFrom : ByteArray := prog_5_method_17_code
def yX3_heapsFrom : MethodName := ⟨RX3, "heapsFrom", "(I)I"⟩
abbrev cX3_oddHeaps : ByteArray := prog_5_method_18_code
def yX3_oddHeaps : MethodName := ⟨RX3, "oddHeaps", "()I"⟩
abbrev cX3_isStair : ByteArray := prog_5_method_19_code
def yX3_isStair : MethodName := ⟨RX3, "isStair", "()Z"⟩
abbrev cX3_squareSide : ByteArray := prog_5_method_20_code
def yX3_squareSide : MethodName := ⟨RX3, "squareSide", "()I"⟩
abbrev cX3_sameTurnedOver : ByteArray := prog_5_method_21_code
def yX3_sameTurnedOver : MethodName := ⟨RX3, "sameTurnedOver", "()Z"⟩
abbrev cX3_standsTo : ByteArray := prog_5_method_22_code
def yX3_standsTo : MethodName := ⟨RX3, "standsTo", "(LTurfHeaps$Row;)I"⟩
abbrev cX3_nimSum : ByteArray := prog_5_method_23_code
def yX3_nimSum : MethodName := ⟨RX3, "nimSum", "(I)I"⟩
abbrev cX3_winningTake : ByteArray := prog_5_method_24_code
def yX3_winningTake : MethodName := ⟨RX3, "winningTake", "(II)I"⟩
def RX4 : String := "TurfHeaps$Season"
def TX4 : u_T := fun k => match k with
  | 0 => ("TurfHeaps$Season", "rows", "[LTurfHeaps$Row;", true)
  | 1 => ("TurfHeaps$Season", "law", "I", false)
  | 2 => ("TurfHeaps$Season", "set", "I", false)
  | 3 => ("TurfHeaps$Season", "late", "I", false)
  | 4 => ("TurfHeaps$Season", "wet", "I", false)
  | 5 => ("TurfHeaps$Season", "moreDay", "I", false)
  | 6 => ("TurfHeaps$Season", "moreTurfs", "I", false)
  | 7 => ("TurfHeaps$Season", "otherHeap", "I", false)
  | _ => ("TurfHeaps$Season", "otherTurfs", "I", false)
def tyX4 : Nat → FieldType := fun k => match k with
  | 0 => .array (.object "TurfHeaps$Row")
  | 1 => .int
  | 2 => .int
  | 3 => .int
  | 4 => .int
  | 5 => .int
  | 6 => .int
  | 7 => .int
  | _ => .int
abbrev wsX40 : List Cond := u_ws RX4 TX4 9
theorem nmX4 : ∀ a, a < 9 → ∀ b, b < 9 → a ≠ b → (TX4 a).2.1 ≠ (TX4 b).2.1 := by decide +kernel
theorem tyX4_ok : ∀ k, k < 9 → parseFieldDescriptor (TX4 k).2.2.1 = some (tyX4 k) := by decide +kernel
abbrev cX4_init : ByteArray := prog_6_method_1_code
def yX4_init : MethodName := ⟨RX4, "<init>", "()V"⟩
abbrev cX4_asTold : ByteArray := prog_6_method_2_code
def yX4_asTold : MethodName := ⟨RX4, "asTold", "(LTurfHeaps$Moor;)V"⟩
abbrev cX4_at : ByteArray := prog_6_method_3_code
def yX4_at : MethodName := ⟨RX4, "at", "(I)LTurfHeaps$Row;"⟩
abbrev cX4_pass : ByteArray := prog_6_method_4_code
def yX4_pass : MethodName := ⟨RX4, "pass", "(LTurfHeaps$Moor;)V"⟩
abbrev cX4_begin : ByteArray := prog_6_method_5_code
def yX4_begin : MethodName := ⟨RX4, "begin", "(LTurfHeaps$Moor;)V"⟩
abbrev cX4_next : ByteArray := prog_6_method_6_code
def yX4_next : MethodName := ⟨RX4, "next", "(LTurfHeaps$Moor;I)V"⟩
abbrev cX4_arrive : ByteArray := prog_6_method_7_code
def yX4_arrive : MethodName := ⟨RX4, "arrive", "(LTurfHeaps$Moor;I)V"⟩
def RX5 : String := "TurfHeaps$Seen"
def TX5 : u_T := fun k => match k with
  | 0 => ("TurfHeaps$Seen", "turfs", "[I", true)
  | 1 => ("TurfHeaps$Seen", "heaps", "[[I", true)
  | _ => ("TurfHeaps$Seen", "possible", "I", false)
def tyX5 : Nat → FieldType := fun k => match k with
  | 0 => .array .int
  | 1 => .array (.array .int)
  | _ => .int
abbrev wsX50 : List Cond := u_ws RX5 TX5 3
theorem nmX5 : ∀ a, a < 3 → ∀ b, b < 3 → a ≠ b → (TX5 a).2.1 ≠ (TX5 b).2.1 := by decide +kernel
theorem tyX5_ok : ∀ k, k < 3 → parseFieldDescriptor (TX5 k).2.2.1 = some (tyX5 k) := by decide +kernel
abbrev cX5_init : ByteArray := prog_7_method_1_code
def yX5_init : MethodName := ⟨RX5, "<init>", "()V"⟩
abbrev cX5_clear : ByteArray := prog_7_method_2_code
def yX5_clear : MethodName := ⟨RX5, "clear", "()V"⟩
abbrev cX5_keep : ByteArray := prog_7_method_3_code
def yX5_keep : MethodName := ⟨RX5, "keep", "(ILTurfHeaps$Season;)V"⟩
abbrev cX5_lowest : ByteArray := prog_7_method_4_code
def yX5_lowest : MethodName := ⟨RX5, "lowest", "()I"⟩
abbrev cX5_highest : ByteArray := prog_7_method_5_code
def yX5_highest : MethodName := ⟨RX5, "highest", "()I"⟩
abbrev cX5_bestDay : ByteArray := prog_7_method_6_code
def yX5_bestDay : MethodName := ⟨RX5, "bestDay", "(I)I"⟩
abbrev cX5_leftAtWorst : ByteArray := prog_7_method_7_code
def yX5_leftAtWorst : MethodName := ⟨RX5, "leftAtWorst", "(I)I"⟩
abbrev cX5_worstOf : ByteArray := prog_7_method_8_code
def yX5_worstOf : MethodName := ⟨RX5, "worstOf", "(I)I"⟩
def RX6 : String := "TurfHeaps$Slot"
def TX6 : u_T := fun k => match k with
  | 0 => ("TurfHeaps$Slot", "numbers", "[J", true)
  | 1 => ("TurfHeaps$Slot", "has", "Z", false)
  | 2 => ("TurfHeaps$Slot", "width", "I", false)
  | _ => ("TurfHeaps$Slot", "size", "I", false)
def tyX6 : Nat → FieldType := fun k => match k with
  | 0 => .array .long
  | 1 => .boolean
  | 2 => .int
  | _ => .int
abbrev wsX60 : List Cond := u_ws RX6 TX6 4
theorem nmX6 : ∀ a, a < 4 → ∀ b, b < 4 → a ≠ b → (TX6 a).2.1 ≠ (TX6 b).2.1 := by decide +kernel
theorem tyX6_ok : ∀ k, k < 4 → parseFieldDescriptor (TX6 k).2.2.1 = some (tyX6 k) := by decide +kernel
abbrev cX6_init : ByteArray := prog_8_method_1_code
def yX6_init : MethodName := ⟨RX6, "<init>", "()V"⟩
abbrev cX6_lay : ByteArray := prog_8_method_2_code
def yX6_lay : MethodName := ⟨RX6, "lay", "(II)V"⟩
abbrev cX6_reaches : ByteArray := prog_8_method_3_code
def yX6_reaches : MethodName := ⟨RX6, "reaches", "(II)Z"⟩
abbrev cX6_fillSmall : ByteArray := prog_8_method_4_code
def yX6_fillSmall : MethodName := ⟨RX6, "fillSmall", "(LTurfHeaps$Row;)Z"⟩
abbrev cX6_isOfThrees : ByteArray := prog_8_method_5_code
def yX6_isOfThrees : MethodName := ⟨RX6, "isOfThrees", "(I)Z"⟩
abbrev cX6_tellsOf : ByteArray := prog_8_method_6_code
def yX6_tellsOf : MethodName := ⟨RX6, "tellsOf", "(LTurfHeaps$Season;)Z"⟩
def RX7 : String := "TurfHeaps$Tape"
def TX7 : u_T := fun k => match k with
  | 0 => ("TurfHeaps$Tape", "bytes", "[B", true)
  | 1 => ("TurfHeaps$Tape", "size", "I", false)
  | 2 => ("TurfHeaps$Tape", "fault", "I", false)
  | 3 => ("TurfHeaps$Tape", "faultPlace", "I", false)
  | 4 => ("TurfHeaps$Tape", "place", "I", false)
  | 5 => ("TurfHeaps$Tape", "kind", "I", false)
  | _ => ("TurfHeaps$Tape", "start", "I", false)
def tyX7 : Nat → FieldType := fun k => match k with
  | 0 => .array .byte
  | 1 => .int
  | 2 => .int
  | 3 => .int
  | 4 => .int
  | 5 => .int
  | _ => .int
abbrev wsX70 : List Cond := u_ws RX7 TX7 7
theorem nmX7 : ∀ a, a < 7 → ∀ b, b < 7 → a ≠ b → (TX7 a).2.1 ≠ (TX7 b).2.1 := by decide +kernel
theorem tyX7_ok : ∀ k, k < 7 → parseFieldDescriptor (TX7 k).2.2.1 = some (tyX7 k) := by decide +kernel
abbrev cX7_init : ByteArray := prog_9_method_1_code
def yX7_init : MethodName := ⟨RX7, "<init>", "()V"⟩
abbrev cX7_put : ByteArray := prog_9_method_2_code
def yX7_put : MethodName := ⟨RX7, "put", "(I)V"⟩
abbrev cX7_readInto : ByteArray := prog_9_method_3_code
def yX7_readInto : MethodName := ⟨RX7, "readInto", "(LTurfHeaps$Moor;)Z"⟩
abbrev cX7_readLine : ByteArray := prog_9_method_4_code
def yX7_readLine : MethodName := ⟨RX7, "readLine", "(LTurfHeaps$Moor;)V"⟩
abbrev cX7_readFirst : ByteArray := prog_9_method_5_code
def yX7_readFirst : MethodName := ⟨RX7, "readFirst", "(LTurfHeaps$Moor;)V"⟩
abbrev cX7_readHeap : ByteArray := prog_9_method_6_code
def yX7_readHeap : MethodName := ⟨RX7, "readHeap", "(LTurfHeaps$Moor;)V"⟩
abbrev cX7_readCart : ByteArray := prog_9_method_7_code
def yX7_readCart : MethodName := ⟨RX7, "readCart", "(LTurfHeaps$Moor;)V"⟩
abbrev cX7_expect : ByteArray := prog_9_method_8_code
def yX7_expect : MethodName := ⟨RX7, "expect", "(Z)V"⟩
abbrev cX7_expectNumber : ByteArray := prog_9_method_9_code
def yX7_expectNumber : MethodName := ⟨RX7, "expectNumber", "(II)I"⟩
abbrev cX7_fail : ByteArray := prog_9_method_10_code
def yX7_fail : MethodName := ⟨RX7, "fail", "(I)V"⟩
abbrev cX7_nextToken : ByteArray := prog_9_method_11_code
def yX7_nextToken : MethodName := ⟨RX7, "nextToken", "()V"⟩
abbrev cX7_isWord : ByteArray := prog_9_method_12_code
def yX7_isWord : MethodName := ⟨RX7, "isWord", "(Ljava/lang/String;)Z"⟩
abbrev cX7_number : ByteArray := prog_9_method_13_code
def yX7_number : MethodName := ⟨RX7, "number", "()I"⟩
abbrev cX7_isBlank : ByteArray := prog_9_method_14_code
def yX7_isBlank : MethodName := ⟨RX7, "isBlank", "(B)Z"⟩
abbrev cX7_isLetter : ByteArray := prog_9_method_15_code
def yX7_isLetter : MethodName := ⟨RX7, "isLetter", "(B)Z"⟩
abbrev cX7_isDigit : ByteArray := prog_9_method_16_code
def yX7_isDigit : MethodName := ⟨RX7, "isDigit", "(B)Z"⟩
def RX8 : String := "TurfHeaps"
def TX8 : u_T := fun k => match k with
  | 0 => ("TurfHeaps", "tape", "LTurfHeaps$Tape;", true)
  | 1 => ("TurfHeaps", "moor", "LTurfHeaps$Moor;", true)
  | 2 => ("TurfHeaps", "fresh", "LTurfHeaps$Moor;", true)
  | 3 => ("TurfHeaps", "images", "[LTurfHeaps$Moor;", true)
  | 4 => ("TurfHeaps", "slots", "[LTurfHeaps$Slot;", true)
  | 5 => ("TurfHeaps", "now", "LTurfHeaps$Season;", true)
  | 6 => ("TurfHeaps", "varied", "LTurfHeaps$Season;", true)
  | 7 => ("TurfHeaps", "round", "LTurfHeaps$Round;", true)
  | 8 => ("TurfHeaps", "every", "LTurfHeaps$Every;", true)
  | 9 => ("TurfHeaps", "seen", "LTurfHeaps$Seen;", true)
  | 10 => ("TurfHeaps", "loose", "LTurfHeaps$Row;", true)
  | 11 => ("TurfHeaps", "worths", "[I", true)
  | 12 => ("TurfHeaps", "pays", "[I", true)
  | 13 => ("TurfHeaps", "passed", "Z", false)
  | 14 => ("TurfHeaps", "worthsKnown", "Z", false)
  | _ => ("TurfHeaps", "roundDay", "I", false)
def tyX8 : Nat → FieldType := fun k => match k with
  | 0 => .object "TurfHeaps$Tape"
  | 1 => .object "TurfHeaps$Moor"
  | 2 => .object "TurfHeaps$Moor"
  | 3 => .array (.object "TurfHeaps$Moor")
  | 4 => .array (.object "TurfHeaps$Slot")
  | 5 => .object "TurfHeaps$Season"
  | 6 => .object "TurfHeaps$Season"
  | 7 => .object "TurfHeaps$Round"
  | 8 => .object "TurfHeaps$Every"
  | 9 => .object "TurfHeaps$Seen"
  | 10 => .object "TurfHeaps$Row"
  | 11 => .array .int
  | 12 => .array .int
  | 13 => .boolean
  | 14 => .boolean
  | _ => .int
abbrev wsX80 : List Cond := u_ws RX8 TX8 16
theorem nmX8 : ∀ a, a < 16 → ∀ b, b < 16 → a ≠ b → (TX8 a).2.1 ≠ (TX8 b).2.1 := by decide +kernel
theorem tyX8_ok : ∀ k, k < 16 → parseFieldDescriptor (TX8 k).2.2.1 = some (tyX8 k) := by decide +kernel
abbrev cX8_init : ByteArray := prog_1_method_1_code
def yX8_init : MethodName := ⟨RX8, "<init>", "()V"⟩
abbrev cX8_feed : ByteArray := prog_1_method_2_code
def yX8_feed : MethodName := ⟨RX8, "feed", "(IIIII)I"⟩
abbrev cX8_end : ByteArray := prog_1_method_3_code
def yX8_end : MethodName := ⟨RX8, "end", "(I)I"⟩
abbrev cX8_moor : ByteArray := prog_1_method_4_code
def yX8_moor : MethodName := ⟨RX8, "moor", "()I"⟩
abbrev cX8_fault : ByteArray := prog_1_method_5_code
def yX8_fault : MethodName := ⟨RX8, "fault", "(I)I"⟩
abbrev cX8_told : ByteArray := prog_1_method_6_code
def yX8_told : MethodName := ⟨RX8, "told", "(I)I"⟩
abbrev cX8_cart : ByteArray := prog_1_method_7_code
def yX8_cart : MethodName := ⟨RX8, "cart", "(II)I"⟩
abbrev cX8_heaps : ByteArray := prog_1_method_8_code
def yX8_heaps : MethodName := ⟨RX8, "heaps", "(I)I"⟩
abbrev cX8_heap : ByteArray := prog_1_method_9_code
def yX8_heap : MethodName := ⟨RX8, "heap", "(II)I"⟩
abbrev cX8_all : ByteArray := prog_1_method_10_code
def yX8_all : MethodName := ⟨RX8, "all", "(I)I"⟩
abbrev cX8_many : ByteArray := prog_1_method_11_code
def yX8_many : MethodName := ⟨RX8, "many", "(II)I"⟩
abbrev cX8_sorts : ByteArray := prog_1_method_12_code
def yX8_sorts : MethodName := ⟨RX8, "sorts", "(I)I"⟩
abbrev cX8_spread : ByteArray := prog_1_method_13_code
def yX8_spread : MethodName := ⟨RX8, "spread", "(I)I"⟩
abbrev cX8_odd : ByteArray := prog_1_method_14_code
def yX8_odd : MethodName := ⟨RX8, "odd", "(I)I"⟩
abbrev cX8_taken : ByteArray := prog_1_method_15_code
def yX8_taken : MethodName := ⟨RX8, "taken", "(I)I"⟩
abbrev cX8_gone : ByteArray := prog_1_method_16_code
def yX8_gone : MethodName := ⟨RX8, "gone", "(I)I"⟩
abbrev cX8_most : ByteArray := prog_1_method_17_code
def yX8_most : MethodName := ⟨RX8, "most", "()I"⟩
abbrev cX8_peak : ByteArray := prog_1_method_18_code
def yX8_peak : MethodName := ⟨RX8, "peak", "()I"⟩
abbrev cX8_same : ByteArray := prog_1_method_19_code
def yX8_same : MethodName := ⟨RX8, "same", "(I)I"⟩
abbrev cX8_still : ByteArray := prog_1_method_20_code
def yX8_still : MethodName := ⟨RX8, "still", "()I"⟩
abbrev cX8_rows : ByteArray := prog_1_method_21_code
def yX8_rows : MethodName := ⟨RX8, "rows", "()I"⟩
abbrev cX8_stair : ByteArray := prog_1_method_22_code
def yX8_stair : MethodName := ⟨RX8, "stair", "(I)I"⟩
abbrev cX8_stairs : ByteArray := prog_1_method_23_code
def yX8_stairs : MethodName := ⟨RX8, "stairs", "()I"⟩
abbrev cX8_square : ByteArray := prog_1_method_24_code
def yX8_square : MethodName := ⟨RX8, "square", "(I)I"⟩
abbrev cX8_flip : ByteArray := prog_1_method_25_code
def yX8_flip : MethodName := ⟨RX8, "flip", "(II)I"⟩
abbrev cX8_even : ByteArray := prog_1_method_26_code
def yX8_even : MethodName := ⟨RX8, "even", "(I)I"⟩
abbrev cX8_above : ByteArray := prog_1_method_27_code
def yX8_above : MethodName := ⟨RX8, "above", "(II)I"⟩
abbrev cX8_tail : ByteArray := prog_1_method_28_code
def yX8_tail : MethodName := ⟨RX8, "tail", "(I)I"⟩
abbrev cX8_length : ByteArray := prog_1_method_29_code
def yX8_length : MethodName := ⟨RX8, "length", "(I)I"⟩
abbrev cX8_ring : ByteArray := prog_1_method_30_code
def yX8_ring : MethodName := ⟨RX8, "ring", "(I)I"⟩
abbrev cX8_later : ByteArray := prog_1_method_31_code
def yX8_later : MethodName := ⟨RX8, "later", "(III)I"⟩
abbrev cX8_soon : ByteArray := prog_1_method_32_code
def yX8_soon : MethodName := ⟨RX8, "soon", "(I)I"⟩
abbrev cX8_rowsOf : ByteArray := prog_1_method_33_code
def yX8_rowsOf : MethodName := ⟨RX8, "rowsOf", "(I)I"⟩
abbrev cX8_ringed : ByteArray := prog_1_method_34_code
def yX8_ringed : MethodName := ⟨RX8, "ringed", "(I)I"⟩
abbrev cX8_rings : ByteArray := prog_1_method_35_code
def yX8_rings : MethodName := ⟨RX8, "rings", "(I)I"⟩
abbrev cX8_gardens : ByteArray := prog_1_method_36_code
def yX8_gardens : MethodName := ⟨RX8, "gardens", "(I)I"⟩
abbrev cX8_longest : ByteArray := prog_1_method_37_code
def yX8_longest : MethodName := ⟨RX8, "longest", "(I)I"⟩
abbrev cX8_ahead : ByteArray := prog_1_method_38_code
def yX8_ahead : MethodName := ⟨RX8, "ahead", "(I)I"⟩
abbrev cX8_from : ByteArray := prog_1_method_39_code
def yX8_from : MethodName := ⟨RX8, "from", "(II)I"⟩
abbrev cX8_way : ByteArray := prog_1_method_40_code
def yX8_way : MethodName := ⟨RX8, "way", "(I)I"⟩
abbrev cX8_bring : ByteArray := prog_1_method_41_code
def yX8_bring : MethodName := ⟨RX8, "bring", "(II)I"⟩
abbrev cX8_latest : ByteArray := prog_1_method_42_code
def yX8_latest : MethodName := ⟨RX8, "latest", "(I)I"⟩
abbrev cX8_spare : ByteArray := prog_1_method_43_code
def yX8_spare : MethodName := ⟨RX8, "spare", "()I"⟩
abbrev cX8_heights : ByteArray := prog_1_method_44_code
def yX8_heights : MethodName := ⟨RX8, "heights", "(II)I"⟩
abbrev cX8_least : ByteArray := prog_1_method_45_code
def yX8_least : MethodName := ⟨RX8, "least", "(II)I"⟩
abbrev cX8_greatest : ByteArray := prog_1_method_46_code
def yX8_greatest : MethodName := ⟨RX8, "greatest", "(II)I"⟩
abbrev cX8_ask : ByteArray := prog_1_method_47_code
def yX8_ask : MethodName := ⟨RX8, "ask", "(II)I"⟩
abbrev cX8_leaves : ByteArray := prog_1_method_48_code
def yX8_leaves : MethodName := ⟨RX8, "leaves", "(II)I"⟩
abbrev cX8_laws : ByteArray := prog_1_method_49_code
def yX8_laws : MethodName := ⟨RX8, "laws", "(I)I"⟩
abbrev cX8_by : ByteArray := prog_1_method_50_code
def yX8_by : MethodName := ⟨RX8, "by", "(I)I"⟩
abbrev cX8_law : ByteArray := prog_1_method_51_code
def yX8_law : MethodName := ⟨RX8, "law", "()I"⟩
abbrev cX8_worth : ByteArray := prog_1_method_52_code
def yX8_worth : MethodName := ⟨RX8, "worth", "(I)I"⟩
abbrev cX8_share : ByteArray := prog_1_method_53_code
def yX8_share : MethodName := ⟨RX8, "share", "(II)I"⟩
abbrev cX8_wins : ByteArray := prog_1_method_54_code
def yX8_wins : MethodName := ⟨RX8, "wins", "(II)I"⟩
abbrev cX8_moves : ByteArray := prog_1_method_55_code
def yX8_moves : MethodName := ⟨RX8, "moves", "(II)I"⟩
abbrev cX8_move : ByteArray := prog_1_method_56_code
def yX8_move : MethodName := ⟨RX8, "move", "(II)I"⟩
abbrev cX8_rests : ByteArray := prog_1_method_57_code
def yX8_rests : MethodName := ⟨RX8, "rests", "(II)I"⟩
abbrev cX8_gets : ByteArray := prog_1_method_58_code
def yX8_gets : MethodName := ⟨RX8, "gets", "(IIIII)I"⟩
abbrev cX8_chance : ByteArray := prog_1_method_59_code
def yX8_chance : MethodName := ⟨RX8, "chance", "(III)J"⟩
abbrev cX8_mean : ByteArray := prog_1_method_60_code
def yX8_mean : MethodName := ⟨RX8, "mean", "(II)J"⟩
abbrev cX8_brings : ByteArray := prog_1_method_61_code
def yX8_brings : MethodName := ⟨RX8, "brings", "(II)I"⟩
abbrev cX8_away : ByteArray := prog_1_method_62_code
def yX8_away : MethodName := ⟨RX8, "away", "(I)I"⟩
abbrev cX8_undo : ByteArray := prog_1_method_63_code
def yX8_undo : MethodName := ⟨RX8, "undo", "()I"⟩
abbrev cX8_anew : ByteArray := prog_1_method_64_code
def yX8_anew : MethodName := ⟨RX8, "anew", "()I"⟩
abbrev cX8_drawn : ByteArray := prog_1_method_65_code
def yX8_drawn : MethodName := ⟨RX8, "drawn", "(II)I"⟩
abbrev cX8_luck : ByteArray := prog_1_method_66_code
def yX8_luck : MethodName := ⟨RX8, "luck", "(III)I"⟩
abbrev cX8_rate : ByteArray := prog_1_method_67_code
def yX8_rate : MethodName := ⟨RX8, "rate", "(II)I"⟩
abbrev cX8_count : ByteArray := prog_1_method_68_code
def yX8_count : MethodName := ⟨RX8, "count", "(I)I"⟩
abbrev cX8_image : ByteArray := prog_1_method_69_code
def yX8_image : MethodName := ⟨RX8, "image", "(I)I"⟩
abbrev cX8_back : ByteArray := prog_1_method_70_code
def yX8_back : MethodName := ⟨RX8, "back", "(I)I"⟩
abbrev cX8_row : ByteArray := prog_1_method_71_code
def yX8_row : MethodName := ⟨RX8, "row", "(III)I"⟩
abbrev cX8_write : ByteArray := prog_1_method_72_code
def yX8_write : MethodName := ⟨RX8, "write", "(IIJ)I"⟩
abbrev cX8_paste : ByteArray := prog_1_method_73_code
def yX8_paste : MethodName := ⟨RX8, "paste", "(IIIII)I"⟩
abbrev cX8_noMoor : ByteArray := prog_1_method_74_code
def yX8_noMoor : MethodName := ⟨RX8, "noMoor", "()Z"⟩
abbrev cX8_isDay : ByteArray := prog_1_method_75_code
def yX8_isDay : MethodName := ⟨RX8, "isDay", "(I)Z"⟩
abbrev cX8_isDayAheadOfLast : ByteArray := prog_1_method_76_code
def yX8_isDayAheadOfLast : MethodName := ⟨RX8, "isDayAheadOfLast", "(I)Z"⟩
abbrev cX8_isChanceDay : ByteArray := prog_1_method_77_code
def yX8_isChanceDay : MethodName := ⟨RX8, "isChanceDay", "(I)Z"⟩
abbrev cX8_isTold : ByteArray := prog_1_method_78_code
def yX8_isTold : MethodName := ⟨RX8, "isTold", "(I)Z"⟩
abbrev cX8_isCart : ByteArray := prog_1_method_79_code
def yX8_isCart : MethodName := ⟨RX8, "isCart", "(I)Z"⟩
abbrev cX8_isOfAll : ByteArray := prog_1_method_80_code
def yX8_isOfAll : MethodName := ⟨RX8, "isOfAll", "(I)Z"⟩
abbrev cX8_isSlot : ByteArray := prog_1_method_81_code
def yX8_isSlot : MethodName := ⟨RX8, "isSlot", "(I)Z"⟩
abbrev cX8_isWhat : ByteArray := prog_1_method_82_code
def yX8_isWhat : MethodName := ⟨RX8, "isWhat", "(I)Z"⟩
abbrev cX8_asNumber : ByteArray := prog_1_method_83_code
def yX8_asNumber : MethodName := ⟨RX8, "asNumber", "(Z)I"⟩
abbrev cX8_forget : ByteArray := prog_1_method_84_code
def yX8_forget : MethodName := ⟨RX8, "forget", "()V"⟩
abbrev cX8_rowOfDay : ByteArray := prog_1_method_85_code
def yX8_rowOfDay : MethodName := ⟨RX8, "rowOfDay", "(I)LTurfHeaps$Row;"⟩
abbrev cX8_heapsAtLast : ByteArray := prog_1_method_86_code
def yX8_heapsAtLast : MethodName := ⟨RX8, "heapsAtLast", "()I"⟩
abbrev cX8_firstLike : ByteArray := prog_1_method_87_code
def yX8_firstLike : MethodName := ⟨RX8, "firstLike", "(I)I"⟩
abbrev cX8_roundOf : ByteArray := prog_1_method_88_code
def yX8_roundOf : MethodName := ⟨RX8, "roundOf", "(I)LTurfHeaps$Round;"⟩
abbrev cX8_everyOf : ByteArray := prog_1_method_89_code
def yX8_everyOf : MethodName := ⟨RX8, "everyOf", "(I)LTurfHeaps$Every;"⟩
abbrev cX8_heapsWithMore : ByteArray := prog_1_method_90_code
def yX8_heapsWithMore : MethodName := ⟨RX8, "heapsWithMore", "(II)I"⟩
abbrev cX8_heapsWithSet : ByteArray := prog_1_method_91_code
def yX8_heapsWithSet : MethodName := ⟨RX8, "heapsWithSet", "(I)I"⟩
abbrev cX8_heapsWithWet : ByteArray := prog_1_method_92_code
def yX8_heapsWithWet : MethodName := ⟨RX8, "heapsWithWet", "(I)I"⟩
abbrev cX8_passByLaw : ByteArray := prog_1_method_93_code
def yX8_passByLaw : MethodName := ⟨RX8, "passByLaw", "(I)LTurfHeaps$Row;"⟩
abbrev cX8_passLate : ByteArray := prog_1_method_94_code
def yX8_passLate : MethodName := ⟨RX8, "passLate", "(IIII)LTurfHeaps$Row;"⟩
abbrev cX8_payOfFirst : ByteArray := prog_1_method_95_code
def yX8_payOfFirst : MethodName := ⟨RX8, "payOfFirst", "(LTurfHeaps$Row;I)I"⟩
abbrev cX8_payOfSecond : ByteArray := prog_1_method_96_code
def yX8_payOfSecond : MethodName := ⟨RX8, "payOfSecond", "(LTurfHeaps$Row;I)I"⟩
abbrev cX8_act : ByteArray := prog_1_method_97_code
def yX8_act : MethodName := ⟨RX8, "act", "(II)I"⟩
abbrev cX8_gainOverOrders : ByteArray := prog_1_method_98_code
def yX8_gainOverOrders : MethodName := ⟨RX8, "gainOverOrders", "(I)I"⟩
abbrev cX8_knowWorths : ByteArray := prog_1_method_99_code
def yX8_knowWorths : MethodName := ⟨RX8, "knowWorths", "()V"⟩
abbrev cX8_factorial : ByteArray := prog_1_method_100_code
def yX8_factorial : MethodName := ⟨RX8, "factorial", "(I)I"⟩
abbrev cX8_fraction : ByteArray := prog_1_method_101_code
def yX8_fraction : MethodName := ⟨RX8, "fraction", "(JJI)J"⟩
abbrev cX8_commonDivisor : ByteArray := prog_1_method_102_code
def yX8_commonDivisor : MethodName := ⟨RX8, "commonDivisor", "(JJ)J"⟩
abbrev cX8_weighHeaps : ByteArray := prog_1_method_103_code
def yX8_weighHeaps : MethodName := ⟨RX8, "weighHeaps", "(II)J"⟩
abbrev cX8_passChoice : ByteArray := prog_1_method_104_code
def yX8_passChoice : MethodName := ⟨RX8, "passChoice", "(III)V"⟩
abbrev cX8_weightOf : ByteArray := prog_1_method_105_code
def yX8_weightOf : MethodName := ⟨RX8, "weightOf", "(II)J"⟩
abbrev cX8_countOf : ByteArray := prog_1_method_106_code
def yX8_countOf : MethodName := ⟨RX8, "countOf", "(II)I"⟩
abbrev cX8_powerOfTen : ByteArray := prog_1_method_107_code
def yX8_powerOfTen : MethodName := ⟨RX8, "powerOfTen", "(I)J"⟩
abbrev cX8_wetDays : ByteArray := prog_1_method_108_code
def yX8_wetDays : MethodName := ⟨RX8, "wetDays", "(J)I"⟩
abbrev cX8_slotsWithRow : ByteArray := prog_1_method_109_code
def yX8_slotsWithRow : MethodName := ⟨RX8, "slotsWithRow", "()I"⟩
abbrev cX8_cut : ByteArray := prog_1_method_110_code
def yX8_cut : MethodName := ⟨RX8, "cut", "(JI)J"⟩
abbrev cX8_smallRowFault : ByteArray := prog_1_method_111_code
def yX8_smallRowFault : MethodName := ⟨RX8, "smallRowFault", "(I)I"⟩
abbrev cX8_seenFault : ByteArray := prog_1_method_112_code
def yX8_seenFault : MethodName := ⟨RX8, "seenFault", "(IZ)I"⟩
abbrev cX8_lookAt : ByteArray := prog_1_method_113_code
def yX8_lookAt : MethodName := ⟨RX8, "lookAt", "(II)LTurfHeaps$Seen;"⟩
def RX9 : String := "TurfHeapsModel"
def TX9 : u_T := fun k => match k with
  | 0 => ("TurfHeapsModel", "thrown", "I", false)
  | 1 => ("TurfHeapsModel", "world", "[I", true)
  | 2 => ("TurfHeapsModel", "images", "[I", true)
  | 3 => ("TurfHeapsModel", "hasImage", "[Z", true)
  | 4 => ("TurfHeapsModel", "tape", "[B", true)
  | 5 => ("TurfHeapsModel", "taped", "I", false)
  | 6 => ("TurfHeapsModel", "five", "[I", true)
  | 7 => ("TurfHeapsModel", "size", "I", false)
  | 8 => ("TurfHeapsModel", "at", "I", false)
  | 9 => ("TurfHeapsModel", "from", "I", false)
  | 10 => ("TurfHeapsModel", "token", "I", false)
  | 11 => ("TurfHeapsModel", "value", "I", false)
  | 12 => ("TurfHeapsModel", "faultKind", "I", false)
  | 13 => ("TurfHeapsModel", "faultPlace", "I", false)
  | 14 => ("TurfHeapsModel", "fresh", "[I", true)
  | 15 => ("TurfHeapsModel", "store", "[I", true)
  | 16 => ("TurfHeapsModel", "lawNow", "I", false)
  | 17 => ("TurfHeapsModel", "stepTaken", "I", false)
  | 18 => ("TurfHeapsModel", "stepGone", "I", false)
  | 19 => ("TurfHeapsModel", "heapNow", "[I", true)
  | 20 => ("TurfHeapsModel", "cartDay", "[I", true)
  | 21 => ("TurfHeapsModel", "wetSet", "I", false)
  | 22 => ("TurfHeapsModel", "comeSet", "I", false)
  | 23 => ("TurfHeapsModel", "moreDay", "I", false)
  | 24 => ("TurfHeapsModel", "moreTurfs", "I", false)
  | 25 => ("TurfHeapsModel", "takenIn", "[I", true)
  | 26 => ("TurfHeapsModel", "goneIn", "[I", true)
  | 27 => ("TurfHeapsModel", "tailNow", "I", false)
  | 28 => ("TurfHeapsModel", "lengthNow", "I", false)
  | 29 => ("TurfHeapsModel", "listed", "[I", true)
  | 30 => ("TurfHeapsModel", "stepsTo", "[I", true)
  | 31 => ("TurfHeapsModel", "tailsOf", "[I", true)
  | 32 => ("TurfHeapsModel", "listMany", "I", false)
  | 33 => ("TurfHeapsModel", "slotRow", "I", false)
  | 34 => ("TurfHeapsModel", "fit", "[I", true)
  | 35 => ("TurfHeapsModel", "manyBy", "[I", true)
  | 36 => ("TurfHeapsModel", "fitMany", "I", false)
  | 37 => ("TurfHeapsModel", "askWorst", "I", false)
  | 38 => ("TurfHeapsModel", "worthBy", "[I", true)
  | 39 => ("TurfHeapsModel", "oftenAll", "J", false)
  | 40 => ("TurfHeapsModel", "oftenMany", "J", false)
  | 41 => ("TurfHeapsModel", "oftenSum", "J", false)
  | 42 => ("TurfHeapsModel", "many", "[I", true)
  | 43 => ("TurfHeapsModel", "width", "[I", true)
  | 44 => ("TurfHeapsModel", "numbers", "[J", true)
  | _ => ("TurfHeapsModel", "moving", "[J", true)
def tyX9 : Nat → FieldType := fun k => match k with
  | 0 => .int
  | 1 => .array .int
  | 2 => .array .int
  | 3 => .array .boolean
  | 4 => .array .byte
  | 5 => .int
  | 6 => .array .int
  | 7 => .int
  | 8 => .int
  | 9 => .int
  | 10 => .int
  | 11 => .int
  | 12 => .int
  | 13 => .int
  | 14 => .array .int
  | 15 => .array .int
  | 16 => .int
  | 17 => .int
  | 18 => .int
  | 19 => .array .int
  | 20 => .array .int
  | 21 => .int
  | 22 => .int
  | 23 => .int
  | 24 => .int
  | 25 => .array .int
  | 26 => .array .int
  | 27 => .int
  | 28 => .int
  | 29 => .array .int
  | 30 => .array .int
  | 31 => .array .int
  | 32 => .int
  | 33 => .int
  | 34 => .array .int
  | 35 => .array .int
  | 36 => .int
  | 37 => .int
  | 38 => .array .int
  | 39 => .long
  | 40 => .long
  | 41 => .long
  | 42 => .array .int
  | 43 => .array .int
  | 44 => .array .long
  | _ => .array .long
abbrev wsX90 : List Cond := u_ws RX9 TX9 46
theorem nmX9 : ∀ a, a < 46 → ∀ b, b < 46 → a ≠ b → (TX9 a).2.1 ≠ (TX9 b).2.1 := by decide +kernel
theorem tyX9_ok : ∀ k, k < 46 → parseFieldDescriptor (TX9 k).2.2.1 = some (tyX9 k) := by decide +kernel
abbrev cX9_init : ByteArray := prog_11_method_1_code
def yX9_init : MethodName := ⟨RX9, "<init>", "()V"⟩
abbrev cX9_in : ByteArray := prog_11_method_3_code
def yX9_in : MethodName := ⟨RX9, "in", "(JJJ)Z"⟩
abbrev cX9_bits : ByteArray := prog_11_method_4_code
def yX9_bits : MethodName := ⟨RX9, "bits", "(I)I"⟩
abbrev cX9_bit : ByteArray := prog_11_method_5_code
def yX9_bit : MethodName := ⟨RX9, "bit", "(II)I"⟩
abbrev cX9_image : ByteArray := prog_11_method_6_code
def yX9_image : MethodName := ⟨RX9, "image", "(I)I"⟩
abbrev cX9_back : ByteArray := prog_11_method_7_code
def yX9_back : MethodName := ⟨RX9, "back", "(I)I"⟩
abbrev cX9_isMoor : ByteArray := prog_11_method_8_code
def yX9_isMoor : MethodName := ⟨RX9, "isMoor", "()Z"⟩
abbrev cX9_days : ByteArray := prog_11_method_9_code
def yX9_days : MethodName := ⟨RX9, "days", "()I"⟩
abbrev cX9_cartMany : ByteArray := prog_11_method_10_code
def yX9_cartMany : MethodName := ⟨RX9, "cartMany", "()I"⟩
abbrev cX9_isDay : ByteArray := prog_11_method_11_code
def yX9_isDay : MethodName := ⟨RX9, "isDay", "(J)Z"⟩
abbrev cX9_isAhead : ByteArray := prog_11_method_12_code
def yX9_isAhead : MethodName := ⟨RX9, "isAhead", "(J)Z"⟩
abbrev cX9_isHeap : ByteArray := prog_11_method_13_code
def yX9_isHeap : MethodName := ⟨RX9, "isHeap", "(I)Z"⟩
abbrev cX9_isCart : ByteArray := prog_11_method_14_code
def yX9_isCart : MethodName := ⟨RX9, "isCart", "(I)Z"⟩
abbrev cX9_feed : ByteArray := prog_11_method_15_code
def yX9_feed : MethodName := ⟨RX9, "feed", "(IIIII)I"⟩
abbrev cX9_end : ByteArray := prog_11_method_16_code
def yX9_end : MethodName := ⟨RX9, "end", "(I)I"⟩
abbrev cX9_see : ByteArray := prog_11_method_17_code
def yX9_see : MethodName := ⟨RX9, "see", "(I)I"⟩
abbrev cX9_advance : ByteArray := prog_11_method_18_code
def yX9_advance : MethodName := ⟨RX9, "advance", "()V"⟩
abbrev cX9_good : ByteArray := prog_11_method_19_code
def yX9_good : MethodName := ⟨RX9, "good", "()Z"⟩
abbrev cX9_errs : ByteArray := prog_11_method_20_code
def yX9_errs : MethodName := ⟨RX9, "errs", "(I)V"⟩
abbrev cX9_is : ByteArray := prog_11_method_21_code
def yX9_is : MethodName := ⟨RX9, "is", "(Ljava/lang/String;)Z"⟩
abbrev cX9_takes : ByteArray := prog_11_method_22_code
def yX9_takes : MethodName := ⟨RX9, "takes", "(Ljava/lang/String;)Z"⟩
abbrev cX9_expects : ByteArray := prog_11_method_23_code
def yX9_expects : MethodName := ⟨RX9, "expects", "(Ljava/lang/String;)V"⟩
abbrev cX9_number : ByteArray := prog_11_method_24_code
def yX9_number : MethodName := ⟨RX9, "number", "(II)I"⟩
abbrev cX9_toldBy : ByteArray := prog_11_method_25_code
def yX9_toldBy : MethodName := ⟨RX9, "toldBy", "(Ljava/lang/String;II)I"⟩
abbrev cX9_fault : ByteArray := prog_11_method_26_code
def yX9_fault : MethodName := ⟨RX9, "fault", "(I)I"⟩
abbrev cX9_readFirst : ByteArray := prog_11_method_27_code
def yX9_readFirst : MethodName := ⟨RX9, "readFirst", "()V"⟩
abbrev cX9_readNext : ByteArray := prog_11_method_28_code
def yX9_readNext : MethodName := ⟨RX9, "readNext", "()V"⟩
abbrev cX9_readLine : ByteArray := prog_11_method_29_code
def yX9_readLine : MethodName := ⟨RX9, "readLine", "()V"⟩
abbrev cX9_moor : ByteArray := prog_11_method_30_code
def yX9_moor : MethodName := ⟨RX9, "moor", "()I"⟩
abbrev cX9_told : ByteArray := prog_11_method_31_code
def yX9_told : MethodName := ⟨RX9, "told", "(I)I"⟩
abbrev cX9_cart : ByteArray := prog_11_method_32_code
def yX9_cart : MethodName := ⟨RX9, "cart", "(II)I"⟩
abbrev cX9_manyOf : ByteArray := prog_11_method_33_code
def yX9_manyOf : MethodName := ⟨RX9, "manyOf", "(I)I"⟩
abbrev cX9_heightOf : ByteArray := prog_11_method_34_code
def yX9_heightOf : MethodName := ⟨RX9, "heightOf", "(II)I"⟩
abbrev cX9_empty : ByteArray := prog_11_method_35_code
def yX9_empty : MethodName := ⟨RX9, "empty", "(I)V"⟩
abbrev cX9_copyRow : ByteArray := prog_11_method_36_code
def yX9_copyRow : MethodName := ⟨RX9, "copyRow", "(II)V"⟩
abbrev cX9_lay : ByteArray := prog_11_method_37_code
def yX9_lay : MethodName := ⟨RX9, "lay", "(II)V"⟩
abbrev cX9_takeHighest : ByteArray := prog_11_method_38_code
def yX9_takeHighest : MethodName := ⟨RX9, "takeHighest", "(I)V"⟩
abbrev cX9_areSame : ByteArray := prog_11_method_39_code
def yX9_areSame : MethodName := ⟨RX9, "areSame", "(II)Z"⟩
abbrev cX9_turfsOf : ByteArray := prog_11_method_40_code
def yX9_turfsOf : MethodName := ⟨RX9, "turfsOf", "(I)I"⟩
abbrev cX9_highestOf : ByteArray := prog_11_method_41_code
def yX9_highestOf : MethodName := ⟨RX9, "highestOf", "(I)I"⟩
abbrev cX9_offHeap : ByteArray := prog_11_method_42_code
def yX9_offHeap : MethodName := ⟨RX9, "offHeap", "(II)I"⟩
abbrev cX9_step : ByteArray := prog_11_method_43_code
def yX9_step : MethodName := ⟨RX9, "step", "(I)V"⟩
abbrev cX9_isStair : ByteArray := prog_11_method_44_code
def yX9_isStair : MethodName := ⟨RX9, "isStair", "(I)Z"⟩
abbrev cX9_asItIs : ByteArray := prog_11_method_45_code
def yX9_asItIs : MethodName := ⟨RX9, "asItIs", "()V"⟩
abbrev cX9_beginDay : ByteArray := prog_11_method_46_code
def yX9_beginDay : MethodName := ⟨RX9, "beginDay", "(I)V"⟩
abbrev cX9_goAll : ByteArray := prog_11_method_47_code
def yX9_goAll : MethodName := ⟨RX9, "goAll", "()V"⟩
abbrev cX9_asksMoor : ByteArray := prog_11_method_48_code
def yX9_asksMoor : MethodName := ⟨RX9, "asksMoor", "()Z"⟩
abbrev cX9_asksDay : ByteArray := prog_11_method_49_code
def yX9_asksDay : MethodName := ⟨RX9, "asksDay", "(I)Z"⟩
abbrev cX9_lastMany : ByteArray := prog_11_method_50_code
def yX9_lastMany : MethodName := ⟨RX9, "lastMany", "()I"⟩
abbrev cX9_heaps : ByteArray := prog_11_method_51_code
def yX9_heaps : MethodName := ⟨RX9, "heaps", "(I)I"⟩
abbrev cX9_heap : ByteArray := prog_11_method_52_code
def yX9_heap : MethodName := ⟨RX9, "heap", "(II)I"⟩
abbrev cX9_all : ByteArray := prog_11_method_53_code
def yX9_all : MethodName := ⟨RX9, "all", "(I)I"⟩
abbrev cX9_many : ByteArray := prog_11_method_54_code
def yX9_many : MethodName := ⟨RX9, "many", "(II)I"⟩
abbrev cX9_odd : ByteArray := prog_11_method_55_code
def yX9_odd : MethodName := ⟨RX9, "odd", "(I)I"⟩
abbrev cX9_sorts : ByteArray := prog_11_method_56_code
def yX9_sorts : MethodName := ⟨RX9, "sorts", "(I)I"⟩
abbrev cX9_spread : ByteArray := prog_11_method_57_code
def yX9_spread : MethodName := ⟨RX9, "spread", "(I)I"⟩
abbrev cX9_taken : ByteArray := prog_11_method_58_code
def yX9_taken : MethodName := ⟨RX9, "taken", "(I)I"⟩
abbrev cX9_gone : ByteArray := prog_11_method_59_code
def yX9_gone : MethodName := ⟨RX9, "gone", "(I)I"⟩
abbrev cX9_most : ByteArray := prog_11_method_60_code
def yX9_most : MethodName := ⟨RX9, "most", "()I"⟩
abbrev cX9_peak : ByteArray := prog_11_method_61_code
def yX9_peak : MethodName := ⟨RX9, "peak", "()I"⟩
abbrev cX9_firstSame : ByteArray := prog_11_method_62_code
def yX9_firstSame : MethodName := ⟨RX9, "firstSame", "(I)I"⟩
abbrev cX9_same : ByteArray := prog_11_method_63_code
def yX9_same : MethodName := ⟨RX9, "same", "(I)I"⟩
abbrev cX9_still : ByteArray := prog_11_method_64_code
def yX9_still : MethodName := ⟨RX9, "still", "()I"⟩
abbrev cX9_rows : ByteArray := prog_11_method_65_code
def yX9_rows : MethodName := ⟨RX9, "rows", "()I"⟩
abbrev cX9_stair : ByteArray := prog_11_method_66_code
def yX9_stair : MethodName := ⟨RX9, "stair", "(I)I"⟩
abbrev cX9_stairs : ByteArray := prog_11_method_67_code
def yX9_stairs : MethodName := ⟨RX9, "stairs", "()I"⟩
abbrev cX9_square : ByteArray := prog_11_method_68_code
def yX9_square : MethodName := ⟨RX9, "square", "(I)I"⟩
abbrev cX9_turnedHeap : ByteArray := prog_11_method_69_code
def yX9_turnedHeap : MethodName := ⟨RX9, "turnedHeap", "(II)I"⟩
abbrev cX9_flip : ByteArray := prog_11_method_70_code
def yX9_flip : MethodName := ⟨RX9, "flip", "(II)I"⟩
abbrev cX9_even : ByteArray := prog_11_method_71_code
def yX9_even : MethodName := ⟨RX9, "even", "(I)I"⟩
abbrev cX9_isAbove : ByteArray := prog_11_method_72_code
def yX9_isAbove : MethodName := ⟨RX9, "isAbove", "(II)Z"⟩
abbrev cX9_above : ByteArray := prog_11_method_73_code
def yX9_above : MethodName := ⟨RX9, "above", "(II)I"⟩
abbrev cX9_goesRound : ByteArray := prog_11_method_74_code
def yX9_goesRound : MethodName := ⟨RX9, "goesRound", "(I)Z"⟩
abbrev cX9_tail : ByteArray := prog_11_method_75_code
def yX9_tail : MethodName := ⟨RX9, "tail", "(I)I"⟩
abbrev cX9_length : ByteArray := prog_11_method_76_code
def yX9_length : MethodName := ⟨RX9, "length", "(I)I"⟩
abbrev cX9_ring : ByteArray := prog_11_method_77_code
def yX9_ring : MethodName := ⟨RX9, "ring", "(I)I"⟩
abbrev cX9_later : ByteArray := prog_11_method_78_code
def yX9_later : MethodName := ⟨RX9, "later", "(III)I"⟩
abbrev cX9_soon : ByteArray := prog_11_method_79_code
def yX9_soon : MethodName := ⟨RX9, "soon", "(I)I"⟩
abbrev cX9_keepListed : ByteArray := prog_11_method_80_code
def yX9_keepListed : MethodName := ⟨RX9, "keepListed", "()V"⟩
abbrev cX9_takeListed : ByteArray := prog_11_method_81_code
def yX9_takeListed : MethodName := ⟨RX9, "takeListed", "(II)V"⟩
abbrev cX9_findListed : ByteArray := prog_11_method_82_code
def yX9_findListed : MethodName := ⟨RX9, "findListed", "(I)I"⟩
abbrev cX9_nextRow : ByteArray := prog_11_method_83_code
def yX9_nextRow : MethodName := ⟨RX9, "nextRow", "()Z"⟩
abbrev cX9_listAll : ByteArray := prog_11_method_84_code
def yX9_listAll : MethodName := ⟨RX9, "listAll", "(I)V"⟩
abbrev cX9_isRinged : ByteArray := prog_11_method_85_code
def yX9_isRinged : MethodName := ⟨RX9, "isRinged", "(I)Z"⟩
abbrev cX9_tailFrom : ByteArray := prog_11_method_86_code
def yX9_tailFrom : MethodName := ⟨RX9, "tailFrom", "(I)I"⟩
abbrev cX9_comesTo : ByteArray := prog_11_method_87_code
def yX9_comesTo : MethodName := ⟨RX9, "comesTo", "(I)I"⟩
abbrev cX9_asksAll : ByteArray := prog_11_method_88_code
def yX9_asksAll : MethodName := ⟨RX9, "asksAll", "(I)Z"⟩
abbrev cX9_rowsOf : ByteArray := prog_11_method_89_code
def yX9_rowsOf : MethodName := ⟨RX9, "rowsOf", "(I)I"⟩
abbrev cX9_ringed : ByteArray := prog_11_method_90_code
def yX9_ringed : MethodName := ⟨RX9, "ringed", "(I)I"⟩
abbrev cX9_rings : ByteArray := prog_11_method_91_code
def yX9_rings : MethodName := ⟨RX9, "rings", "(I)I"⟩
abbrev cX9_gardens : ByteArray := prog_11_method_92_code
def yX9_gardens : MethodName := ⟨RX9, "gardens", "(I)I"⟩
abbrev cX9_longest : ByteArray := prog_11_method_93_code
def yX9_longest : MethodName := ⟨RX9, "longest", "(I)I"⟩
abbrev cX9_numberAt : ByteArray := prog_11_method_94_code
def yX9_numberAt : MethodName := ⟨RX9, "numberAt", "(II)J"⟩
abbrev cX9_askRow : ByteArray := prog_11_method_95_code
def yX9_askRow : MethodName := ⟨RX9, "askRow", "(I)I"⟩
abbrev cX9_ahead : ByteArray := prog_11_method_96_code
def yX9_ahead : MethodName := ⟨RX9, "ahead", "(I)I"⟩
abbrev cX9_from : ByteArray := prog_11_method_97_code
def yX9_from : MethodName := ⟨RX9, "from", "(II)I"⟩
abbrev cX9_way : ByteArray := prog_11_method_98_code
def yX9_way : MethodName := ⟨RX9, "way", "(I)I"⟩
abbrev cX9_lastBy : ByteArray := prog_11_method_99_code
def yX9_lastBy : MethodName := ⟨RX9, "lastBy", "(II)I"⟩
abbrev cX9_bring : ByteArray := prog_11_method_100_code
def yX9_bring : MethodName := ⟨RX9, "bring", "(II)I"⟩
abbrev cX9_latest : ByteArray := prog_11_method_101_code
def yX9_latest : MethodName := ⟨RX9, "latest", "(I)I"⟩
abbrev cX9_spare : ByteArray := prog_11_method_102_code
def yX9_spare : MethodName := ⟨RX9, "spare", "()I"⟩
abbrev cX9_askSeen : ByteArray := prog_11_method_103_code
def yX9_askSeen : MethodName := ⟨RX9, "askSeen", "(I)I"⟩
abbrev cX9_isSeen : ByteArray := prog_11_method_104_code
def yX9_isSeen : MethodName := ⟨RX9, "isSeen", "(I)Z"⟩
abbrev cX9_layFits : ByteArray := prog_11_method_105_code
def yX9_layFits : MethodName := ⟨RX9, "layFits", "(II)I"⟩
abbrev cX9_heights : ByteArray := prog_11_method_106_code
def yX9_heights : MethodName := ⟨RX9, "heights", "(II)I"⟩
abbrev cX9_least : ByteArray := prog_11_method_107_code
def yX9_least : MethodName := ⟨RX9, "least", "(II)I"⟩
abbrev cX9_greatest : ByteArray := prog_11_method_108_code
def yX9_greatest : MethodName := ⟨RX9, "greatest", "(II)I"⟩
abbrev cX9_worstIn : ByteArray := prog_11_method_109_code
def yX9_worstIn : MethodName := ⟨RX9, "worstIn", "(I)I"⟩
abbrev cX9_askOf : ByteArray := prog_11_method_110_code
def yX9_askOf : MethodName := ⟨RX9, "askOf", "()I"⟩
abbrev cX9_ask : ByteArray := prog_11_method_111_code
def yX9_ask : MethodName := ⟨RX9, "ask", "(II)I"⟩
abbrev cX9_leaves : ByteArray := prog_11_method_112_code
def yX9_leaves : MethodName := ⟨RX9, "leaves", "(II)I"⟩
abbrev cX9_laws : ByteArray := prog_11_method_113_code
def yX9_laws : MethodName := ⟨RX9, "laws", "(I)I"⟩
abbrev cX9_lastByLaw : ByteArray := prog_11_method_114_code
def yX9_lastByLaw : MethodName := ⟨RX9, "lastByLaw", "(I)I"⟩
abbrev cX9_by : ByteArray := prog_11_method_115_code
def yX9_by : MethodName := ⟨RX9, "by", "(I)I"⟩
abbrev cX9_law : ByteArray := prog_11_method_116_code
def yX9_law : MethodName := ⟨RX9, "law", "()I"⟩
abbrev cX9_worthOf : ByteArray := prog_11_method_117_code
def yX9_worthOf : MethodName := ⟨RX9, "worthOf", "(I)I"⟩
abbrev cX9_worth : ByteArray := prog_11_method_118_code
def yX9_worth : MethodName := ⟨RX9, "worth", "(I)I"⟩
abbrev cX9_factorial : ByteArray := prog_11_method_119_code
def yX9_factorial : MethodName := ⟨RX9, "factorial", "(I)I"⟩
abbrev cX9_divisor : ByteArray := prog_11_method_120_code
def yX9_divisor : MethodName := ⟨RX9, "divisor", "(JJ)J"⟩
abbrev cX9_part : ByteArray := prog_11_method_121_code
def yX9_part : MethodName := ⟨RX9, "part", "(JJI)J"⟩
abbrev cX9_share : ByteArray := prog_11_method_122_code
def yX9_share : MethodName := ⟨RX9, "share", "(II)I"⟩
abbrev cX9_taking : ByteArray := prog_11_method_123_code
def yX9_taking : MethodName := ⟨RX9, "taking", "(II)I"⟩
abbrev cX9_asksTaking : ByteArray := prog_11_method_124_code
def yX9_asksTaking : MethodName := ⟨RX9, "asksTaking", "(II)Z"⟩
abbrev cX9_wins : ByteArray := prog_11_method_125_code
def yX9_wins : MethodName := ⟨RX9, "wins", "(II)I"⟩
abbrev cX9_isMove : ByteArray := prog_11_method_126_code
def yX9_isMove : MethodName := ⟨RX9, "isMove", "(IIII)Z"⟩
abbrev cX9_isFirstHigh : ByteArray := prog_11_method_127_code
def yX9_isFirstHigh : MethodName := ⟨RX9, "isFirstHigh", "(II)Z"⟩
abbrev cX9_moves : ByteArray := prog_11_method_128_code
def yX9_moves : MethodName := ⟨RX9, "moves", "(II)I"⟩
abbrev cX9_move : ByteArray := prog_11_method_129_code
def yX9_move : MethodName := ⟨RX9, "move", "(II)I"⟩
abbrev cX9_getsBy : ByteArray := prog_11_method_130_code
def yX9_getsBy : MethodName := ⟨RX9, "getsBy", "(IIIII)I"⟩
abbrev cX9_areTwo : ByteArray := prog_11_method_131_code
def yX9_areTwo : MethodName := ⟨RX9, "areTwo", "(II)Z"⟩
abbrev cX9_rests : ByteArray := prog_11_method_132_code
def yX9_rests : MethodName := ⟨RX9, "rests", "(II)I"⟩
abbrev cX9_gets : ByteArray := prog_11_method_133_code
def yX9_gets : MethodName := ⟨RX9, "gets", "(IIIII)I"⟩
abbrev cX9_layWet : ByteArray := prog_11_method_134_code
def yX9_layWet : MethodName := ⟨RX9, "layWet", "(II)V"⟩
abbrev cX9_isWet : ByteArray := prog_11_method_135_code
def yX9_isWet : MethodName := ⟨RX9, "isWet", "(II)Z"⟩
abbrev cX9_chance : ByteArray := prog_11_method_136_code
def yX9_chance : MethodName := ⟨RX9, "chance", "(III)J"⟩
abbrev cX9_mean : ByteArray := prog_11_method_137_code
def yX9_mean : MethodName := ⟨RX9, "mean", "(II)J"⟩
abbrev cX9_keepAct : ByteArray := prog_11_method_138_code
def yX9_keepAct : MethodName := ⟨RX9, "keepAct", "(I)I"⟩
abbrev cX9_brings : ByteArray := prog_11_method_139_code
def yX9_brings : MethodName := ⟨RX9, "brings", "(II)I"⟩
abbrev cX9_away : ByteArray := prog_11_method_140_code
def yX9_away : MethodName := ⟨RX9, "away", "(I)I"⟩
abbrev cX9_undo : ByteArray := prog_11_method_141_code
def yX9_undo : MethodName := ⟨RX9, "undo", "()I"⟩
abbrev cX9_anew : ByteArray := prog_11_method_142_code
def yX9_anew : MethodName := ⟨RX9, "anew", "()I"⟩
abbrev cX9_goDrawn : ByteArray := prog_11_method_143_code
def yX9_goDrawn : MethodName := ⟨RX9, "goDrawn", "(J)V"⟩
abbrev cX9_isSeed : ByteArray := prog_11_method_144_code
def yX9_isSeed : MethodName := ⟨RX9, "isSeed", "(I)Z"⟩
abbrev cX9_drawn : ByteArray := prog_11_method_145_code
def yX9_drawn : MethodName := ⟨RX9, "drawn", "(II)I"⟩
abbrev cX9_luck : ByteArray := prog_11_method_146_code
def yX9_luck : MethodName := ⟨RX9, "luck", "(III)I"⟩
abbrev cX9_rate : ByteArray := prog_11_method_147_code
def yX9_rate : MethodName := ⟨RX9, "rate", "(II)I"⟩
abbrev cX9_count : ByteArray := prog_11_method_148_code
def yX9_count : MethodName := ⟨RX9, "count", "(I)I"⟩
abbrev cX9_isSlot : ByteArray := prog_11_method_149_code
def yX9_isSlot : MethodName := ⟨RX9, "isSlot", "(I)Z"⟩
abbrev cX9_clipped : ByteArray := prog_11_method_150_code
def yX9_clipped : MethodName := ⟨RX9, "clipped", "(JI)J"⟩
abbrev cX9_row : ByteArray := prog_11_method_151_code
def yX9_row : MethodName := ⟨RX9, "row", "(III)I"⟩
abbrev cX9_write : ByteArray := prog_11_method_152_code
def yX9_write : MethodName := ⟨RX9, "write", "(IIJ)I"⟩
abbrev cX9_paste : ByteArray := prog_11_method_153_code
def yX9_paste : MethodName := ⟨RX9, "paste", "(IIIII)I"⟩
def RL : String := "TurfHeapsLaw"
abbrev cL_law : ByteArray := code
def yL_law : MethodName := ⟨RL, "law", "([I)Z"⟩
end
section
/-! the static world: 217 cells, z + 0 .. z + 216; kinds 0 .. 9 classes X0 .. X9, 10 byte[], 11 int[], 12 long[], 13 boolean[], 14 Moor[], 15 Row[], 16 Slot[], 17 int[][] -/
def hpKs : List Nat := [8, 7, 10, 1, 11, 11, 11, 11, 11, 1, 11, 11, 11, 11, 11, 14, 16, 4, 15, 3, 11, 11, 3, 11, 11, 3, 11, 11, 3, 11, 11, 3, 11, 11, 3, 11, 11, 3, 11, 11, 3, 11, 11, 3, 11, 11, 3, 11, 11, 3, 11, 11, 3, 11, 11, 3, 11, 11, 3, 11, 11, 3, 11, 11, 3, 11, 11, 3, 11, 11, 4, 15, 3, 11, 11, 3, 11, 11, 3, 11, 11, 3, 11, 11, 3, 11, 11, 3, 11, 11, 3, 11, 11, 3, 11, 11, 3, 11, 11, 3, 11, 11, 3, 11, 11, 3, 11, 11, 3, 11, 11, 3, 11, 11, 3, 11, 11, 3, 11, 11, 3, 11, 11, 2, 3, 11, 11, 3, 11, 11, 0, 12, 11, 11, 11, 11, 11, 11, 3, 11, 11, 5, 11, 17, 11, 11, 11, 11, 11, 11, 11, 11, 11, 11, 11, 11, 11, 11, 11, 11, 11, 11, 11, 11, 3, 11, 11, 11, 11, 1, 11, 11, 11, 11, 11, 1, 11, 11, 11, 11, 11, 1, 11, 11, 11, 11, 11, 6, 12, 6, 12, 6, 12, 6, 12, 9, 11, 11, 13, 10, 11, 11, 11, 11, 11, 11, 11, 11, 11, 11, 11, 11, 11, 11, 11, 12, 12]
def hpLs : List Nat := [0, 0, 500, 0, 8, 6, 6, 20, 20, 0, 8, 6, 6, 20, 20, 3, 4, 0, 17, 0, 40, 40, 0, 40, 40, 0, 40, 40, 0, 40, 40, 0, 40, 40, 0, 40, 40, 0, 40, 40, 0, 40, 40, 0, 40, 40, 0, 40, 40, 0, 40, 40, 0, 40, 40, 0, 40, 40, 0, 40, 40, 0, 40, 40, 0, 40, 40, 0, 40, 40, 0, 17, 0, 40, 40, 0, 40, 40, 0, 40, 40, 0, 40, 40, 0, 40, 40, 0, 40, 40, 0, 40, 40, 0, 40, 40, 0, 40, 40, 0, 40, 40, 0, 40, 40, 0, 40, 40, 0, 40, 40, 0, 40, 40, 0, 40, 40, 0, 40, 40, 0, 40, 40, 0, 0, 40, 40, 0, 40, 40, 0, 135, 135, 135, 135, 135, 135, 14, 0, 40, 40, 0, 20, 20, 17, 17, 17, 17, 17, 17, 17, 17, 17, 17, 17, 17, 17, 17, 17, 17, 17, 17, 17, 17, 0, 40, 40, 64, 8, 0, 8, 6, 6, 20, 20, 0, 8, 6, 6, 20, 20, 0, 8, 6, 6, 20, 20, 0, 60, 0, 60, 0, 60, 0, 60, 0, 47, 141, 3, 500, 5, 47, 14721, 8, 6, 16, 16, 2025, 135, 135, 20, 340, 64, 4, 4, 240, 60]
def hpkd (k : Nat) : Nat := hpKs.getD k 99
def hpln (k : Nat) : Nat := hpLs.getD k 0
def hpr8 : List Nat := [1, 3, 9, 15, 16, 17, 70, 123, 130, 141, 164, 167, 168, 0, 0, 0]
def hpr9 : List Nat := [0, 196, 197, 198, 199, 0, 200, 0, 0, 0, 0, 0, 0, 0, 201, 202, 0, 0, 0, 203, 204, 0, 0, 0, 0, 205, 206, 0, 0, 207, 208, 209, 0, 0, 210, 211, 0, 0, 212, 0, 0, 0, 213, 214, 215, 216]
def hprf (k i : Nat) : Nat := if hpkd k = 15 then k + 1 + 3 * i else if hpkd k = 2 then k + 1 + 3 * i else if hpkd k = 14 then 169 + 6 * i else if hpkd k = 16 then 187 + 2 * i else if hpkd k = 8 then hpr8.getD i 0 else if hpkd k = 9 then hpr9.getD i 0 else k + 1 + i
def hpfks : List (List Nat) := [[1, 1, 1, 1, 1, 1, 1, 1, 0, 0, 0, 0, 0, 0, 0], [1, 1, 1, 1, 1, 0, 0, 0, 0, 0, 0, 0, 0], [1, 1, 0, 0, 0, 0], [1, 1, 0, 0, 0], [1, 0, 0, 0, 0, 0, 0, 0, 0], [1, 1, 0], [1, 0, 0, 0], [1, 0, 0, 0, 0, 0, 0], [1, 1, 1, 1, 1, 1, 1, 1, 1, 1, 1, 1, 1, 0, 0, 0], [0, 1, 1, 1, 1, 0, 1, 0, 0, 0, 0, 0, 0, 0, 1, 1, 0, 0, 0, 1, 1, 0, 0, 0, 0, 1, 1, 0, 0, 1, 1, 1, 0, 0, 1, 1, 0, 0, 1, 2, 2, 2, 1, 1, 1, 1]]
def hpfk (c i : Nat) : Nat := (hpfks.getD c []).getD i 0
def hpnf (c : Nat) : Nat := (hpfks.getD c []).length
abbrev hpCl : List vw_C := [(RX0, TX0, 15), (RX1, TX1, 13), (RX2, TX2, 6), (RX3, TX3, 5), (RX4, TX4, 9), (RX5, TX5, 3), (RX6, TX6, 4), (RX7, TX7, 7), (RX8, TX8, 16), (RX9, TX9, 46)]
end
section
/-! the memory: ints as integers, by cell and place -/
abbrev hpMem : Type := Nat → Nat → Int
def hpI (a : Int) : Int32 := Int32.ofInt a
def hpJ (a : Int) : Int64 := Int64.ofInt a
theorem hpI_add (a b : Int) : hpI a + hpI b = hpI (a + b) := (Int32.ofInt_add a b).symm
theorem hpI_sub (a b : Int) : hpI a - hpI b = hpI (a - b) := (Int32.ofInt_sub a b).symm
theorem hpI_mul (a b : Int) : hpI a * hpI b = hpI (a * b) := (Int32.ofInt_mul a b).symm
theorem hpJ_add (a b : Int) : hpJ a + hpJ b = hpJ (a + b) := (Int64.ofInt_add a b).symm
theorem hpJ_mul (a b : Int) : hpJ a * hpJ b = hpJ (a * b) := (Int64.ofInt_mul a b).symm
/-- within an int's bounds, a long's -/
def hpR (a : Int) : Prop := -2147483648 ≤ a ∧ a < 2147483648
def hpRL (a : Int) : Prop := -9223372036854775808 ≤ a ∧ a < 9223372036854775808
theorem hpI_toInt {a : Int} (h : hpR a) : (hpI a).toInt = a := Int32.toInt_ofInt_of_le h.1 h.2
theorem hpJ_toInt {a : Int} (h : hpRL a) : (hpJ a).toInt = a := Int64.toInt_ofInt_of_le h.1 h.2
theorem hpI_of (x : Int32) : hpI x.toInt = x := Int32.ofInt_toInt x
theorem hpJ_of (x : Int64) : hpJ x.toInt = x := Int64.ofInt_toInt x
theorem hpR_of (x : Int32) : hpR x.toInt := ⟨Int32.le_toInt x, Int32.toInt_lt x⟩
theorem hpRL_of (x : Int64) : hpRL x.toInt := ⟨Int64.le_toInt x, Int64.toInt_lt x⟩
theorem hpI_lt {a b : Int} (ha : hpR a) (hb : hpR b) : hpI a < hpI b ↔ a < b := by rw [Int32.lt_iff_toInt_lt, hpI_toInt ha, hpI_toInt hb]
theorem hpI_le {a b : Int} (ha : hpR a) (hb : hpR b) : hpI a ≤ hpI b ↔ a ≤ b := by rw [Int32.le_iff_toInt_le, hpI_toInt ha, hpI_toInt hb]
theorem hpI_eq {a b : Int} (ha : hpR a) (hb : hpR b) : hpI a = hpI b ↔ a = b := by rw [← Int32.toInt_inj, hpI_toInt ha, hpI_toInt hb]
theorem hpJ_lt {a b : Int} (ha : hpRL a) (hb : hpRL b) : hpJ a < hpJ b ↔ a < b := by rw [Int64.lt_iff_toInt_lt, hpJ_toInt ha, hpJ_toInt hb]
theorem hpJ_le {a b : Int} (ha : hpRL a) (hb : hpRL b) : hpJ a ≤ hpJ b ↔ a ≤ b := by rw [Int64.le_iff_toInt_le, hpJ_toInt ha, hpJ_toInt hb]
theorem hpJ_eq {a b : Int} (ha : hpRL a) (hb : hpRL b) : hpJ a = hpJ b ↔ a = b := by rw [← Int64.toInt_inj, hpJ_toInt ha, hpJ_toInt hb]
theorem hpI_0 : hpI 0 = 0 := by decide
theorem hpR_0 : hpR 0 := ⟨by decide, by decide⟩
theorem hpI_clamp {a : Int} (h : hpR a) : (hpI a).toNatClampNeg = a.toNat := by
  show (hpI a).toInt.toNat = a.toNat
  rw [hpI_toInt h]
theorem hpI_in {a : Int} {n : Nat} (h0 : 0 ≤ a) (h1 : a < n) (hn : n < 2147483648) : vp_in (hpI a) n := by
  rw [vp_in_iff, hpI_toInt ⟨by omega, by omega⟩]
  exact ⟨h0, h1⟩
/-- a row of numbers, one of them changed; a memory, one number changed -/
def hpu (r : Nat → Int) (i : Nat) (a : Int) : Nat → Int := fun j => if j = i then a else r j
def hpw (σ : hpMem) (k i : Nat) (a : Int) : hpMem := fun j => if j = k then hpu (σ k) i a else σ j
theorem hpw_row {σ : hpMem} {k i : Nat} {a : Int} : hpw σ k i a k = hpu (σ k) i a := if_pos rfl
theorem hpw_ne {σ : hpMem} {k i j : Nat} {a : Int} (h : j ≠ k) : hpw σ k i a j = σ j := if_neg h
theorem hpw_eq {σ : hpMem} {k i : Nat} {a : Int} : hpw σ k i a k i = a := by simp [hpw, hpu]
theorem hpw_ni {σ : hpMem} {k i j : Nat} {a : Int} (h : j ≠ i) : hpw σ k i a k j = σ k j := by simp [hpw, hpu, h]
theorem hpw_nk {σ : hpMem} {k i j n : Nat} {a : Int} (h : j ≠ k) : hpw σ k i a j n = σ j n := by rw [hpw_ne h]
/-- what stands in a field of the object at cell k -/
def hpfv (z k : Nat) (r : Nat → Int) (i : Nat) : Value := if hpfk (hpkd k) i = 1 then .ref (z + hprf k i) else if hpfk (hpkd k) i = 2 then .long (hpJ (r i)) else .int (hpI (r i))
def hpE (z : Nat) (cy : Nat → ClassId) (k : Nat) (r : Nat → Int) : va_E :=
  if hpkd k < 10 then .inr (hpkd k, (List.range (hpnf (hpkd k))).map (hpfv z k r))
  else if hpkd k = 12 then .inl (cy 12, hpln k, .inr (.inl (fun i => hpJ (r i))))
  else if hpkd k < 14 then .inl (cy (hpkd k), hpln k, .inl (fun i => hpI (r i)))
  else .inl (cy (hpkd k), hpln k, .inr (.inr (.inr (.inr (fun i => some (z + hprf k i))))))
def hpW (z : Nat) (cy : Nat → ClassId) (σ : hpMem) : va_W := (List.range 217).map (fun k => (z + k, hpE z cy k (σ k)))
abbrev hpTy (cy : Nat → ClassId) : List (ClassId × FieldType) := [(cy 10, .byte), (cy 11, .int), (cy 12, .long), (cy 13, .boolean), (cy 14, .object RX1), (cy 15, .object RX3), (cy 16, .object RX6), (cy 17, .array .int)]
theorem hpkd_lt {k c : Nat} (h : hpkd k = c) (hc : c < 99) : k < 217 := by
  rcases Nat.lt_or_ge k 217 with q | q
  · exact q
  · have e : hpkd k = 99 := by
      unfold hpkd
      rw [List.getD_eq_getElem?_getD, List.getElem?_eq_none (by show hpKs.length ≤ k; exact Nat.le_trans (by decide +kernel : hpKs.length ≤ 217) q)]
      rfl
    omega
theorem hpW_get {z : Nat} {cy : Nat → ClassId} {σ : hpMem} {k : Nat} (h : k < 217) : (hpW z cy σ)[k]? = some (z + k, hpE z cy k (σ k)) := by
  unfold hpW
  rw [List.getElem?_map, List.getElem?_range h]
  rfl
theorem hpW_inv {z : Nat} {cy : Nat → ClassId} {σ : hpMem} {k : Nat} {q : Nat × va_E} (h : (hpW z cy σ)[k]? = some q) : k < 217 ∧ q = (z + k, hpE z cy k (σ k)) := by
  rcases Nat.lt_or_ge k 217 with g | g
  · rw [hpW_get g] at h
    exact ⟨g, (Option.some.inj h).symm⟩
  · unfold hpW at h
    rw [List.getElem?_map, List.getElem?_eq_none (by rw [List.length_range]; exact g)] at h
    cases h
theorem hpW_D {z : Nat} {cy : Nat → ClassId} {σ : hpMem} : va_D (fun q => z ≤ q) (hpW z cy σ) := by
  refine ⟨fun i j x y hi hj e => ?_, fun k q h => ?_⟩
  · obtain ⟨-, rfl⟩ := hpW_inv hi
    obtain ⟨-, rfl⟩ := hpW_inv hj
    have e : z + i = z + j := e
    omega
  · obtain ⟨-, rfl⟩ := hpW_inv h
    exact Nat.le_add_right z k
theorem hpW_set {z : Nat} {cy : Nat → ClassId} {σ τ : hpMem} {k : Nat} {e : va_E} (he : hpE z cy k (τ k) = e) (ho : ∀ j, j ≠ k → τ j = σ j) : (hpW z cy σ).set k (z + k, e) = hpW z cy τ := by
  apply List.ext_getElem?
  intro i
  rw [List.getElem?_set]
  by_cases h : k = i
  · subst h
    rw [if_pos rfl]
    by_cases hk : k < 217
    · rw [hpW_get hk, if_pos (by unfold hpW; rw [List.length_map, List.length_range]; exact hk), he]
    · have hn : ∀ ρ : hpMem, (hpW z cy ρ)[k]? = none := fun ρ => by unfold hpW; rw [List.getElem?_map, List.getElem?_eq_none (by rw [List.length_range]; omega)]; rfl
      rw [hn τ, if_neg (by unfold hpW; rw [List.length_map, List.length_range]; exact hk)]
  · rw [if_neg h]
    by_cases hi : i < 217
    · rw [hpW_get hi, hpW_get hi, ho i (fun q => h q.symm)]
    · have hn : ∀ ρ : hpMem, (hpW z cy ρ)[i]? = none := fun ρ => by unfold hpW; rw [List.getElem?_map, List.getElem?_eq_none (by rw [List.length_range]; omega)]; rfl
      rw [hn, hn]
theorem hpE_o {z : Nat} {cy : Nat → ClassId} {k ci : Nat} {r : Nat → Int} (hk : hpkd k = ci) (hc : ci < 10) : hpE z cy k r = .inr (ci, (List.range (hpnf ci)).map (hpfv z k r)) := by
  subst hk
  exact if_pos hc
theorem hpE_i {z : Nat} {cy : Nat → ClassId} {k ci : Nat} {r : Nat → Int} (hk : hpkd k = ci) (hc : ci = 10 ∨ ci = 11 ∨ ci = 13) : hpE z cy k r = .inl (cy ci, hpln k, .inl (fun i => hpI (r i))) := by
  subst hk
  unfold hpE
  rw [if_neg (by omega), if_neg (by omega), if_pos (by omega)]
theorem hpE_l {z : Nat} {cy : Nat → ClassId} {k : Nat} {r : Nat → Int} (hk : hpkd k = 12) : hpE z cy k r = .inl (cy 12, hpln k, .inr (.inl (fun i => hpJ (r i)))) := by
  unfold hpE
  rw [if_neg (by omega), if_pos hk]
theorem hpE_q {z : Nat} {cy : Nat → ClassId} {k ci : Nat} {r : Nat → Int} (hk : hpkd k = ci) (hc : 14 ≤ ci) : hpE z cy k r = .inl (cy ci, hpln k, .inr (.inr (.inr (.inr (fun i => some (z + hprf k i)))))) := by
  subst hk
  unfold hpE
  rw [if_neg (by omega), if_neg (by omega), if_neg (by omega)]
theorem hp_fget {z k N i : Nat} {r : Nat → Int} (h : i < N) : ((List.range N).map (hpfv z k r))[i]? = some (hpfv z k r i) := by
  rw [List.getElem?_map, List.getElem?_range h]
  rfl
theorem hp_fset {z k N i : Nat} {r : Nat → Int} {a : Int} {v : Value} (hv : hpfv z k (hpu r i a) i = v) : ((List.range N).map (hpfv z k r)).set i v = (List.range N).map (hpfv z k (hpu r i a)) := by
  apply List.ext_getElem?
  intro j
  rw [List.getElem?_set, List.getElem?_map, List.getElem?_map]
  by_cases h : i = j
  · subst h
    rw [if_pos rfl]
    by_cases hi : i < N
    · rw [if_pos (by rw [List.length_map, List.length_range]; exact hi), List.getElem?_range hi, ← hv]
      rfl
    · rw [if_neg (by rw [List.length_map, List.length_range]; exact hi), List.getElem?_eq_none (by rw [List.length_range]; omega)]
      rfl
  · rw [if_neg h]
    by_cases hj : j < N
    · rw [List.getElem?_range hj]
      show some (hpfv z k r j) = some (hpfv z k (hpu r i a) j)
      have e : hpu r i a j = r j := if_neg (fun q => h q.symm)
      unfold hpfv
      rw [e]
    · rw [List.getElem?_eq_none (by rw [List.length_range]; omega)]
      rfl
/-! the words: those that stand at every state, and the nest's links -/
def hpT : List Cond := lw_tbl.filter goodWord
theorem hpT_of {w : Cond} (i : Nat) (h : tables_1[i]? = some w) (hg : goodWord w = true) : w ∈ hpT := List.mem_filter.mpr ⟨List.mem_append_right _ (List.mem_of_getElem? h), hg⟩
theorem hpT_sel {q : MethodName × Nat} (i : Nat) (h : lw_privs[i]? = some q) : Cond.selects q.1.cls q.1 q.1 ∈ hpT := List.mem_filter.mpr ⟨List.mem_append_left _ (List.mem_map.mpr ⟨q, List.mem_of_getElem? h, rfl⟩), rfl⟩
def hpNest (w : Cond) : Bool := match w with
  | .fieldLinkNest .. => true
  | .methodLinkNest .. => true
  | _ => false
def hpN (U : State) : Prop := ∀ w ∈ tables_1, hpNest w = true → va_Nw w U
theorem hpN.warm {s U : State} (hW : s.WarmedH U.vm) (h : hpN s) : hpN U := by
  intro w hw hn
  have h0 := h w hw hn
  cases w with
  | fieldLinkNest a i b n d x => exact va_Nw.warmF hW h0
  | methodLinkNest a i x y => exact va_Nw.warmM hW h0
  | _ => simp [hpNest] at hn
theorem hpN_of {U : State} {w : Cond} (i : Nat) (h : tables_1[i]? = some w) (hn : hpNest w = true) (hN : hpN U) : va_Nw w U := hN w (List.mem_of_getElem? h) hn
theorem hp_goodT {x : Cond} : GoodIn (x :: hpT) hpT := fun w hw => ⟨List.mem_cons_of_mem _ hw, good_of_word (List.mem_filter.mp hw).2⟩
theorem hp_good {x y : Cond} (hy : y ∈ hpT) : GoodIn (x :: hpT) (y :: hpT) := fun w hw => by
  rcases List.mem_cons.mp hw with h | h
  · subst h
    exact hp_goodT _ hy
  · exact hp_goodT _ h
/-- what a method's body stands on -/
def hpC (p : Program) (s : State) (m : MethodId) (args : Array Value) (c : Code) (cc : ByteArray) (nL : Nat) (own : String) (D : va_G) (cy : Nat → ClassId) : Prop :=
  p.tables.exec = Jvm.exec ∧ c.code = cc ∧ c.maxLocals = nL ∧ s.vm.findClass own = some m.cls ∧ (∀ w ∈ hpT, w.before args s = true) ∧ hpN s ∧ va_K D hpCl (hpTy cy) s
/-- the machine at pc with the memory σ, the locals lv, the stack st, comes to Q -/
def hpV (p : Program) (l : Launch) (e : Env) (R : Room) (s : State) (m : MethodId) (args : Array Value) (below : List Frame) (meth : Method) (c : Code) (cells slots nL : Nat) (D : va_G) (cy : Nat → ClassId) (z : Nat) (H0 : Heap) (Q : State → Prop) (σ : hpMem) (pc : Nat) (lv : List (Nat × Value)) (st : List Value) : Prop :=
  ∀ (H : Heap) (locs : List Loc) (ls : Array Slot), lv_has ls nL lv → va_P D hpCl (hpW z cy σ) H → va_S (fun q => z ≤ q) H0 H locs → W p l e R s m args below meth c H locs cells slots Q (F0 m pc ls st)
def hpPre (D : va_G) (cy : Nat → ClassId) (z : Nat) (σ : hpMem) (U : State) : Prop := va_P D hpCl (hpW z cy σ) U.heap ∧ va_K D hpCl (hpTy cy) U ∧ hpN U
def hpQ (D : va_G) (cy : Nat → ClassId) (z : Nat) (post : Option Value → hpMem → Prop) : Array Value → State → Outcome → State → Prop := fun _ st oc t => (∃ (r : Option Value) (τ : hpMem), oc = .returned r ∧ post r τ ∧ va_P D hpCl (hpW z cy τ) t.heap) ∧ va_F (fun q => z ≤ q) st t
/-- a method's contract, from the memory σ and the arguments av -/
def hpM (l : Launch) (D : va_G) (cy : Nat → ClassId) (z : Nat) (y : MethodName) (bytes : ByteArray) (maxL : Nat) (ret : Option FieldType) (rm : Room) (av : List Value) (σ : hpMem) (post : Option Value → hpMem → Prop) : Prop :=
  Met l y (Cond.code y bytes maxL ret :: hpT) rm (va_Pc av (hpPre D cy z σ)) (hpQ D cy z post) 0 0 (fun q => z ≤ q)
theorem hp_met {l : Launch} {D : va_G} {cy : Nat → ClassId} {z : Nat} {y : MethodName} {bytes : ByteArray} {maxL : Nat} {ret : Option FieldType} {rm : Room} {av : List Value} {σ : hpMem} {post : Option Value → hpMem → Prop} (hy : plainName y.cls = true) (hlen : (lg_sl av).length ≤ maxL)
    (h : ∀ (p : Program) (e : Env) (s : State) (m : MethodId) (below : List Frame) (meth : Method) (c : Code), hpC p s m av.toArray c bytes maxL y.cls D cy → meth.sig.returnType = ret → meth.locks = false →
      hpV p l e rm s m av.toArray below meth c 0 0 maxL D cy z s.heap (MQ below (hpQ D cy z post) av.toArray s 0 0 (fun q => z ≤ q)) σ 0 (lv_args 0 av) []) : hpM l D cy z y bytes maxL ret rm av σ post := by
  unfold hpM
  refine Met.ofW (cc := bytes) (maxL := maxL) (ret := ret) hy rfl ?_
  intro p e s m args below meth c s₁ B hml hv
  obtain ⟨rfl, hP, hK, hN⟩ := hv
  have hts := atoms_spec (ws := Cond.code y bytes maxL ret :: hpT) B.pre
  have hown : s.vm.findClass y.cls = some m.cls := findClass_of_methodNamed B.named
  have hl := lv_entry av (n := maxL) hlen
  rw [lg_entry_eq]
  exact h p e s m below meth c ⟨B.exec, B.bytes, hml, hown, fun w hw => hts w (List.mem_cons_of_mem _ hw), hN, hK⟩ B.returns B.notSynchronized s.heap [] _ hl hP va_S.rf
end
section
section HPR
variable {p : Program} {l : Launch} {e : Env} {R : Room} {s : State} {m : MethodId} {args : Array Value} {below : List Frame} {meth : Method} {c : Code} {cells slots nL : Nat} {D : va_G} {cy : Nat → ClassId} {z : Nat} {H0 : Heap} {Q : State → Prop} {σ : hpMem} {pc : Nat} {lv lv' : List (Nat × Value)} {st : List Value} {cc : ByteArray} {own : String}
theorem h_iconst (C : hpC p s m args c cc nL own D cy) {n : Int} (d : decode cc pc = .ok (.iconst n, 1)) (k : hpV p l e R s m args below meth c cells slots nL D cy z H0 Q σ (pc + 1) lv (.int (hpI n) :: st)) : hpV p l e R s m args below meth c cells slots nL D cy z H0 Q σ pc lv (st) := fun H locs ls hl hP hS => lv_iconst C.1 C.2.1 d rfl (k H locs ls hl hP hS)
theorem h_bipush (C : hpC p s m args c cc nL own D cy) {n : Int} (d : decode cc pc = .ok (.bipush n, 2)) (hn : (Int8.ofInt n).toInt32 = hpI n) (k : hpV p l e R s m args below meth c cells slots nL D cy z H0 Q σ (pc + 2) lv (.int (hpI n) :: st)) : hpV p l e R s m args below meth c cells slots nL D cy z H0 Q σ pc lv st := fun H locs ls hl hP hS => lv_bipush C.1 C.2.1 d hn (k H locs ls hl hP hS)
theorem h_sipush (C : hpC p s m args c cc nL own D cy) {n : Int} (d : decode cc pc = .ok (.sipush n, 3)) (hn : (Int16.ofInt n).toInt32 = hpI n) (k : hpV p l e R s m args below meth c cells slots nL D cy z H0 Q σ (pc + 3) lv (.int (hpI n) :: st)) : hpV p l e R s m args below meth c cells slots nL D cy z H0 Q σ pc lv st := fun H locs ls hl hP hS => lv_sipush C.1 C.2.1 d hn (k H locs ls hl hP hS)
theorem h_lconst (C : hpC p s m args c cc nL own D cy) {n : Fin 2} (a : Int) (d : decode cc pc = .ok (.lconst n, 1)) (hn : Int64.ofNat (n : Nat) = hpJ a) (k : hpV p l e R s m args below meth c cells slots nL D cy z H0 Q σ (pc + 1) lv (.long (hpJ a) :: st)) : hpV p l e R s m args below meth c cells slots nL D cy z H0 Q σ pc lv st := fun H locs ls hl hP hS => lv_lconst C.1 C.2.1 d hn (k H locs ls hl hP hS)
theorem h_ldc (C : hpC p s m args c cc nL own D cy) {v : Int32} {idx : Nat} (a : Int) (hw : Cond.constant own idx v ∈ hpT) (hn : v = hpI a) (d : decode cc pc = .ok (.ldc idx, 2)) (k : hpV p l e R s m args below meth c cells slots nL D cy z H0 Q σ (pc + 2) lv (.int (hpI a) :: st)) : hpV p l e R s m args below meth c cells slots nL D cy z H0 Q σ pc lv st := fun H locs ls hl hP hS => lv_ldc C.1 C.2.1 C.2.2.2.1 (C.2.2.2.2.1 _ hw) d (by rw [hn]; exact (k H locs ls hl hP hS))
theorem h_ldcw (C : hpC p s m args c cc nL own D cy) {v : Int32} {idx : Nat} (a : Int) (hw : Cond.constant own idx v ∈ hpT) (hn : v = hpI a) (d : decode cc pc = .ok (.ldc_w idx, 3)) (k : hpV p l e R s m args below meth c cells slots nL D cy z H0 Q σ (pc + 3) lv (.int (hpI a) :: st)) : hpV p l e R s m args below meth c cells slots nL D cy z H0 Q σ pc lv st := fun H locs ls hl hP hS => lv_ldcw C.1 C.2.1 C.2.2.2.1 (C.2.2.2.2.1 _ hw) d (by rw [hn]; exact (k H locs ls hl hP hS))
theorem h_ldc2 (C : hpC p s m args c cc nL own D cy) {v : Int64} {idx : Nat} (a : Int) (hw : Cond.constantLong own idx v ∈ hpT) (hn : v = hpJ a) (d : decode cc pc = .ok (.ldc2_w idx, 3)) (k : hpV p l e R s m args below meth c cells slots nL D cy z H0 Q σ (pc + 3) lv (.long (hpJ a) :: st)) : hpV p l e R s m args below meth c cells slots nL D cy z H0 Q σ pc lv st := fun H locs ls hl hP hS => lv_ldc2 C.1 C.2.1 C.2.2.2.1 (C.2.2.2.2.1 _ hw) d (by rw [hn]; exact (k H locs ls hl hP hS))
theorem h_iload_n (C : hpC p s m args c cc nL own D cy) {a : Int} {j : Fin 4} {i : Nat} (d : decode cc pc = .ok (.iload_n j, 1)) (q : Nat) (hj : (j : Nat) = i) (hq : lv[q]? = some (i, .int (hpI a))) (k : hpV p l e R s m args below meth c cells slots nL D cy z H0 Q σ (pc + 1) lv (.int (hpI a) :: st)) : hpV p l e R s m args below meth c cells slots nL D cy z H0 Q σ pc lv st := fun H locs ls hl hP hS => lv_iload_n C.1 C.2.1 d hj (lv_at hl q hq) (k H locs ls hl hP hS)
theorem h_iload (C : hpC p s m args c cc nL own D cy) {a : Int} {i : Nat} (d : decode cc pc = .ok (.iload i, 2)) (q : Nat) (hq : lv[q]? = some (i, .int (hpI a))) (k : hpV p l e R s m args below meth c cells slots nL D cy z H0 Q σ (pc + 2) lv (.int (hpI a) :: st)) : hpV p l e R s m args below meth c cells slots nL D cy z H0 Q σ pc lv st := fun H locs ls hl hP hS => lv_iload C.1 C.2.1 d (lv_at hl q hq) (k H locs ls hl hP hS)
theorem h_istore_n (C : hpC p s m args c cc nL own D cy) {a : Int} {j : Fin 4} {i : Nat} (d : decode cc pc = .ok (.istore_n j, 1)) (hj : (j : Nat) = i) (hn : i < nL) (hl' : (i, Value.int (hpI a)) :: lv.filter (fun q => !(q.1 == i) && !(q.1 + 1 == i && q.2.category == 2)) = lv') (k : hpV p l e R s m args below meth c cells slots nL D cy z H0 Q σ (pc + 1) lv' st) : hpV p l e R s m args below meth c cells slots nL D cy z H0 Q σ pc lv (.int (hpI a) :: st) := fun H locs ls hl hP hS => lv_istore_n C.1 C.2.1 d hj hl hn hl' (fun ls2 hl2 => k H locs ls2 hl2 hP hS)
theorem h_istore (C : hpC p s m args c cc nL own D cy) {a : Int} {i : Nat} (d : decode cc pc = .ok (.istore i, 2)) (hn : i < nL) (hl' : (i, Value.int (hpI a)) :: lv.filter (fun q => !(q.1 == i) && !(q.1 + 1 == i && q.2.category == 2)) = lv') (k : hpV p l e R s m args below meth c cells slots nL D cy z H0 Q σ (pc + 2) lv' st) : hpV p l e R s m args below meth c cells slots nL D cy z H0 Q σ pc lv (.int (hpI a) :: st) := fun H locs ls hl hP hS => lv_istore C.1 C.2.1 d hl hn hl' (fun ls2 hl2 => k H locs ls2 hl2 hP hS)
theorem h_lload_n (C : hpC p s m args c cc nL own D cy) {a : Int} {j : Fin 4} {i : Nat} (d : decode cc pc = .ok (.lload_n j, 1)) (q : Nat) (hj : (j : Nat) = i) (hq : lv[q]? = some (i, .long (hpJ a))) (k : hpV p l e R s m args below meth c cells slots nL D cy z H0 Q σ (pc + 1) lv (.long (hpJ a) :: st)) : hpV p l e R s m args below meth c cells slots nL D cy z H0 Q σ pc lv st := fun H locs ls hl hP hS => lv_lload_n C.1 C.2.1 d hj (lv_at hl q hq) (k H locs ls hl hP hS)
theorem h_lload (C : hpC p s m args c cc nL own D cy) {a : Int} {i : Nat} (d : decode cc pc = .ok (.lload i, 2)) (q : Nat) (hq : lv[q]? = some (i, .long (hpJ a))) (k : hpV p l e R s m args below meth c cells slots nL D cy z H0 Q σ (pc + 2) lv (.long (hpJ a) :: st)) : hpV p l e R s m args below meth c cells slots nL D cy z H0 Q σ pc lv st := fun H locs ls hl hP hS => lv_lload C.1 C.2.1 d (lv_at hl q hq) (k H locs ls hl hP hS)
theorem h_lstore_n (C : hpC p s m args c cc nL own D cy) {a : Int} {j : Fin 4} {i : Nat} (d : decode cc pc = .ok (.lstore_n j, 1)) (hj : (j : Nat) = i) (hn : i + 1 < nL) (hl' : (i, Value.long (hpJ a)) :: lv.filter (fun q => !(q.1 == i) && (!(q.1 == i + 1) && !(q.1 + 1 == i && q.2.category == 2))) = lv') (k : hpV p l e R s m args below meth c cells slots nL D cy z H0 Q σ (pc + 1) lv' st) : hpV p l e R s m args below meth c cells slots nL D cy z H0 Q σ pc lv (.long (hpJ a) :: st) := fun H locs ls hl hP hS => lv_lstore_n C.1 C.2.1 d hj hl hn hl' (fun ls2 hl2 => k H locs ls2 hl2 hP hS)
theorem h_lstore (C : hpC p s m args c cc nL own D cy) {a : Int} {i : Nat} (d : decode cc pc = .ok (.lstore i, 2)) (hn : i + 1 < nL) (hl' : (i, Value.long (hpJ a)) :: lv.filter (fun q => !(q.1 == i) && (!(q.1 == i + 1) && !(q.1 + 1 == i && q.2.category == 2))) = lv') (k : hpV p l e R s m args below meth c cells slots nL D cy z H0 Q σ (pc + 2) lv' st) : hpV p l e R s m args below meth c cells slots nL D cy z H0 Q σ pc lv (.long (hpJ a) :: st) := fun H locs ls hl hP hS => lv_lstore C.1 C.2.1 d hl hn hl' (fun ls2 hl2 => k H locs ls2 hl2 hP hS)
theorem h_aload_n (C : hpC p s m args c cc nL own D cy) {a : Nat} {j : Fin 4} {i : Nat} (d : decode cc pc = .ok (.aload_n j, 1)) (q : Nat) (hj : (j : Nat) = i) (hq : lv[q]? = some (i, .ref a)) (k : hpV p l e R s m args below meth c cells slots nL D cy z H0 Q σ (pc + 1) lv (.ref a :: st)) : hpV p l e R s m args below meth c cells slots nL D cy z H0 Q σ pc lv st := fun H locs ls hl hP hS => lv_aload_n C.1 C.2.1 d hj (lv_at hl q hq) (k H locs ls hl hP hS)
theorem h_aload (C : hpC p s m args c cc nL own D cy) {a : Nat} {i : Nat} (d : decode cc pc = .ok (.aload i, 2)) (q : Nat) (hq : lv[q]? = some (i, .ref a)) (k : hpV p l e R s m args below meth c cells slots nL D cy z H0 Q σ (pc + 2) lv (.ref a :: st)) : hpV p l e R s m args below meth c cells slots nL D cy z H0 Q σ pc lv st := fun H locs ls hl hP hS => lv_aload C.1 C.2.1 d (lv_at hl q hq) (k H locs ls hl hP hS)
theorem h_astore_n (C : hpC p s m args c cc nL own D cy) {a : Nat} {j : Fin 4} {i : Nat} (d : decode cc pc = .ok (.astore_n j, 1)) (hj : (j : Nat) = i) (hn : i < nL) (hl' : (i, Value.ref a) :: lv.filter (fun q => !(q.1 == i) && !(q.1 + 1 == i && q.2.category == 2)) = lv') (k : hpV p l e R s m args below meth c cells slots nL D cy z H0 Q σ (pc + 1) lv' st) : hpV p l e R s m args below meth c cells slots nL D cy z H0 Q σ pc lv (.ref a :: st) := fun H locs ls hl hP hS => lv_astore_n C.1 C.2.1 d hj hl hn hl' (fun ls2 hl2 => k H locs ls2 hl2 hP hS)
theorem h_astore (C : hpC p s m args c cc nL own D cy) {a : Nat} {i : Nat} (d : decode cc pc = .ok (.astore i, 2)) (hn : i < nL) (hl' : (i, Value.ref a) :: lv.filter (fun q => !(q.1 == i) && !(q.1 + 1 == i && q.2.category == 2)) = lv') (k : hpV p l e R s m args below meth c cells slots nL D cy z H0 Q σ (pc + 2) lv' st) : hpV p l e R s m args below meth c cells slots nL D cy z H0 Q σ pc lv (.ref a :: st) := fun H locs ls hl hP hS => lv_astore C.1 C.2.1 d hl hn hl' (fun ls2 hl2 => k H locs ls2 hl2 hP hS)
theorem h_iinc (C : hpC p s m args c cc nL own D cy) {a b n : Int} {i : Nat} (d : decode cc pc = .ok (.iinc i n, 3)) (q : Nat) (hq : lv[q]? = some (i, .int (hpI a))) (hr : a + n = b) (hn : i < nL) (hl' : (i, Value.int (hpI b)) :: lv.filter (fun q => !(q.1 == i) && !(q.1 + 1 == i && q.2.category == 2)) = lv') (k : hpV p l e R s m args below meth c cells slots nL D cy z H0 Q σ (pc + 3) lv' st) : hpV p l e R s m args below meth c cells slots nL D cy z H0 Q σ pc lv st := fun H locs ls hl hP hS => lv_iinc C.1 C.2.1 d hl hq (by rw [← hr]; exact hpI_add a n) hn hl' (fun ls2 hl2 => k H locs ls2 hl2 hP hS)
theorem h_iadd (C : hpC p s m args c cc nL own D cy) {a b r : Int} (d : decode cc pc = .ok (.iadd, 1)) (hr : a + b = r) (k : hpV p l e R s m args below meth c cells slots nL D cy z H0 Q σ (pc + 1) lv (.int (hpI r) :: st)) : hpV p l e R s m args below meth c cells slots nL D cy z H0 Q σ pc lv (.int (hpI b) :: .int (hpI a) :: st) := fun H locs ls hl hP hS => lv_iadd C.1 C.2.1 d (by rw [hpI_add, hr]; exact (k H locs ls hl hP hS))
theorem h_isub (C : hpC p s m args c cc nL own D cy) {a b r : Int} (d : decode cc pc = .ok (.isub, 1)) (hr : a - b = r) (k : hpV p l e R s m args below meth c cells slots nL D cy z H0 Q σ (pc + 1) lv (.int (hpI r) :: st)) : hpV p l e R s m args below meth c cells slots nL D cy z H0 Q σ pc lv (.int (hpI b) :: .int (hpI a) :: st) := fun H locs ls hl hP hS => lv_isub C.1 C.2.1 d (by rw [hpI_sub, hr]; exact (k H locs ls hl hP hS))
theorem h_imul (C : hpC p s m args c cc nL own D cy) {a b r : Int} (d : decode cc pc = .ok (.imul, 1)) (hr : a * b = r) (k : hpV p l e R s m args below meth c cells slots nL D cy z H0 Q σ (pc + 1) lv (.int (hpI r) :: st)) : hpV p l e R s m args below meth c cells slots nL D cy z H0 Q σ pc lv (.int (hpI b) :: .int (hpI a) :: st) := fun H locs ls hl hP hS => lv_imul C.1 C.2.1 d (by rw [hpI_mul, hr]; exact (k H locs ls hl hP hS))
theorem h_ladd (C : hpC p s m args c cc nL own D cy) {a b r : Int} (d : decode cc pc = .ok (.ladd, 1)) (hr : a + b = r) (k : hpV p l e R s m args below meth c cells slots nL D cy z H0 Q σ (pc + 1) lv (.long (hpJ r) :: st)) : hpV p l e R s m args below meth c cells slots nL D cy z H0 Q σ pc lv (.long (hpJ b) :: .long (hpJ a) :: st) := fun H locs ls hl hP hS => lv_ladd C.1 C.2.1 d (by rw [hpJ_add, hr]; exact (k H locs ls hl hP hS))
theorem h_lmul (C : hpC p s m args c cc nL own D cy) {a b r : Int} (d : decode cc pc = .ok (.lmul, 1)) (hr : a * b = r) (k : hpV p l e R s m args below meth c cells slots nL D cy z H0 Q σ (pc + 1) lv (.long (hpJ r) :: st)) : hpV p l e R s m args below meth c cells slots nL D cy z H0 Q σ pc lv (.long (hpJ b) :: .long (hpJ a) :: st) := fun H locs ls hl hP hS => lv_lmul C.1 C.2.1 d (by rw [hpJ_mul, hr]; exact (k H locs ls hl hP hS))
theorem hpI_div {a b : Int} (ha : 0 ≤ a) (ha2 : a < 2147483648) (hb : 0 < b) (hb2 : b < 2147483648) : hpI a / hpI b = hpI (a / b) := by
  have h1 : 0 ≤ a / b := Int.ediv_nonneg ha (by omega)
  have h2 : a / b ≤ a := Int.ediv_le_self b ha
  have hne : hpI b ≠ -1 := fun q => by
    have h3 := congrArg Int32.toInt q
    rw [hpI_toInt ⟨by omega, hb2⟩] at h3
    have h4 : (-1 : Int32).toInt = -1 := by decide
    omega
  rw [← Int32.toInt_inj, Int32.toInt_div_of_ne_right _ _ hne, hpI_toInt ⟨by omega, ha2⟩, hpI_toInt ⟨by omega, hb2⟩, hpI_toInt ⟨by omega, by omega⟩, Int.tdiv_eq_ediv_of_nonneg ha]
theorem hpI_ne0 {b : Int} (hb : hpR b) (h : b ≠ 0) : ¬ hpI b = 0 := fun q => h ((hpI_eq hb hpR_0).mp (by rw [q, hpI_0]))
theorem h_idiv (C : hpC p s m args c cc nL own D cy) {a b : Int} (d : decode cc pc = .ok (.idiv, 1)) (ha : 0 ≤ a) (ha2 : a < 2147483648) (hb : 0 < b) (hb2 : b < 2147483648) (k : hpV p l e R s m args below meth c cells slots nL D cy z H0 Q σ (pc + 1) lv (.int (hpI (a / b)) :: st)) : hpV p l e R s m args below meth c cells slots nL D cy z H0 Q σ pc lv (.int (hpI b) :: .int (hpI a) :: st) := fun H locs ls hl hP hS => lv_idiv C.1 C.2.1 d (hpI_ne0 ⟨by omega, hb2⟩ (by omega)) (by rw [hpI_div ha ha2 hb hb2]; exact (k H locs ls hl hP hS))
theorem h_irem (C : hpC p s m args c cc nL own D cy) {a b : Int} (d : decode cc pc = .ok (.irem, 1)) (ha : 0 ≤ a) (ha2 : a < 2147483648) (hb : 0 < b) (hb2 : b < 2147483648) (k : hpV p l e R s m args below meth c cells slots nL D cy z H0 Q σ (pc + 1) lv (.int (hpI (a % b)) :: st)) : hpV p l e R s m args below meth c cells slots nL D cy z H0 Q σ pc lv (.int (hpI b) :: .int (hpI a) :: st) := fun H locs ls hl hP hS => lv_irem C.1 C.2.1 d (hpI_ne0 ⟨by omega, hb2⟩ (by omega)) (by rw [hpI_div ha ha2 hb hb2, hpI_mul, hpI_sub, show a - a / b * b = a % b by rw [Int.emod_def, Int.mul_comm]]; exact (k H locs ls hl hP hS))
theorem hp_anyI {x : Int32} (k : ∀ r : Int, hpR r → hpV p l e R s m args below meth c cells slots nL D cy z H0 Q σ pc lv (.int (hpI r) :: st)) : hpV p l e R s m args below meth c cells slots nL D cy z H0 Q σ pc lv (.int x :: st) := by
  have h := k x.toInt (hpR_of x)
  rw [hpI_of] at h
  exact h
theorem hp_anyL {x : Int64} (k : ∀ r : Int, hpRL r → hpV p l e R s m args below meth c cells slots nL D cy z H0 Q σ pc lv (.long (hpJ r) :: st)) : hpV p l e R s m args below meth c cells slots nL D cy z H0 Q σ pc lv (.long x :: st) := by
  have h := k x.toInt (hpRL_of x)
  rw [hpJ_of] at h
  exact h
theorem h_iand_any (C : hpC p s m args c cc nL own D cy) {x y : Int32} (d : decode cc pc = .ok (.iand, 1)) (k : ∀ r : Int, hpR r → hpV p l e R s m args below meth c cells slots nL D cy z H0 Q σ (pc + 1) lv (.int (hpI r) :: st)) : hpV p l e R s m args below meth c cells slots nL D cy z H0 Q σ pc lv (.int y :: .int x :: st) := fun H locs ls hl hP hS => lv_iand C.1 C.2.1 d (hp_anyI k H locs ls hl hP hS)
theorem h_ior_any (C : hpC p s m args c cc nL own D cy) {x y : Int32} (d : decode cc pc = .ok (.ior, 1)) (k : ∀ r : Int, hpR r → hpV p l e R s m args below meth c cells slots nL D cy z H0 Q σ (pc + 1) lv (.int (hpI r) :: st)) : hpV p l e R s m args below meth c cells slots nL D cy z H0 Q σ pc lv (.int y :: .int x :: st) := fun H locs ls hl hP hS => lv_ior C.1 C.2.1 d (hp_anyI k H locs ls hl hP hS)
theorem h_ixor_any (C : hpC p s m args c cc nL own D cy) {x y : Int32} (d : decode cc pc = .ok (.ixor, 1)) (k : ∀ r : Int, hpR r → hpV p l e R s m args below meth c cells slots nL D cy z H0 Q σ (pc + 1) lv (.int (hpI r) :: st)) : hpV p l e R s m args below meth c cells slots nL D cy z H0 Q σ pc lv (.int y :: .int x :: st) := fun H locs ls hl hP hS => lv_ixor C.1 C.2.1 d (hp_anyI k H locs ls hl hP hS)
theorem h_ishl_any (C : hpC p s m args c cc nL own D cy) {x y : Int32} (d : decode cc pc = .ok (.ishl, 1)) (k : ∀ r : Int, hpR r → hpV p l e R s m args below meth c cells slots nL D cy z H0 Q σ (pc + 1) lv (.int (hpI r) :: st)) : hpV p l e R s m args below meth c cells slots nL D cy z H0 Q σ pc lv (.int y :: .int x :: st) := fun H locs ls hl hP hS => lv_ishl C.1 C.2.1 d (hp_anyI k H locs ls hl hP hS)
theorem h_ishr_any (C : hpC p s m args c cc nL own D cy) {x y : Int32} (d : decode cc pc = .ok (.ishr, 1)) (k : ∀ r : Int, hpR r → hpV p l e R s m args below meth c cells slots nL D cy z H0 Q σ (pc + 1) lv (.int (hpI r) :: st)) : hpV p l e R s m args below meth c cells slots nL D cy z H0 Q σ pc lv (.int y :: .int x :: st) := fun H locs ls hl hP hS => lv_ishr C.1 C.2.1 d (hp_anyI k H locs ls hl hP hS)
theorem h_land_any (C : hpC p s m args c cc nL own D cy) {x y : Int64} (d : decode cc pc = .ok (.land, 1)) (k : ∀ r : Int, hpRL r → hpV p l e R s m args below meth c cells slots nL D cy z H0 Q σ (pc + 1) lv (.long (hpJ r) :: st)) : hpV p l e R s m args below meth c cells slots nL D cy z H0 Q σ pc lv (.long y :: .long x :: st) := fun H locs ls hl hP hS => lv_land C.1 C.2.1 d (hp_anyL k H locs ls hl hP hS)
theorem h_lor_any (C : hpC p s m args c cc nL own D cy) {x y : Int64} (d : decode cc pc = .ok (.lor, 1)) (k : ∀ r : Int, hpRL r → hpV p l e R s m args below meth c cells slots nL D cy z H0 Q σ (pc + 1) lv (.long (hpJ r) :: st)) : hpV p l e R s m args below meth c cells slots nL D cy z H0 Q σ pc lv (.long y :: .long x :: st) := fun H locs ls hl hP hS => lv_lor C.1 C.2.1 d (hp_anyL k H locs ls hl hP hS)
theorem h_lshl_any (C : hpC p s m args c cc nL own D cy) {x : Int64} {y : Int32} (d : decode cc pc = .ok (.lshl, 1)) (k : ∀ r : Int, hpRL r → hpV p l e R s m args below meth c cells slots nL D cy z H0 Q σ (pc + 1) lv (.long (hpJ r) :: st)) : hpV p l e R s m args below meth c cells slots nL D cy z H0 Q σ pc lv (.int y :: .long x :: st) := fun H locs ls hl hP hS => lv_lshl C.1 C.2.1 d rfl (hp_anyL k H locs ls hl hP hS)
theorem h_lshr_any (C : hpC p s m args c cc nL own D cy) {x : Int64} {y : Int32} (d : decode cc pc = .ok (.lshr, 1)) (k : ∀ r : Int, hpRL r → hpV p l e R s m args below meth c cells slots nL D cy z H0 Q σ (pc + 1) lv (.long (hpJ r) :: st)) : hpV p l e R s m args below meth c cells slots nL D cy z H0 Q σ pc lv (.int y :: .long x :: st) := fun H locs ls hl hP hS => lv_lshr C.1 C.2.1 d rfl (hp_anyL k H locs ls hl hP hS)
theorem hp_and127 (x : Int32) : 0 ≤ (x &&& 127).toInt ∧ (x &&& 127).toInt ≤ 127 := by
  obtain ⟨j, h1, h2⟩ := pk_andE x (m := 127) 7 (by decide)
  rw [h2, nI_toInt (by omega)]
  omega
theorem h_and127 (C : hpC p s m args c cc nL own D cy) {x : Int32} (d : decode cc pc = .ok (.iand, 1)) (k : ∀ r : Int, 0 ≤ r → r ≤ 127 → hpV p l e R s m args below meth c cells slots nL D cy z H0 Q σ (pc + 1) lv (.int (hpI r) :: st)) : hpV p l e R s m args below meth c cells slots nL D cy z H0 Q σ pc lv (.int (hpI 127) :: .int x :: st) := fun H locs ls hl hP hS => lv_iand C.1 C.2.1 d (by have h := k _ (hp_and127 x).1 (hp_and127 x).2 H locs ls hl hP hS; rw [hpI_of] at h; exact h)
theorem h_i2b (C : hpC p s m args c cc nL own D cy) {x : Int32} (d : decode cc pc = .ok (.i2b, 1)) (k : ∀ r : Int, -128 ≤ r → r < 128 → hpV p l e R s m args below meth c cells slots nL D cy z H0 Q σ (pc + 1) lv (.int (hpI r) :: st)) : hpV p l e R s m args below meth c cells slots nL D cy z H0 Q σ pc lv (.int x :: st) := fun H locs ls hl hP hS => lv_i2b C.1 C.2.1 d rfl (by have h := k x.toInt8.toInt (Int8.le_toInt _) (Int8.toInt_lt _) H locs ls hl hP hS; rw [show hpI x.toInt8.toInt = x.toInt8.toInt32 from rfl] at h; exact h)
theorem h_i2l (C : hpC p s m args c cc nL own D cy) {a : Int} (d : decode cc pc = .ok (.i2l, 1)) (ha : hpR a) (k : hpV p l e R s m args below meth c cells slots nL D cy z H0 Q σ (pc + 1) lv (.long (hpJ a) :: st)) : hpV p l e R s m args below meth c cells slots nL D cy z H0 Q σ pc lv (.int (hpI a) :: st) := fun H locs ls hl hP hS => lv_i2l C.1 C.2.1 d (by show Int64.ofInt (hpI a).toInt = Int64.ofInt a; rw [hpI_toInt ha]) (k H locs ls hl hP hS)
theorem h_l2i (C : hpC p s m args c cc nL own D cy) {a : Int} (d : decode cc pc = .ok (.l2i, 1)) (k : hpV p l e R s m args below meth c cells slots nL D cy z H0 Q σ (pc + 1) lv (.int (hpI a) :: st)) : hpV p l e R s m args below meth c cells slots nL D cy z H0 Q σ pc lv (.long (hpJ a) :: st) := fun H locs ls hl hP hS => lv_l2i C.1 C.2.1 d Int64.toInt32_ofInt (k H locs ls hl hP hS)
theorem hp_cmp {a b : Int} (ha : hpRL a) (hb : hpRL b) : ∃ r : Int, hpI r = lg_cmp (hpJ a) (hpJ b) ∧ (r = -1 ∧ a < b ∨ r = 0 ∧ a = b ∨ r = 1 ∧ b < a) := by
  rcases Int.lt_trichotomy a b with h | h | h
  · refine ⟨-1, ?_, Or.inl ⟨rfl, h⟩⟩
    unfold lg_cmp
    rw [if_neg (by rw [gt_iff_lt, hpJ_lt hb ha]; omega), if_neg (by rw [hpJ_eq ha hb]; omega)]
    rfl
  · refine ⟨0, ?_, Or.inr (Or.inl ⟨rfl, h⟩)⟩
    unfold lg_cmp
    rw [if_neg (by rw [gt_iff_lt, hpJ_lt hb ha]; omega), if_pos (by rw [h])]
    rfl
  · refine ⟨1, ?_, Or.inr (Or.inr ⟨rfl, h⟩)⟩
    unfold lg_cmp
    rw [if_pos (by rw [gt_iff_lt, hpJ_lt hb ha]; exact h)]
    rfl
theorem h_lcmp (C : hpC p s m args c cc nL own D cy) {a b : Int} (d : decode cc pc = .ok (.lcmp, 1)) (ha : hpRL a) (hb : hpRL b) (k : ∀ r : Int, (r = -1 ∧ a < b ∨ r = 0 ∧ a = b ∨ r = 1 ∧ b < a) → hpV p l e R s m args below meth c cells slots nL D cy z H0 Q σ (pc + 1) lv (.int (hpI r) :: st)) : hpV p l e R s m args below meth c cells slots nL D cy z H0 Q σ pc lv (.long (hpJ b) :: .long (hpJ a) :: st) := fun H locs ls hl hP hS => by
  obtain ⟨r, h1, h2⟩ := hp_cmp ha hb
  refine W.lcmp C.1 C.2.1 d ?_
  rw [← h1]
  exact k r h2 H locs ls hl hP hS
theorem h_dup (C : hpC p s m args c cc nL own D cy) {va : Value} (hv : va.category = 1) (d : decode cc pc = .ok (.dup, 1)) (k : hpV p l e R s m args below meth c cells slots nL D cy z H0 Q σ (pc + 1) lv (va :: va :: st)) : hpV p l e R s m args below meth c cells slots nL D cy z H0 Q σ pc lv (va :: st) := fun H locs ls hl hP hS => lv_dup C.1 C.2.1 d hv (k H locs ls hl hP hS)
theorem h_pop (C : hpC p s m args c cc nL own D cy) {va : Value} (hv : va.category = 1) (d : decode cc pc = .ok (.pop, 1)) (k : hpV p l e R s m args below meth c cells slots nL D cy z H0 Q σ (pc + 1) lv (st)) : hpV p l e R s m args below meth c cells slots nL D cy z H0 Q σ pc lv (va :: st) := fun H locs ls hl hP hS => lv_pop C.1 C.2.1 d hv (k H locs ls hl hP hS)
theorem h_dup2 (C : hpC p s m args c cc nL own D cy) {va vb : Value} (hva : va.category = 1) (hvb : vb.category = 1) (d : decode cc pc = .ok (.dup2, 1)) (k : hpV p l e R s m args below meth c cells slots nL D cy z H0 Q σ (pc + 1) lv (va :: vb :: va :: vb :: st)) : hpV p l e R s m args below meth c cells slots nL D cy z H0 Q σ pc lv (va :: vb :: st) := fun H locs ls hl hP hS => lv_dup2_11 C.1 C.2.1 d hva hvb (k H locs ls hl hP hS)
theorem h_icmp_eq (C : hpC p s m args c cc nL own D cy) {a b off : Int} {tgt : Nat} (d : decode cc pc = .ok (.if_icmp .eq off, 3)) (ht : (pc : Int) + off = (tgt : Int)) (ha : hpR a) (hb : hpR b) (kt : a = b → hpV p l e R s m args below meth c cells slots nL D cy z H0 Q σ tgt lv st) (kf : ¬ (a = b) → hpV p l e R s m args below meth c cells slots nL D cy z H0 Q σ (pc + 3) lv st) : hpV p l e R s m args below meth c cells slots nL D cy z H0 Q σ pc lv (.int (hpI b) :: .int (hpI a) :: st) := fun H locs ls hl hP hS => lv_icmp_eq C.1 C.2.1 d ht (fun h => kt ((hpI_eq ha hb).mp h) H locs ls hl hP hS) (fun h => kf (fun q => h ((hpI_eq ha hb).mpr q)) H locs ls hl hP hS)
theorem h_if_eq (C : hpC p s m args c cc nL own D cy) {a off : Int} {tgt : Nat} (d : decode cc pc = .ok (.ifCond .eq off, 3)) (ht : (pc : Int) + off = (tgt : Int)) (ha : hpR a) (kt : a = 0 → hpV p l e R s m args below meth c cells slots nL D cy z H0 Q σ tgt lv st) (kf : ¬ (a = 0) → hpV p l e R s m args below meth c cells slots nL D cy z H0 Q σ (pc + 3) lv st) : hpV p l e R s m args below meth c cells slots nL D cy z H0 Q σ pc lv (.int (hpI a) :: st) := fun H locs ls hl hP hS => by
  have e := (hpI_eq ha hpR_0)
  rw [hpI_0] at e
  exact lv_if_eq C.1 C.2.1 d ht (fun h => kt (e.mp h) H locs ls hl hP hS) (fun h => kf (fun q => h (e.mpr q)) H locs ls hl hP hS)
theorem h_icmp_ne (C : hpC p s m args c cc nL own D cy) {a b off : Int} {tgt : Nat} (d : decode cc pc = .ok (.if_icmp .ne off, 3)) (ht : (pc : Int) + off = (tgt : Int)) (ha : hpR a) (hb : hpR b) (kt : ¬ a = b → hpV p l e R s m args below meth c cells slots nL D cy z H0 Q σ tgt lv st) (kf : a = b → hpV p l e R s m args below meth c cells slots nL D cy z H0 Q σ (pc + 3) lv st) : hpV p l e R s m args below meth c cells slots nL D cy z H0 Q σ pc lv (.int (hpI b) :: .int (hpI a) :: st) := fun H locs ls hl hP hS => lv_icmp_ne C.1 C.2.1 d ht (fun h => kt (fun q => h ((hpI_eq ha hb).mpr q)) H locs ls hl hP hS) (fun h => kf ((hpI_eq ha hb).mp h) H locs ls hl hP hS)
theorem h_if_ne (C : hpC p s m args c cc nL own D cy) {a off : Int} {tgt : Nat} (d : decode cc pc = .ok (.ifCond .ne off, 3)) (ht : (pc : Int) + off = (tgt : Int)) (ha : hpR a) (kt : ¬ a = 0 → hpV p l e R s m args below meth c cells slots nL D cy z H0 Q σ tgt lv st) (kf : a = 0 → hpV p l e R s m args below meth c cells slots nL D cy z H0 Q σ (pc + 3) lv st) : hpV p l e R s m args below meth c cells slots nL D cy z H0 Q σ pc lv (.int (hpI a) :: st) := fun H locs ls hl hP hS => by
  have e := hpI_eq ha hpR_0
  rw [hpI_0] at e
  exact lv_if_ne C.1 C.2.1 d ht (fun h => kt (fun q => h (e.mpr q)) H locs ls hl hP hS) (fun h => kf (e.mp h) H locs ls hl hP hS)
theorem h_icmp_lt (C : hpC p s m args c cc nL own D cy) {a b off : Int} {tgt : Nat} (d : decode cc pc = .ok (.if_icmp .lt off, 3)) (ht : (pc : Int) + off = (tgt : Int)) (ha : hpR a) (hb : hpR b) (kt : a < b → hpV p l e R s m args below meth c cells slots nL D cy z H0 Q σ tgt lv st) (kf : ¬ (a < b) → hpV p l e R s m args below meth c cells slots nL D cy z H0 Q σ (pc + 3) lv st) : hpV p l e R s m args below meth c cells slots nL D cy z H0 Q σ pc lv (.int (hpI b) :: .int (hpI a) :: st) := fun H locs ls hl hP hS => lv_icmp_lt C.1 C.2.1 d ht (fun h => kt ((hpI_lt ha hb).mp h) H locs ls hl hP hS) (fun h => kf (fun q => h ((hpI_lt ha hb).mpr q)) H locs ls hl hP hS)
theorem h_if_lt (C : hpC p s m args c cc nL own D cy) {a off : Int} {tgt : Nat} (d : decode cc pc = .ok (.ifCond .lt off, 3)) (ht : (pc : Int) + off = (tgt : Int)) (ha : hpR a) (kt : a < 0 → hpV p l e R s m args below meth c cells slots nL D cy z H0 Q σ tgt lv st) (kf : ¬ (a < 0) → hpV p l e R s m args below meth c cells slots nL D cy z H0 Q σ (pc + 3) lv st) : hpV p l e R s m args below meth c cells slots nL D cy z H0 Q σ pc lv (.int (hpI a) :: st) := fun H locs ls hl hP hS => by
  have e := (hpI_lt ha hpR_0)
  rw [hpI_0] at e
  exact lv_if_lt C.1 C.2.1 d ht (fun h => kt (e.mp h) H locs ls hl hP hS) (fun h => kf (fun q => h (e.mpr q)) H locs ls hl hP hS)
theorem h_icmp_ge (C : hpC p s m args c cc nL own D cy) {a b off : Int} {tgt : Nat} (d : decode cc pc = .ok (.if_icmp .ge off, 3)) (ht : (pc : Int) + off = (tgt : Int)) (ha : hpR a) (hb : hpR b) (kt : b ≤ a → hpV p l e R s m args below meth c cells slots nL D cy z H0 Q σ tgt lv st) (kf : ¬ (b ≤ a) → hpV p l e R s m args below meth c cells slots nL D cy z H0 Q σ (pc + 3) lv st) : hpV p l e R s m args below meth c cells slots nL D cy z H0 Q σ pc lv (.int (hpI b) :: .int (hpI a) :: st) := fun H locs ls hl hP hS => lv_icmp_ge C.1 C.2.1 d ht (fun h => kt ((hpI_le hb ha).mp h) H locs ls hl hP hS) (fun h => kf (fun q => h ((hpI_le hb ha).mpr q)) H locs ls hl hP hS)
theorem h_if_ge (C : hpC p s m args c cc nL own D cy) {a off : Int} {tgt : Nat} (d : decode cc pc = .ok (.ifCond .ge off, 3)) (ht : (pc : Int) + off = (tgt : Int)) (ha : hpR a) (kt : 0 ≤ a → hpV p l e R s m args below meth c cells slots nL D cy z H0 Q σ tgt lv st) (kf : ¬ (0 ≤ a) → hpV p l e R s m args below meth c cells slots nL D cy z H0 Q σ (pc + 3) lv st) : hpV p l e R s m args below meth c cells slots nL D cy z H0 Q σ pc lv (.int (hpI a) :: st) := fun H locs ls hl hP hS => by
  have e := (hpI_le hpR_0 ha)
  rw [hpI_0] at e
  exact lv_if_ge C.1 C.2.1 d ht (fun h => kt (e.mp h) H locs ls hl hP hS) (fun h => kf (fun q => h (e.mpr q)) H locs ls hl hP hS)
theorem h_icmp_gt (C : hpC p s m args c cc nL own D cy) {a b off : Int} {tgt : Nat} (d : decode cc pc = .ok (.if_icmp .gt off, 3)) (ht : (pc : Int) + off = (tgt : Int)) (ha : hpR a) (hb : hpR b) (kt : b < a → hpV p l e R s m args below meth c cells slots nL D cy z H0 Q σ tgt lv st) (kf : ¬ (b < a) → hpV p l e R s m args below meth c cells slots nL D cy z H0 Q σ (pc + 3) lv st) : hpV p l e R s m args below meth c cells slots nL D cy z H0 Q σ pc lv (.int (hpI b) :: .int (hpI a) :: st) := fun H locs ls hl hP hS => lv_icmp_gt C.1 C.2.1 d ht (fun h => kt ((hpI_lt hb ha).mp h) H locs ls hl hP hS) (fun h => kf (fun q => h ((hpI_lt hb ha).mpr q)) H locs ls hl hP hS)
theorem h_if_gt (C : hpC p s m args c cc nL own D cy) {a off : Int} {tgt : Nat} (d : decode cc pc = .ok (.ifCond .gt off, 3)) (ht : (pc : Int) + off = (tgt : Int)) (ha : hpR a) (kt : 0 < a → hpV p l e R s m args below meth c cells slots nL D cy z H0 Q σ tgt lv st) (kf : ¬ (0 < a) → hpV p l e R s m args below meth c cells slots nL D cy z H0 Q σ (pc + 3) lv st) : hpV p l e R s m args below meth c cells slots nL D cy z H0 Q σ pc lv (.int (hpI a) :: st) := fun H locs ls hl hP hS => by
  have e := (hpI_lt hpR_0 ha)
  rw [hpI_0] at e
  exact lv_if_gt C.1 C.2.1 d ht (fun h => kt (e.mp h) H locs ls hl hP hS) (fun h => kf (fun q => h (e.mpr q)) H locs ls hl hP hS)
theorem h_icmp_le (C : hpC p s m args c cc nL own D cy) {a b off : Int} {tgt : Nat} (d : decode cc pc = .ok (.if_icmp .le off, 3)) (ht : (pc : Int) + off = (tgt : Int)) (ha : hpR a) (hb : hpR b) (kt : a ≤ b → hpV p l e R s m args below meth c cells slots nL D cy z H0 Q σ tgt lv st) (kf : ¬ (a ≤ b) → hpV p l e R s m args below meth c cells slots nL D cy z H0 Q σ (pc + 3) lv st) : hpV p l e R s m args below meth c cells slots nL D cy z H0 Q σ pc lv (.int (hpI b) :: .int (hpI a) :: st) := fun H locs ls hl hP hS => lv_icmp_le C.1 C.2.1 d ht (fun h => kt ((hpI_le ha hb).mp h) H locs ls hl hP hS) (fun h => kf (fun q => h ((hpI_le ha hb).mpr q)) H locs ls hl hP hS)
theorem h_if_le (C : hpC p s m args c cc nL own D cy) {a off : Int} {tgt : Nat} (d : decode cc pc = .ok (.ifCond .le off, 3)) (ht : (pc : Int) + off = (tgt : Int)) (ha : hpR a) (kt : a ≤ 0 → hpV p l e R s m args below meth c cells slots nL D cy z H0 Q σ tgt lv st) (kf : ¬ (a ≤ 0) → hpV p l e R s m args below meth c cells slots nL D cy z H0 Q σ (pc + 3) lv st) : hpV p l e R s m args below meth c cells slots nL D cy z H0 Q σ pc lv (.int (hpI a) :: st) := fun H locs ls hl hP hS => by
  have e := (hpI_le ha hpR_0)
  rw [hpI_0] at e
  exact lv_if_le C.1 C.2.1 d ht (fun h => kt (e.mp h) H locs ls hl hP hS) (fun h => kf (fun q => h (e.mpr q)) H locs ls hl hP hS)
theorem h_goto (C : hpC p s m args c cc nL own D cy) {off : Int} {tgt : Nat} (d : decode cc pc = .ok (.goto off, 3)) (ht : (pc : Int) + off = (tgt : Int)) (k : hpV p l e R s m args below meth c cells slots nL D cy z H0 Q σ tgt lv st) : hpV p l e R s m args below meth c cells slots nL D cy z H0 Q σ pc lv st := fun H locs ls hl hP hS => lv_goto C.1 C.2.1 d ht (k H locs ls hl hP hS)
theorem h_tableOut (C : hpC p s m args c cc nL own D cy) {a dflt lo hi : Int} {offs : Array Int} {len tgt : Nat} (d : decode cc pc = .ok (.tableswitch dflt lo hi offs, len)) (ha : hpR a) (h : a < lo ∨ hi < a) (ht : (pc : Int) + dflt = (tgt : Int)) (k : hpV p l e R s m args below meth c cells slots nL D cy z H0 Q σ tgt lv st) : hpV p l e R s m args below meth c cells slots nL D cy z H0 Q σ pc lv (.int (hpI a) :: st) := fun H locs ls hl hP hS => lv_tableOut C.1 C.2.1 d (by rw [hpI_toInt ha]; exact h) ht (k H locs ls hl hP hS)
theorem h_tableIn (C : hpC p s m args c cc nL own D cy) {a dflt lo hi off : Int} {offs : Array Int} {len tgt : Nat} (d : decode cc pc = .ok (.tableswitch dflt lo hi offs, len)) (ha : hpR a) (h1 : ¬ a < lo) (h2 : ¬ hi < a) (ho : offs[(a - lo).toNat]? = some off) (ht : (pc : Int) + off = (tgt : Int)) (k : hpV p l e R s m args below meth c cells slots nL D cy z H0 Q σ tgt lv st) : hpV p l e R s m args below meth c cells slots nL D cy z H0 Q σ pc lv (.int (hpI a) :: st) := fun H locs ls hl hP hS => lv_tableIn C.1 C.2.1 d (by rw [hpI_toInt ha]; exact h1) (by rw [hpI_toInt ha]; exact h2) (by rw [hpI_toInt ha]; exact ho) ht (k H locs ls hl hP hS)
theorem h_ireturn {post : Option Value → hpMem → Prop} (C : hpC p s m args c cc nL own D cy) {a : Int} (hr : meth.sig.returnType = some .int) (hk : meth.locks = false) (d : decode cc pc = .ok (.ireturn, 1)) (hp : post (some (.int (hpI a))) σ) : hpV p l e R s m args below meth c cells slots nL D cy z s.heap (MQ below (hpQ D cy z post) args s cells slots (fun q => z ≤ q)) σ pc lv ([.int (hpI a)]) := fun H locs ls hl hP hS => W.iret C.1 C.2.1 hr (fun t ht _ => ⟨⟨_, σ, rfl, hp, by rw [ht]; exact hP⟩, hS.F ht⟩) (fun q hq => hS.2.2 q hq) d hk
theorem h_zreturn {post : Option Value → hpMem → Prop} (C : hpC p s m args c cc nL own D cy) {a : Int} (ha : a = 0 ∨ a = 1) (hr : meth.sig.returnType = some .boolean) (hk : meth.locks = false) (d : decode cc pc = .ok (.ireturn, 1)) (hp : post (some (.int (hpI a))) σ) : hpV p l e R s m args below meth c cells slots nL D cy z s.heap (MQ below (hpQ D cy z post) args s cells slots (fun q => z ≤ q)) σ pc lv ([.int (hpI a)]) := fun H locs ls hl hP hS => W.zret C.1 C.2.1 hr (by rcases ha with rfl | rfl <;> decide) (fun t ht _ => ⟨⟨_, σ, rfl, hp, by rw [ht]; exact hP⟩, hS.F ht⟩) (fun q hq => hS.2.2 q hq) d hk
theorem h_lreturn {post : Option Value → hpMem → Prop} (C : hpC p s m args c cc nL own D cy) {a : Int} (hr : meth.sig.returnType = some .long) (hk : meth.locks = false) (d : decode cc pc = .ok (.lreturn, 1)) (hp : post (some (.long (hpJ a))) σ) : hpV p l e R s m args below meth c cells slots nL D cy z s.heap (MQ below (hpQ D cy z post) args s cells slots (fun q => z ≤ q)) σ pc lv ([.long (hpJ a)]) := fun H locs ls hl hP hS => W.lret C.1 C.2.1 hr (fun t ht _ => ⟨⟨_, σ, rfl, hp, by rw [ht]; exact hP⟩, hS.F ht⟩) (fun q hq => hS.2.2 q hq) d hk
theorem h_return {post : Option Value → hpMem → Prop} (C : hpC p s m args c cc nL own D cy)  (hr : meth.sig.returnType = none) (hk : meth.locks = false) (d : decode cc pc = .ok (.return_, 1)) (hp : post (none) σ) : hpV p l e R s m args below meth c cells slots nL D cy z s.heap (MQ below (hpQ D cy z post) args s cells slots (fun q => z ≤ q)) σ pc lv ([]) := fun H locs ls hl hP hS => W.vret C.1 C.2.1 hr (fun t ht _ => ⟨⟨_, σ, rfl, hp, by rw [ht]; exact hP⟩, hS.F ht⟩) (fun q hq => hS.2.2 q hq) d hk
theorem h_areturn {post : Option Value → hpMem → Prop} (C : hpC p s m args c cc nL own D cy) {a : Nat} {rt : FieldType} (hrt : (∃ n, rt = .object n) ∨ ∃ t, rt = .array t) (hr : meth.sig.returnType = some rt) (hk : meth.locks = false) (d : decode cc pc = .ok (.areturn, 1)) (hp : post (some (.ref a)) σ) : hpV p l e R s m args below meth c cells slots nL D cy z s.heap (MQ below (hpQ D cy z post) args s cells slots (fun q => z ≤ q)) σ pc lv [.ref a] := fun H locs ls hl hP hS => W.aret C.1 C.2.1 hr hrt (Or.inr ⟨a, rfl⟩) (fun t ht _ => ⟨⟨_, σ, rfl, hp, by rw [ht]; exact hP⟩, hS.F ht⟩) (fun q hq => hS.2.2 q hq) d hk
end HPR
end
section
section HPH
variable {p : Program} {l : Launch} {e : Env} {R : Room} {s : State} {m : MethodId} {args : Array Value} {below : List Frame} {meth : Method} {c : Code} {cells slots nL : Nat} {D : va_G} {cy : Nat → ClassId} {z : Nat} {H0 : Heap} {Q : State → Prop} {σ : hpMem} {pc : Nat} {lv : List (Nat × Value)} {st : List Value} {cc : ByteArray} {own : String}
/-- what is fixed of a class: its number, its name, its fields -/
def hpO (ci : Nat) (Cn : String) (T : u_T) (N : Nat) (ty : Nat → FieldType) : Prop := hpCl[ci]? = some (Cn, T, N) ∧ ci < 10 ∧ hpnf ci = N ∧ (∀ w ∈ u_ws Cn T N, w ∈ hpT) ∧ (∀ k, k < N → parseFieldDescriptor (T k).2.2.1 = some (ty k)) ∧ (∀ a, a < N → ∀ b, b < N → a ≠ b → (T a).2.1 ≠ (T b).2.1)
theorem hp_obj {z k ci N : Nat} {Cn : String} {T : u_T} {ty : Nat → FieldType} {σ : hpMem} {cy : Nat → ClassId} (O : hpO ci Cn T N ty) (hk : hpkd k = ci) : (hpW z cy σ)[k]? = some (z + k, .inr (ci, (List.range N).map (hpfv z k (σ k)))) := by
  rw [hpW_get (hpkd_lt hk (by have := O.2.1; omega)), hpE_o hk O.2.1, O.2.2.1]
theorem h_get {v : Value} {ci k N idx : Nat} {Cn : String} {T : u_T} {ty : Nat → FieldType} (C : hpC p s m args c cc nL own D cy) (O : hpO ci Cn T N ty) (i : Nat) (hk : hpkd k = ci) (hi : i < N) (hw : Cond.fieldLink own idx (T i).1 (T i).2.1 (T i).2.2.1 ∈ hpT) (d : decode cc pc = .ok (.getfield idx, 3)) (hv : hpfv z k (σ k) i = v)
    (kk : hpV p l e R s m args below meth c cells slots nL D cy z H0 Q σ (pc + 3) lv (v :: st)) : hpV p l e R s m args below meth c cells slots nL D cy z H0 Q σ pc lv (.ref (z + k) :: st) := fun H locs ls hl hP hS =>
  va_get C.1 C.2.1 C.2.2.2.2.1 O.2.2.2.1 C.2.2.2.1 C.2.2.2.2.2.2 hP k (hp_obj O hk) O.1 i hi (C.2.2.2.2.1 _ hw) (fun _ h => h) (by rw [hp_fget hi, hv]) d (kk H locs ls hl hP hS)
theorem h_getN {v : Value} {ci k N idx : Nat} {Cn host : String} {T : u_T} {ty : Nat → FieldType} (C : hpC p s m args c cc nL own D cy) (O : hpO ci Cn T N ty) (i : Nat) (hk : hpkd k = ci) (hi : i < N) (hw : hpN s → va_Nw (.fieldLinkNest own idx (T i).1 (T i).2.1 (T i).2.2.1 host) s) (d : decode cc pc = .ok (.getfield idx, 3)) (hv : hpfv z k (σ k) i = v)
    (kk : hpV p l e R s m args below meth c cells slots nL D cy z H0 Q σ (pc + 3) lv (v :: st)) : hpV p l e R s m args below meth c cells slots nL D cy z H0 Q σ pc lv (.ref (z + k) :: st) := fun H locs ls hl hP hS =>
  va_getN C.1 C.2.1 C.2.2.2.2.1 O.2.2.2.1 C.2.2.2.1 C.2.2.2.2.2.2 hP k (hp_obj O hk) O.1 i hi (va_Nw.use rfl (hw C.2.2.2.2.2.1)) (fun _ h => h) (by rw [hp_fget hi, hv]) d (kk H locs ls hl hP hS)
theorem hp_fvR {z k i k' : Nat} {r : Nat → Int} (hf : hpfk (hpkd k) i = 1) (hr : hprf k i = k') : hpfv z k r i = .ref (z + k') := by unfold hpfv; rw [if_pos hf, hr]
theorem hp_fvI {z k i : Nat} {r : Nat → Int} {a : Int} (hf : hpfk (hpkd k) i = 0) (hr : r i = a) : hpfv z k r i = .int (hpI a) := by unfold hpfv; rw [if_neg (by omega), if_neg (by omega), hr]
theorem hp_fvJ {z k i : Nat} {r : Nat → Int} {a : Int} (hf : hpfk (hpkd k) i = 2) (hr : r i = a) : hpfv z k r i = .long (hpJ a) := by unfold hpfv; rw [if_neg (by omega), if_pos hf, hr]
theorem hp_setO {z k ci N i : Nat} {Cn : String} {T : u_T} {ty : Nat → FieldType} {σ : hpMem} {cy : Nat → ClassId} {a : Int} {v : Value} (O : hpO ci Cn T N ty) (hk : hpkd k = ci) (hv : hpfv z k (hpu (σ k) i a) i = v) : (hpW z cy σ).set k (z + k, .inr (ci, ((List.range N).map (hpfv z k (σ k))).set i v)) = hpW z cy (hpw σ k i a) := by
  refine hpW_set ?_ (fun j hj => hpw_ne hj)
  rw [hpw_row, hpE_o hk O.2.1, O.2.2.1, hp_fset hv]
theorem hpu_at {r : Nat → Int} {i : Nat} {a : Int} : hpu r i a i = a := if_pos rfl
theorem h_put {v : Value} {a : Int} {ci k N idx : Nat} {Cn : String} {T : u_T} {ty : Nat → FieldType} (C : hpC p s m args c cc nL own D cy) (O : hpO ci Cn T N ty) (i : Nat) (hk : hpkd k = ci) (hi : i < N) (hfin : (T i).2.2.2 = false) (hw : Cond.fieldLink own idx (T i).1 (T i).2.1 (T i).2.2.1 ∈ hpT) (d : decode cc pc = .ok (.putfield idx, 3)) (hn : narrow (ty i) v = v) (hfit : fits (ty i) v = true) (hv : hpfv z k (hpu (σ k) i a) i = v)
    (kk : hpV p l e R s m args below meth c cells slots nL D cy z H0 Q (hpw σ k i a) (pc + 3) lv st) : hpV p l e R s m args below meth c cells slots nL D cy z H0 Q σ pc lv (v :: .ref (z + k) :: st) := fun H locs ls hl hP hS =>
  va_put C.1 C.2.1 C.2.2.2.2.1 O.2.2.2.1 ty O.2.2.2.2.1 O.2.2.2.2.2 C.2.2.2.1 C.2.2.2.2.2.2 hP hpW_D hS k (hp_obj O hk) O.1 i hi (C.2.2.2.2.1 _ hw) (fun _ h => h) hfin (O.2.2.2.2.1 i hi) hn hfit (by rw [List.length_map, List.length_range]; exact hi) d (fun H1 locs1 hP1 _ hS1 => kk H1 locs1 ls hl (by rw [hp_setO O hk hv] at hP1; exact hP1) hS1)
theorem h_putN {v : Value} {a : Int} {ci k N idx : Nat} {Cn host : String} {T : u_T} {ty : Nat → FieldType} (C : hpC p s m args c cc nL own D cy) (O : hpO ci Cn T N ty) (i : Nat) (hk : hpkd k = ci) (hi : i < N) (hfin : (T i).2.2.2 = false) (hw : hpN s → va_Nw (.fieldLinkNest own idx (T i).1 (T i).2.1 (T i).2.2.1 host) s) (d : decode cc pc = .ok (.putfield idx, 3)) (hn : narrow (ty i) v = v) (hfit : fits (ty i) v = true) (hv : hpfv z k (hpu (σ k) i a) i = v)
    (kk : hpV p l e R s m args below meth c cells slots nL D cy z H0 Q (hpw σ k i a) (pc + 3) lv st) : hpV p l e R s m args below meth c cells slots nL D cy z H0 Q σ pc lv (v :: .ref (z + k) :: st) := fun H locs ls hl hP hS =>
  va_putN C.1 C.2.1 C.2.2.2.2.1 O.2.2.2.1 ty O.2.2.2.2.1 O.2.2.2.2.2 C.2.2.2.1 C.2.2.2.2.2.2 hP hpW_D hS k (hp_obj O hk) O.1 i hi (va_Nw.use rfl (hw C.2.2.2.2.2.1)) (fun _ h => h) hfin (O.2.2.2.2.1 i hi) hn hfit (by rw [List.length_map, List.length_range]; exact hi) d (fun H1 locs1 hP1 _ hS1 => kk H1 locs1 ls hl (by rw [hp_setO O hk hv] at hP1; exact hP1) hS1)
/-! arrays -/
theorem hp_arrI {z k ci : Nat} {σ : hpMem} {cy : Nat → ClassId} (hk : hpkd k = ci) (hc : ci = 10 ∨ ci = 11 ∨ ci = 13) : (hpW z cy σ)[k]? = some (z + k, .inl (cy ci, hpln k, .inl (fun i => hpI (σ k i)))) := by rw [hpW_get (hpkd_lt hk (by omega)), hpE_i hk hc]
theorem hp_arrL {z k : Nat} {σ : hpMem} {cy : Nat → ClassId} (hk : hpkd k = 12) : (hpW z cy σ)[k]? = some (z + k, .inl (cy 12, hpln k, .inr (.inl (fun i => hpJ (σ k i))))) := by rw [hpW_get (hpkd_lt hk (by omega)), hpE_l hk]
theorem hp_arrQ {z k ci : Nat} {σ : hpMem} {cy : Nat → ClassId} (hk : hpkd k = ci) (hc : 14 ≤ ci) (h2 : ci < 99) : (hpW z cy σ)[k]? = some (z + k, .inl (cy ci, hpln k, .inr (.inr (.inr (.inr (fun i => some (z + hprf k i))))))) := by rw [hpW_get (hpkd_lt hk h2), hpE_q hk hc]
theorem hp_ix {a : Int} {i n : Nat} (hi : (i : Int) = a) (h : i < n) (hn : n < 2147483648) : vp_in (hpI a) n := hpI_in (by omega) (by omega) hn
theorem hp_ixn {a : Int} {i n : Nat} (hi : (i : Int) = a) (h : i < n) (hn : n < 2147483648) : (hpI a).toNatClampNeg = i := by rw [hpI_clamp ⟨by omega, by omega⟩]; omega
theorem hp_lnb (k : Nat) : hpln k < 2147483648 := by
  unfold hpln
  rcases Nat.lt_or_ge k 217 with q | q
  · have h : ∀ j, j < 217 → hpLs.getD j 0 < 2147483648 := by decide +kernel
    exact h k q
  · rw [List.getD_eq_getElem?_getD, List.getElem?_eq_none (Nat.le_trans (by decide +kernel : hpLs.length ≤ 217) q)]
    decide
theorem h_iaload {a b : Int} {k : Nat} (C : hpC p s m args c cc nL own D cy) (d : decode cc pc = .ok (.iaload, 1)) (hk : hpkd k = 11) (i : Nat) (hi : (i : Int) = a) (h : i < hpln k) (hb : σ k i = b) (kk : hpV p l e R s m args below meth c cells slots nL D cy z H0 Q σ (pc + 1) lv (.int (hpI b) :: st)) : hpV p l e R s m args below meth c cells slots nL D cy z H0 Q σ pc lv (.int (hpI a) :: .ref (z + k) :: st) := fun H locs ls hl hP hS =>
  va_iald C.1 C.2.1 C.2.2.2.2.2.2 hP k 1 (hp_arrI hk (by omega)) rfl (hp_ix hi h (hp_lnb k)) d (by rw [hp_ixn hi h (hp_lnb k), hb]; exact kk H locs ls hl hP hS)
theorem h_baload {a b : Int} {k : Nat} (C : hpC p s m args c cc nL own D cy) (d : decode cc pc = .ok (.baload, 1)) (hk : hpkd k = 10) (i : Nat) (hi : (i : Int) = a) (h : i < hpln k) (hb : σ k i = b) (kk : hpV p l e R s m args below meth c cells slots nL D cy z H0 Q σ (pc + 1) lv (.int (hpI b) :: st)) : hpV p l e R s m args below meth c cells slots nL D cy z H0 Q σ pc lv (.int (hpI a) :: .ref (z + k) :: st) := fun H locs ls hl hP hS =>
  va_bald C.1 C.2.1 C.2.2.2.2.2.2 hP k 0 (hp_arrI hk (by omega)) rfl (hp_ix hi h (hp_lnb k)) d (by rw [hp_ixn hi h (hp_lnb k), hb]; exact kk H locs ls hl hP hS)
theorem h_zaload {a b : Int} {k : Nat} (C : hpC p s m args c cc nL own D cy) (d : decode cc pc = .ok (.baload, 1)) (hk : hpkd k = 13) (i : Nat) (hi : (i : Int) = a) (h : i < hpln k) (hb : σ k i = b) (kk : hpV p l e R s m args below meth c cells slots nL D cy z H0 Q σ (pc + 1) lv (.int (hpI b) :: st)) : hpV p l e R s m args below meth c cells slots nL D cy z H0 Q σ pc lv (.int (hpI a) :: .ref (z + k) :: st) := fun H locs ls hl hP hS =>
  va_zald C.1 C.2.1 C.2.2.2.2.2.2 hP k 3 (hp_arrI hk (by omega)) rfl (hp_ix hi h (hp_lnb k)) d (by rw [hp_ixn hi h (hp_lnb k), hb]; exact kk H locs ls hl hP hS)
theorem h_laload {a b : Int} {k : Nat} (C : hpC p s m args c cc nL own D cy) (d : decode cc pc = .ok (.laload, 1)) (hk : hpkd k = 12) (i : Nat) (hi : (i : Int) = a) (h : i < hpln k) (hb : σ k i = b) (kk : hpV p l e R s m args below meth c cells slots nL D cy z H0 Q σ (pc + 1) lv (.long (hpJ b) :: st)) : hpV p l e R s m args below meth c cells slots nL D cy z H0 Q σ pc lv (.int (hpI a) :: .ref (z + k) :: st) := fun H locs ls hl hP hS =>
  va_lald C.1 C.2.1 C.2.2.2.2.2.2 hP k 2 (hp_arrL hk) rfl (hp_ix hi h (hp_lnb k)) d (by rw [hp_ixn hi h (hp_lnb k), hb]; exact kk H locs ls hl hP hS)
theorem h_aaload {a : Int} {k ci k' t0 : Nat} {Cn : String} (C : hpC p s m args c cc nL own D cy) (d : decode cc pc = .ok (.aaload, 1)) (hk : hpkd k = ci) (hc : 14 ≤ ci) (h2 : ci < 99) (ht : (hpTy cy)[t0]? = some (cy ci, .object Cn)) (i : Nat) (hi : (i : Int) = a) (h : i < hpln k) (hb : hprf k i = k') (kk : hpV p l e R s m args below meth c cells slots nL D cy z H0 Q σ (pc + 1) lv (.ref (z + k') :: st)) : hpV p l e R s m args below meth c cells slots nL D cy z H0 Q σ pc lv (.int (hpI a) :: .ref (z + k) :: st) := fun H locs ls hl hP hS =>
  va_aldq C.1 C.2.1 C.2.2.2.2.2.2 hP k t0 (hp_arrQ hk hc h2) ht (hp_ix hi h (hp_lnb k)) d (by rw [hp_ixn hi h (hp_lnb k), hb]; exact kk H locs ls hl hP hS)
theorem hp_updI {r : Nat → Int} {i : Nat} {b : Int} : upd (fun j => hpI (r j)) i (hpI b) = fun j => hpI (hpu r i b j) := by
  funext j
  unfold upd hpu
  by_cases h : j = i
  · rw [if_pos h, if_pos h]
  · rw [if_neg h, if_neg h]
theorem hp_updL {r : Nat → Int} {i : Nat} {b : Int} : vp_updL (fun j => hpJ (r j)) i (hpJ b) = fun j => hpJ (hpu r i b j) := by
  funext j
  unfold vp_updL hpu
  by_cases h : j = i
  · rw [if_pos h, if_pos h]
  · rw [if_neg h, if_neg h]
theorem hp_setI {z k ci i : Nat} {σ : hpMem} {cy : Nat → ClassId} {b : Int} (hk : hpkd k = ci) (hc : ci = 10 ∨ ci = 11 ∨ ci = 13) : (hpW z cy σ).set k (z + k, .inl (cy ci, hpln k, .inl (fun j => hpI (hpu (σ k) i b j)))) = hpW z cy (hpw σ k i b) := hpW_set (by rw [hpw_row, hpE_i hk hc]) (fun j hj => hpw_ne hj)
theorem hp_setL {z k i : Nat} {σ : hpMem} {cy : Nat → ClassId} {b : Int} (hk : hpkd k = 12) : (hpW z cy σ).set k (z + k, .inl (cy 12, hpln k, .inr (.inl (fun j => hpJ (hpu (σ k) i b j))))) = hpW z cy (hpw σ k i b) := hpW_set (by rw [hpw_row, hpE_l hk]) (fun j hj => hpw_ne hj)
theorem h_iastore {a b : Int} {k : Nat} (C : hpC p s m args c cc nL own D cy) (d : decode cc pc = .ok (.iastore, 1)) (hk : hpkd k = 11) (i : Nat) (hi : (i : Int) = a) (h : i < hpln k) (kk : hpV p l e R s m args below meth c cells slots nL D cy z H0 Q (hpw σ k i b) (pc + 1) lv st) : hpV p l e R s m args below meth c cells slots nL D cy z H0 Q σ pc lv (.int (hpI b) :: .int (hpI a) :: .ref (z + k) :: st) := fun H locs ls hl hP hS =>
  va_iast C.1 C.2.1 C.2.2.2.2.2.2 hP hpW_D hS k 1 (hp_arrI hk (by omega)) rfl (hp_ix hi h (hp_lnb k)) d (fun H1 locs1 hP1 _ hS1 => kk H1 locs1 ls hl (by rw [hp_ixn hi h (hp_lnb k), hp_updI, hp_setI hk (by omega)] at hP1; exact hP1) hS1)
theorem hp_nb {b : Int} (h1 : -128 ≤ b) (h2 : b < 128) : vp_nar .byte (hpI b) = hpI b := by
  rw [vp_nar_byte, ← Int32.toInt_inj]
  show (Int32.ofInt (hpI b).toInt8.toInt).toInt = _
  have e : (hpI b).toInt8.toInt = b := by
    show (Int32.ofInt b).toInt8.toInt = b
    rw [Int32.toInt8_ofInt, Int8.toInt_ofInt_of_le h1 h2]
  rw [e]
  rfl
theorem h_bastore {a b : Int} {k : Nat} (C : hpC p s m args c cc nL own D cy) (d : decode cc pc = .ok (.bastore, 1)) (hk : hpkd k = 10) (h1 : -128 ≤ b) (h2 : b < 128) (i : Nat) (hi : (i : Int) = a) (h : i < hpln k) (kk : hpV p l e R s m args below meth c cells slots nL D cy z H0 Q (hpw σ k i b) (pc + 1) lv st) : hpV p l e R s m args below meth c cells slots nL D cy z H0 Q σ pc lv (.int (hpI b) :: .int (hpI a) :: .ref (z + k) :: st) := fun H locs ls hl hP hS =>
  va_bast C.1 C.2.1 C.2.2.2.2.2.2 hP hpW_D hS k 0 (hp_arrI hk (by omega)) rfl (hp_ix hi h (hp_lnb k)) d (fun H1 locs1 hP1 _ hS1 => kk H1 locs1 ls hl (by rw [hp_ixn hi h (hp_lnb k), hp_nb h1 h2, hp_updI, hp_setI hk (by omega)] at hP1; exact hP1) hS1)
theorem h_zastore {a b : Int} {k : Nat} (C : hpC p s m args c cc nL own D cy) (d : decode cc pc = .ok (.bastore, 1)) (hk : hpkd k = 13) (h1 : b = 0 ∨ b = 1) (i : Nat) (hi : (i : Int) = a) (h : i < hpln k) (kk : hpV p l e R s m args below meth c cells slots nL D cy z H0 Q (hpw σ k i b) (pc + 1) lv st) : hpV p l e R s m args below meth c cells slots nL D cy z H0 Q σ pc lv (.int (hpI b) :: .int (hpI a) :: .ref (z + k) :: st) := fun H locs ls hl hP hS =>
  va_zast C.1 C.2.1 C.2.2.2.2.2.2 hP hpW_D hS k 3 (hp_arrI hk (by omega)) rfl (hp_ix hi h (hp_lnb k)) d (fun H1 locs1 hP1 _ hS1 => kk H1 locs1 ls hl (by rw [hp_ixn hi h (hp_lnb k), show vp_nar .boolean (hpI b) = hpI b by (rcases h1 with rfl | rfl <;> decide), hp_updI, hp_setI hk (by omega)] at hP1; exact hP1) hS1)
theorem h_lastore {a b : Int} {k : Nat} (C : hpC p s m args c cc nL own D cy) (d : decode cc pc = .ok (.lastore, 1)) (hk : hpkd k = 12) (i : Nat) (hi : (i : Int) = a) (h : i < hpln k) (kk : hpV p l e R s m args below meth c cells slots nL D cy z H0 Q (hpw σ k i b) (pc + 1) lv st) : hpV p l e R s m args below meth c cells slots nL D cy z H0 Q σ pc lv (.long (hpJ b) :: .int (hpI a) :: .ref (z + k) :: st) := fun H locs ls hl hP hS =>
  va_last C.1 C.2.1 C.2.2.2.2.2.2 hP hpW_D hS k 2 (hp_arrL hk) rfl (hp_ix hi h (hp_lnb k)) d (fun H1 locs1 hP1 _ hS1 => kk H1 locs1 ls hl (by rw [hp_ixn hi h (hp_lnb k), hp_updL, hp_setL hk] at hP1; exact hP1) hS1)
/-- numbers of a row put over those of another -/
def hpcp (f g : Nat → Int) (sp dp n : Nat) : Nat → Int := fun j => if dp ≤ j ∧ j < dp + n then f (sp + (j - dp)) else g j
def hpwr (σ : hpMem) (k : Nat) (r : Nat → Int) : hpMem := fun j => if j = k then r else σ j
theorem hp_cpy {f g : Nat → Int} {sp dp n : Nat} : va_cpy (fun j => hpI (f j)) (fun j => hpI (g j)) sp dp n = fun j => hpI (hpcp f g sp dp n j) := by
  funext j
  by_cases h : dp ≤ j ∧ j < dp + n
  · rw [pk_cpy_in h.1 h.2]
    unfold hpcp
    rw [if_pos h]
  · rw [pk_cpy_out (by omega)]
    unfold hpcp
    rw [if_neg h]
theorem h_copyI {sp dp n : Int} {k k' idx : Nat} (C : hpC p s m args c cc nL own D cy) (w1 : Cond.methodLink own idx arraycopyName ∈ hpT) (w2 : Cond.native arraycopyName ∈ hpT) (w3 : Cond.static arraycopyName ∈ hpT) (w4 : Cond.initialized "java/lang/System" ∈ hpT) (d : decode cc pc = .ok (.invokestatic idx, 3)) (hk : hpkd k = 11) (hk' : hpkd k' = 11) (i j q : Nat) (hi : (i : Int) = sp) (hj : (j : Int) = dp) (hq : (q : Int) = n) (h1 : i + q ≤ hpln k) (h2 : j + q ≤ hpln k')
    (hf : 1 ≤ R.frames) (hlo : (st.map fun v => v.category).sum + (nativeFrameWords "java/lang/System" "arraycopy" 5 + 11) ≤ R.locals) (kk : hpV p l e R s m args below meth c cells slots nL D cy z H0 Q (hpwr σ k' (hpcp (σ k) (σ k') i j q)) (pc + 3) lv st) : hpV p l e R s m args below meth c cells slots nL D cy z H0 Q σ pc lv (.int (hpI n) :: .int (hpI dp) :: .ref (z + k') :: .int (hpI sp) :: .ref (z + k) :: st) := fun H locs ls hl hP hS => by
  have b1 := hp_lnb k
  have b2 := hp_lnb k'
  have rs : hpR sp := ⟨by omega, by omega⟩
  have rd : hpR dp := ⟨by omega, by omega⟩
  have rn : hpR n := ⟨by omega, by omega⟩
  have e1 : (hpI sp).toNatClampNeg = i := by rw [hpI_clamp rs]; omega
  have e2 : (hpI dp).toNatClampNeg = j := by rw [hpI_clamp rd]; omega
  have e3 : (hpI n).toNatClampNeg = q := by rw [hpI_clamp rn]; omega
  have g : ∀ {a : Int}, hpR a → 0 ≤ a → ¬ hpI a < 0 := fun {a} ha h0 hh => by rw [← hpI_0, hpI_lt ha hpR_0] at hh; omega
  refine va_copyi C.1 C.2.1 (C.2.2.1.trans hl.1.symm) C.2.2.2.1 (C.2.2.2.2.1 _ w1) (C.2.2.2.2.1 _ w2) (C.2.2.2.2.1 _ w3) (C.2.2.2.2.1 _ w4) C.2.2.2.2.2.2 hP hpW_D hS k k' 1 1 (hp_arrI hk (by omega)) (hp_arrI hk' (by omega)) rfl rfl rfl (g rs (by omega)) (g rd (by omega)) (g rn (by omega)) (by rw [e1, e3]; exact h1) (by rw [e2, e3]; exact h2) (fun _ _ => rfl) hf hlo d (fun H1 locs1 hP1 _ hS1 => kk H1 locs1 ls hl ?_ hS1)
  rw [e1, e2, e3, hp_cpy, hpW_set (τ := hpwr σ k' (hpcp (σ k) (σ k') i j q)) (by unfold hpwr; rw [if_pos rfl, hpE_i hk' (by omega)]) (fun j hj => if_neg hj)] at hP1
  exact hP1
/-! calls -/
/-- what is fixed of a method of the class ci -/
def hpY (y : MethodName) (bytes : ByteArray) (maxL : Nat) (ret : Option FieldType) (n ci : Nat) : Prop := (∃ (T : u_T) (N : Nat) (ty : Nat → FieldType), hpO ci y.cls T N ty) ∧ Cond.instanceMethod y ∈ hpT ∧ Cond.selects y.cls y y ∈ hpT ∧ Cond.initialized y.cls ∈ hpT ∧ Cond.code y bytes maxL ret ∈ hpT ∧ y.cls ≠ "java/lang/invoke/MethodHandle" ∧ y.cls ≠ "java/lang/invoke/VarHandle" ∧ (parseMethodDescriptor y.desc).map (fun d => d.parameters.length) = some n
def hpYS (y : MethodName) (bytes : ByteArray) (maxL : Nat) (ret : Option FieldType) (n : Nat) : Prop := Cond.static y ∈ hpT ∧ Cond.initialized y.cls ∈ hpT ∧ Cond.code y bytes maxL ret ∈ hpT ∧ y.cls ≠ "java/lang/invoke/MethodHandle" ∧ y.cls ≠ "java/lang/invoke/VarHandle" ∧ (parseMethodDescriptor y.desc).map (fun d => d.parameters.length) = some n
theorem hp_run {y : MethodName} {bytes : ByteArray} {maxL : Nat} {ret : Option FieldType} {rm : Room} {a : Array Value} {post : Option Value → hpMem → Prop} {H : Heap} {locs : List Loc} {ls : Array Slot} {st0 rest : List Value} (hl : lv_has ls nL lv) (hS : va_S (fun q => z ≤ q) H0 H locs)
    (hr : va_Run p l e R s m args below meth c H locs cells slots 0 0 (F0 m pc ls st0) rest (hpQ D cy z post a) (fun q => z ≤ q)) (kk : ∀ (r : Option Value) (τ : hpMem), post r τ → hpV p l e R s m args below meth c cells slots nL D cy z H0 Q τ (pc + 3) lv (r.toList ++ rest)) : W p l e R s m args below meth c H locs cells slots Q (F0 m pc ls st0) := by
  intro T hT X
  obtain ⟨v, st₀, t, T', L, h0, X', hL, e1, e2, ⟨⟨r, τ, hv, hp, hb⟩, hz, hk⟩, stp⟩ := hr T hT X
  cases hv
  rw [h0] at hz hk
  obtain ⟨t2, a1, b1⟩ := kk v τ hp T'.heap (locs ++ L) ls hl (by rw [e1]; exact hb)
    ⟨Nat.le_trans hS.1 (by rw [e1]; exact hz), fun q h1 h2 => by rw [e1, hk q (Nat.lt_of_lt_of_le h1 hS.1) h2]; exact hS.2.1 q h1 h2, fun q hq => by
      rcases List.mem_append.mp hq with h | h
      · exact hS.2.2 q h
      · exact hL q h⟩ T' rfl X'
  exact ⟨t2, stp t2 a1, b1⟩
theorem hp_blind {av : List Value} {σ : hpMem} : FrameBlind (va_Pc av (hpPre D cy z σ)) := fun a U g mk q => by
  obtain ⟨q0, qP, qK, qN⟩ := q
  exact ⟨q0, qP, va_K.moved (u := U) (U := U.calling g mk a) (Vm.Alike.refl U.vm) qK, fun w hw hn => va_Nw.same (u := U) (U := U.calling g mk a) (by cases w <;> first | rfl | (simp [hpNest] at hn)) rfl (qN w hw hn)⟩
theorem h_callV {y : MethodName} {bytes : ByteArray} {maxL : Nat} {ret : Option FieldType} {rm : Room} {k ci n idx : Nat} {As rest : List Value} {post : Option Value → hpMem → Prop} (C : hpC p s m args c cc nL own D cy) (Y : hpY y bytes maxL ret n ci) (w : Cond.methodLink own idx y ∈ hpT) (hM : hpM l D cy z y bytes maxL ret rm (.ref (z + k) :: As) σ post) (hk : hpkd k = ci) (hn : As.length = n) (hst : st = As.reverse ++ .ref (z + k) :: rest) (hR : rm.cells = 0 ∧ rm.slots = 0 ∧ rm.frames + 1 ≤ R.frames ∧ 8 + (maxL + 11) + rm.locals ≤ R.locals) (hf : cells ≤ R.cells ∧ slots ≤ R.slots) (hw8 : (rest.map fun v => v.category).sum ≤ 8) (d : decode cc pc = .ok (.invokevirtual idx, 3))
    (kk : ∀ (r : Option Value) (τ : hpMem), post r τ → hpV p l e R s m args below meth c cells slots nL D cy z H0 Q τ (pc + 3) lv (r.toList ++ rest)) : hpV p l e R s m args below meth c cells slots nL D cy z H0 Q σ pc lv st := fun H locs ls hl hP hS => by
  obtain ⟨⟨T, N, ty, O⟩, y1, y2, y3, y4, y5, y6, y7⟩ := Y
  have hts : ∀ w ∈ (Cond.initialized y.cls :: hpT), w.before args s = true := fun w hw => by
    rcases List.mem_cons.mp hw with h | h
    · subst h; exact C.2.2.2.2.1 _ y3
    · exact C.2.2.2.2.1 _ h
  refine hp_run (y := y) (bytes := bytes) (maxL := maxL) (ret := ret) (rm := rm) hl hS (va_runV (C := y.cls) (Ts := Cond.initialized y.cls :: hpT) (As := As) (rest := rest) ⟨C.1, C.2.1, C.2.2.1, C.2.2.2.1, hts⟩ hM (cwV n hts ?_ rfl hR.1 hR.2.1 ⟨rfl, y5, y6, y7⟩ hR.2.2) ⟨hp_blind, va_recv C.2.2.2.2.2.2 hP O.1 (hp_obj O hk), fun U hU hW => ⟨rfl, by rw [hU]; exact hP, va_K.moved hW.alike C.2.2.2.2.2.2, C.2.2.2.2.2.1.warm hW⟩⟩ rfl hn hl.1 hst (lv_room hw8) d hf) kk
  intro w' hw'
  unfold wsV at hw'
  rcases List.mem_append.mp hw' with h | h
  · simp only [List.mem_cons, List.not_mem_nil, or_false] at h
    rcases h with h | h | h | h <;> (subst h; exact hp_goodT _ (by assumption))
  · exact hp_good y4 _ h
theorem h_callVN {y : MethodName} {bytes : ByteArray} {maxL : Nat} {ret : Option FieldType} {rm : Room} {k ci n idx : Nat} {host : String} {As rest : List Value} {post : Option Value → hpMem → Prop} (C : hpC p s m args c cc nL own D cy) (Y : hpY y bytes maxL ret n ci) (w : hpN s → va_Nw (.methodLinkNest own idx y host) s) (hM : hpM l D cy z y bytes maxL ret rm (.ref (z + k) :: As) σ post) (hk : hpkd k = ci) (hn : As.length = n) (hst : st = As.reverse ++ .ref (z + k) :: rest) (hR : rm.cells = 0 ∧ rm.slots = 0 ∧ rm.frames + 1 ≤ R.frames ∧ 8 + (maxL + 11) + rm.locals ≤ R.locals) (hf : cells ≤ R.cells ∧ slots ≤ R.slots) (hw8 : (rest.map fun v => v.category).sum ≤ 8) (d : decode cc pc = .ok (.invokevirtual idx, 3))
    (kk : ∀ (r : Option Value) (τ : hpMem), post r τ → hpV p l e R s m args below meth c cells slots nL D cy z H0 Q τ (pc + 3) lv (r.toList ++ rest)) : hpV p l e R s m args below meth c cells slots nL D cy z H0 Q σ pc lv st := fun H locs ls hl hP hS => by
  obtain ⟨⟨T, N, ty, O⟩, y1, y2, y3, y4, y5, y6, y7⟩ := Y
  have hts : ∀ w ∈ (Cond.initialized y.cls :: hpT), w.before args s = true := fun w hw => by
    rcases List.mem_cons.mp hw with h | h
    · subst h; exact C.2.2.2.2.1 _ y3
    · exact C.2.2.2.2.1 _ h
  exact hp_run (y := y) (bytes := bytes) (maxL := maxL) (ret := ret) (rm := rm) hl hS (va_runVN (C := y.cls) (Ts := Cond.initialized y.cls :: hpT) (As := As) (rest := rest) ⟨C.1, C.2.1, C.2.2.1, C.2.2.2.1, hts⟩ hM ⟨va_cnB n hts (hp_good y4) rfl hR.1 hR.2.1 (w C.2.2.2.2.2.1) (C.2.2.2.2.1 _ y3) ⟨y5, y6, y7⟩ hR.2.2, C.2.2.2.2.1 _ y1, C.2.2.2.2.1 _ y2⟩ ⟨hp_blind, va_recv C.2.2.2.2.2.2 hP O.1 (hp_obj O hk), fun U hU hW => ⟨rfl, by rw [hU]; exact hP, va_K.moved hW.alike C.2.2.2.2.2.2, C.2.2.2.2.2.1.warm hW⟩⟩ rfl hn hl.1 hst (lv_room hw8) d hf) kk
theorem h_callS {y : MethodName} {bytes : ByteArray} {maxL : Nat} {ret : Option FieldType} {rm : Room} {n idx : Nat} {As rest : List Value} {post : Option Value → hpMem → Prop} (C : hpC p s m args c cc nL own D cy) (Y : hpYS y bytes maxL ret n) (ho : y.cls = own) (w : Cond.methodLink own idx y ∈ hpT) (hM : hpM l D cy z y bytes maxL ret rm As σ post) (hn : As.length = n) (hst : st = As.reverse ++ rest) (hR : rm.cells = 0 ∧ rm.slots = 0 ∧ rm.frames + 1 ≤ R.frames ∧ 8 + (maxL + 11) + rm.locals ≤ R.locals) (hf : cells ≤ R.cells ∧ slots ≤ R.slots) (hw8 : (rest.map fun v => v.category).sum ≤ 8) (d : decode cc pc = .ok (.invokestatic idx, 3))
    (kk : ∀ (r : Option Value) (τ : hpMem), post r τ → hpV p l e R s m args below meth c cells slots nL D cy z H0 Q τ (pc + 3) lv (r.toList ++ rest)) : hpV p l e R s m args below meth c cells slots nL D cy z H0 Q σ pc lv st := fun H locs ls hl hP hS => by
  obtain ⟨y1, y3, y4, y5, y6, y7⟩ := Y
  subst ho
  have hts : ∀ w ∈ (Cond.initialized y.cls :: hpT), w.before args s = true := fun w hw => by
    rcases List.mem_cons.mp hw with h | h
    · subst h; exact C.2.2.2.2.1 _ y3
    · exact C.2.2.2.2.1 _ h
  refine hp_run (y := y) (bytes := bytes) (maxL := maxL) (ret := ret) (rm := rm) hl hS (va_runS (Ts := Cond.initialized y.cls :: hpT) (As := As) (rest := rest) ⟨C.1, C.2.1, C.2.2.1, C.2.2.2.1, hts⟩ hM (cwS n hts ?_ rfl hR.1 hR.2.1 ⟨rfl, y5, y6, y7⟩ hR.2.2) ⟨hp_blind, fun U hU hW => ⟨rfl, by rw [hU]; exact hP, va_K.moved hW.alike C.2.2.2.2.2.2, C.2.2.2.2.2.1.warm hW⟩⟩ rfl hn hl.1 hst (lv_room hw8) d hf) kk
  intro w' hw'
  unfold wsS at hw'
  rcases List.mem_append.mp hw' with h | h
  · simp only [List.mem_cons, List.not_mem_nil, or_false] at h
    rcases h with h | h | h <;> (subst h; exact hp_goodT _ (by assumption))
  · exact hp_good y4 _ h
end HPH
/-- a method's body at pc -/
abbrev hpF (p : Program) (l : Launch) (e : Env) (rm : Room) (s : State) (m : MethodId) (av : List Value) (below : List Frame) (meth : Method) (c : Code) (nL : Nat) (D : va_G) (cy : Nat → ClassId) (z : Nat) (post : Option Value → hpMem → Prop) (σ : hpMem) (pc : Nat) (lv : List (Nat × Value)) (st : List Value) : Prop :=
  hpV p l e rm s m av.toArray below meth c 0 0 nL D cy z s.heap (MQ below (hpQ D cy z post) av.toArray s 0 0 (fun q => z ≤ q)) σ pc lv st
/-- the memory of a new object of each -/
def hp0 (k i : Nat) : Int := if k = 1 ∧ i = 3 then -1 else if k = 0 ∧ i = 15 then -1 else if k = 130 ∧ i = 14 then -1 else if k = 195 ∧ i = 13 then -1 else if k = 213 ∧ i < 4 then -1 else 0
theorem hpwr_ne {σ : hpMem} {k j : Nat} {r : Nat → Int} (h : j ≠ k) : hpwr σ k r j = σ j := if_neg h
theorem hp_sub {p : Program} {l : Launch} {e : Env} {R : Room} {s : State} {m : MethodId} {args : Array Value} {below : List Frame} {meth : Method} {c : Code} {cells slots nL : Nat} {D : va_G} {cy : Nat → ClassId} {z : Nat} {H0 : Heap} {Q : State → Prop} {σ : hpMem} {pc : Nat} {lv lv' : List (Nat × Value)} {st : List Value} (ks : List Nat) (h : lv_pick lv ks = lv') (k : hpV p l e R s m args below meth c cells slots nL D cy z H0 Q σ pc lv' st) : hpV p l e R s m args below meth c cells slots nL D cy z H0 Q σ pc lv st := fun H locs ls hl hP hS => k H locs ls (lv_sub hl ks h) hP hS
end
section
theorem goodsub_0 : ∀ w ∈ u_ws RX0 TX0 15, w ∈ hpT := fun w hw => List.mem_filter.mpr ⟨(by decide +kernel : ∀ w ∈ u_ws RX0 TX0 15, w ∈ lw_tbl) w hw, (by decide +kernel : ∀ w ∈ u_ws RX0 TX0 15, goodWord w = true) w hw⟩
theorem goodsub_1 : ∀ w ∈ u_ws RX1 TX1 13, w ∈ hpT := fun w hw => List.mem_filter.mpr ⟨(by decide +kernel : ∀ w ∈ u_ws RX1 TX1 13, w ∈ lw_tbl) w hw, (by decide +kernel : ∀ w ∈ u_ws RX1 TX1 13, goodWord w = true) w hw⟩
theorem goodsub_2 : ∀ w ∈ u_ws RX2 TX2 6, w ∈ hpT := fun w hw => List.mem_filter.mpr ⟨(by decide +kernel : ∀ w ∈ u_ws RX2 TX2 6, w ∈ lw_tbl) w hw, (by decide +kernel : ∀ w ∈ u_ws RX2 TX2 6, goodWord w = true) w hw⟩
theorem goodsub_3 : ∀ w ∈ u_ws RX3 TX3 5, w ∈ hpT := fun w hw => List.mem_filter.mpr ⟨(by decide +kernel : ∀ w ∈ u_ws RX3 TX3 5, w ∈ lw_tbl) w hw, (by decide +kernel : ∀ w ∈ u_ws RX3 TX3 5, goodWord w = true) w hw⟩
theorem goodsub_4 : ∀ w ∈ u_ws RX4 TX4 9, w ∈ hpT := fun w hw => List.mem_filter.mpr ⟨(by decide +kernel : ∀ w ∈ u_ws RX4 TX4 9, w ∈ lw_tbl) w hw, (by decide +kernel : ∀ w ∈ u_ws RX4 TX4 9, goodWord w = true) w hw⟩
theorem goodsub_5 : ∀ w ∈ u_ws RX5 TX5 3, w ∈ hpT := fun w hw => List.mem_filter.mpr ⟨(by decide +kernel : ∀ w ∈ u_ws RX5 TX5 3, w ∈ lw_tbl) w hw, (by decide +kernel : ∀ w ∈ u_ws RX5 TX5 3, goodWord w = true) w hw⟩
theorem goodsub_6 : ∀ w ∈ u_ws RX6 TX6 4, w ∈ hpT := fun w hw => List.mem_filter.mpr ⟨(by decide +kernel : ∀ w ∈ u_ws RX6 TX6 4, w ∈ lw_tbl) w hw, (by decide +kernel : ∀ w ∈ u_ws RX6 TX6 4, goodWord w = true) w hw⟩
theorem goodsub_7 : ∀ w ∈ u_ws RX7 TX7 7, w ∈ hpT := fun w hw => List.mem_filter.mpr ⟨(by decide +kernel : ∀ w ∈ u_ws RX7 TX7 7, w ∈ lw_tbl) w hw, (by decide +kernel : ∀ w ∈ u_ws RX7 TX7 7, goodWord w = true) w hw⟩
theorem goodsub_8 : ∀ w ∈ u_ws RX8 TX8 16, w ∈ hpT := fun w hw => List.mem_filter.mpr ⟨(by decide +kernel : ∀ w ∈ u_ws RX8 TX8 16, w ∈ lw_tbl) w hw, (by decide +kernel : ∀ w ∈ u_ws RX8 TX8 16, goodWord w = true) w hw⟩
theorem goodsub_9 : ∀ w ∈ u_ws RX9 TX9 46, w ∈ hpT := fun w hw => List.mem_filter.mpr ⟨(by decide +kernel : ∀ w ∈ u_ws RX9 TX9 46, w ∈ lw_tbl) w hw, (by decide +kernel : ∀ w ∈ u_ws RX9 TX9 46, goodWord w = true) w hw⟩
theorem O0 : hpO 0 RX0 TX0 15 tyX0 := ⟨rfl, by decide, by decide +kernel, goodsub_0, tyX0_ok, nmX0⟩
theorem O1 : hpO 1 RX1 TX1 13 tyX1 := ⟨rfl, by decide, by decide +kernel, goodsub_1, tyX1_ok, nmX1⟩
theorem O2 : hpO 2 RX2 TX2 6 tyX2 := ⟨rfl, by decide, by decide +kernel, goodsub_2, tyX2_ok, nmX2⟩
theorem O3 : hpO 3 RX3 TX3 5 tyX3 := ⟨rfl, by decide, by decide +kernel, goodsub_3, tyX3_ok, nmX3⟩
theorem O4 : hpO 4 RX4 TX4 9 tyX4 := ⟨rfl, by decide, by decide +kernel, goodsub_4, tyX4_ok, nmX4⟩
theorem O5 : hpO 5 RX5 TX5 3 tyX5 := ⟨rfl, by decide, by decide +kernel, goodsub_5, tyX5_ok, nmX5⟩
theorem O6 : hpO 6 RX6 TX6 4 tyX6 := ⟨rfl, by decide, by decide +kernel, goodsub_6, tyX6_ok, nmX6⟩
theorem O7 : hpO 7 RX7 TX7 7 tyX7 := ⟨rfl, by decide, by decide +kernel, goodsub_7, tyX7_ok, nmX7⟩
theorem O8 : hpO 8 RX8 TX8 16 tyX8 := ⟨rfl, by decide, by decide +kernel, goodsub_8, tyX8_ok, nmX8⟩
theorem O9 : hpO 9 RX9 TX9 46 tyX9 := ⟨rfl, by decide, by decide +kernel, goodsub_9, tyX9_ok, nmX9⟩
theorem hp0_many {i : Nat} (h : i < 4) : hp0 213 i = -1 := by
  unfold hp0
  rw [if_neg (by omega), if_neg (by omega), if_neg (by omega), if_neg (by omega), if_pos ⟨rfl, h⟩]
theorem hpw_z {σ : hpMem} {k i : Nat} (h : ∀ j : Nat, σ k j = 0) : ∀ j : Nat, hpw σ k i 0 k j = 0 := fun j => by
  rw [hpw_row]
  unfold hpu
  by_cases e : j = i
  · rw [if_pos e]
  · rw [if_neg e]; exact h j
theorem hp_nz {a : Int} (h : a = 0 ∨ a = 1) : narrow .boolean (.int (hpI a)) = .int (hpI a) := by rcases h with rfl | rfl <;> decide
theorem kd_0 : hpkd 0 = 8 := by decide +kernel
theorem kd_1 : hpkd 1 = 7 := by decide +kernel
theorem kd_2 : hpkd 2 = 10 := by decide +kernel
theorem kd_3 : hpkd 3 = 1 := by decide +kernel
theorem kd_4 : hpkd 4 = 11 := by decide +kernel
theorem kd_5 : hpkd 5 = 11 := by decide +kernel
theorem kd_6 : hpkd 6 = 11 := by decide +kernel
theorem kd_7 : hpkd 7 = 11 := by decide +kernel
theorem kd_8 : hpkd 8 = 11 := by decide +kernel
theorem kd_9 : hpkd 9 = 1 := by decide +kernel
theorem kd_10 : hpkd 10 = 11 := by decide +kernel
theorem kd_11 : hpkd 11 = 11 := by decide +kernel
theorem kd_12 : hpkd 12 = 11 := by decide +kernel
theorem kd_13 : hpkd 13 = 11 := by decide +kernel
theorem kd_14 : hpkd 14 = 11 := by decide +kernel
theorem kd_15 : hpkd 15 = 14 := by decide +kernel
theorem kd_16 : hpkd 16 = 16 := by decide +kernel
theorem kd_17 : hpkd 17 = 4 := by decide +kernel
theorem kd_18 : hpkd 18 = 15 := by decide +kernel
theorem kd_19 : hpkd 19 = 3 := by decide +kernel
theorem kd_20 : hpkd 20 = 11 := by decide +kernel
theorem kd_21 : hpkd 21 = 11 := by decide +kernel
theorem kd_22 : hpkd 22 = 3 := by decide +kernel
theorem kd_23 : hpkd 23 = 11 := by decide +kernel
theorem kd_24 : hpkd 24 = 11 := by decide +kernel
theorem kd_25 : hpkd 25 = 3 := by decide +kernel
theorem kd_26 : hpkd 26 = 11 := by decide +kernel
theorem kd_27 : hpkd 27 = 11 := by decide +kernel
theorem kd_28 : hpkd 28 = 3 := by decide +kernel
theorem kd_29 : hpkd 29 = 11 := by decide +kernel
theorem kd_30 : hpkd 30 = 11 := by decide +kernel
theorem kd_31 : hpkd 31 = 3 := by decide +kernel
theorem kd_32 : hpkd 32 = 11 := by decide +kernel
theorem kd_33 : hpkd 33 = 11 := by decide +kernel
theorem kd_34 : hpkd 34 = 3 := by decide +kernel
theorem kd_35 : hpkd 35 = 11 := by decide +kernel
theorem kd_36 : hpkd 36 = 11 := by decide +kernel
theorem kd_37 : hpkd 37 = 3 := by decide +kernel
theorem kd_38 : hpkd 38 = 11 := by decide +kernel
theorem kd_39 : hpkd 39 = 11 := by decide +kernel
theorem kd_40 : hpkd 40 = 3 := by decide +kernel
theorem kd_41 : hpkd 41 = 11 := by decide +kernel
theorem kd_42 : hpkd 42 = 11 := by decide +kernel
theorem kd_43 : hpkd 43 = 3 := by decide +kernel
theorem kd_44 : hpkd 44 = 11 := by decide +kernel
theorem kd_45 : hpkd 45 = 11 := by decide +kernel
theorem kd_46 : hpkd 46 = 3 := by decide +kernel
theorem kd_47 : hpkd 47 = 11 := by decide +kernel
theorem kd_48 : hpkd 48 = 11 := by decide +kernel
theorem kd_49 : hpkd 49 = 3 := by decide +kernel
theorem kd_50 : hpkd 50 = 11 := by decide +kernel
theorem kd_51 : hpkd 51 = 11 := by decide +kernel
theorem kd_52 : hpkd 52 = 3 := by decide +kernel
theorem kd_53 : hpkd 53 = 11 := by decide +kernel
theorem kd_54 : hpkd 54 = 11 := by decide +kernel
theorem kd_55 : hpkd 55 = 3 := by decide +kernel
theorem kd_56 : hpkd 56 = 11 := by decide +kernel
theorem kd_57 : hpkd 57 = 11 := by decide +kernel
theorem kd_58 : hpkd 58 = 3 := by decide +kernel
theorem kd_59 : hpkd 59 = 11 := by decide +kernel
theorem kd_60 : hpkd 60 = 11 := by decide +kernel
theorem kd_61 : hpkd 61 = 3 := by decide +kernel
theorem kd_62 : hpkd 62 = 11 := by decide +kernel
theorem kd_63 : hpkd 63 = 11 := by decide +kernel
theorem kd_64 : hpkd 64 = 3 := by decide +kernel
theorem kd_65 : hpkd 65 = 11 := by decide +kernel
theorem kd_66 : hpkd 66 = 11 := by decide +kernel
theorem kd_67 : hpkd 67 = 3 := by decide +kernel
theorem kd_68 : hpkd 68 = 11 := by decide +kernel
theorem kd_69 : hpkd 69 = 11 := by decide +kernel
theorem kd_70 : hpkd 70 = 4 := by decide +kernel
theorem kd_71 : hpkd 71 = 15 := by decide +kernel
theorem kd_72 : hpkd 72 = 3 := by decide +kernel
theorem kd_73 : hpkd 73 = 11 := by decide +kernel
theorem kd_74 : hpkd 74 = 11 := by decide +kernel
theorem kd_75 : hpkd 75 = 3 := by decide +kernel
theorem kd_76 : hpkd 76 = 11 := by decide +kernel
theorem kd_77 : hpkd 77 = 11 := by decide +kernel
theorem kd_78 : hpkd 78 = 3 := by decide +kernel
theorem kd_79 : hpkd 79 = 11 := by decide +kernel
theorem kd_80 : hpkd 80 = 11 := by decide +kernel
theorem kd_81 : hpkd 81 = 3 := by decide +kernel
theorem kd_82 : hpkd 82 = 11 := by decide +kernel
theorem kd_83 : hpkd 83 = 11 := by decide +kernel
theorem kd_84 : hpkd 84 = 3 := by decide +kernel
theorem kd_85 : hpkd 85 = 11 := by decide +kernel
theorem kd_86 : hpkd 86 = 11 := by decide +kernel
theorem kd_87 : hpkd 87 = 3 := by decide +kernel
theorem kd_88 : hpkd 88 = 11 := by decide +kernel
theorem kd_89 : hpkd 89 = 11 := by decide +kernel
theorem kd_90 : hpkd 90 = 3 := by decide +kernel
theorem kd_91 : hpkd 91 = 11 := by decide +kernel
theorem kd_92 : hpkd 92 = 11 := by decide +kernel
theorem kd_93 : hpkd 93 = 3 := by decide +kernel
theorem kd_94 : hpkd 94 = 11 := by decide +kernel
theorem kd_95 : hpkd 95 = 11 := by decide +kernel
theorem kd_96 : hpkd 96 = 3 := by decide +kernel
theorem kd_97 : hpkd 97 = 11 := by decide +kernel
theorem kd_98 : hpkd 98 = 11 := by decide +kernel
theorem kd_99 : hpkd 99 = 3 := by decide +kernel
theorem kd_100 : hpkd 100 = 11 := by decide +kernel
theorem kd_101 : hpkd 101 = 11 := by decide +kernel
theorem kd_102 : hpkd 102 = 3 := by decide +kernel
theorem kd_103 : hpkd 103 = 11 := by decide +kernel
theorem kd_104 : hpkd 104 = 11 := by decide +kernel
theorem kd_105 : hpkd 105 = 3 := by decide +kernel
theorem kd_106 : hpkd 106 = 11 := by decide +kernel
theorem kd_107 : hpkd 107 = 11 := by decide +kernel
theorem kd_108 : hpkd 108 = 3 := by decide +kernel
theorem kd_109 : hpkd 109 = 11 := by decide +kernel
theorem kd_110 : hpkd 110 = 11 := by decide +kernel
theorem kd_111 : hpkd 111 = 3 := by decide +kernel
theorem kd_112 : hpkd 112 = 11 := by decide +kernel
theorem kd_113 : hpkd 113 = 11 := by decide +kernel
theorem kd_114 : hpkd 114 = 3 := by decide +kernel
theorem kd_115 : hpkd 115 = 11 := by decide +kernel
theorem kd_116 : hpkd 116 = 11 := by decide +kernel
theorem kd_117 : hpkd 117 = 3 := by decide +kernel
theorem kd_118 : hpkd 118 = 11 := by decide +kernel
theorem kd_119 : hpkd 119 = 11 := by decide +kernel
theorem kd_120 : hpkd 120 = 3 := by decide +kernel
theorem kd_121 : hpkd 121 = 11 := by decide +kernel
theorem kd_122 : hpkd 122 = 11 := by decide +kernel
theorem kd_123 : hpkd 123 = 2 := by decide +kernel
theorem kd_124 : hpkd 124 = 3 := by decide +kernel
theorem kd_125 : hpkd 125 = 11 := by decide +kernel
theorem kd_126 : hpkd 126 = 11 := by decide +kernel
theorem kd_127 : hpkd 127 = 3 := by decide +kernel
theorem kd_128 : hpkd 128 = 11 := by decide +kernel
theorem kd_129 : hpkd 129 = 11 := by decide +kernel
theorem kd_130 : hpkd 130 = 0 := by decide +kernel
theorem kd_131 : hpkd 131 = 12 := by decide +kernel
theorem kd_132 : hpkd 132 = 11 := by decide +kernel
theorem kd_133 : hpkd 133 = 11 := by decide +kernel
theorem kd_134 : hpkd 134 = 11 := by decide +kernel
theorem kd_135 : hpkd 135 = 11 := by decide +kernel
theorem kd_136 : hpkd 136 = 11 := by decide +kernel
theorem kd_137 : hpkd 137 = 11 := by decide +kernel
theorem kd_138 : hpkd 138 = 3 := by decide +kernel
theorem kd_139 : hpkd 139 = 11 := by decide +kernel
theorem kd_140 : hpkd 140 = 11 := by decide +kernel
theorem kd_141 : hpkd 141 = 5 := by decide +kernel
theorem kd_142 : hpkd 142 = 11 := by decide +kernel
theorem kd_143 : hpkd 143 = 17 := by decide +kernel
theorem kd_144 : hpkd 144 = 11 := by decide +kernel
theorem kd_145 : hpkd 145 = 11 := by decide +kernel
theorem kd_146 : hpkd 146 = 11 := by decide +kernel
theorem kd_147 : hpkd 147 = 11 := by decide +kernel
theorem kd_148 : hpkd 148 = 11 := by decide +kernel
theorem kd_149 : hpkd 149 = 11 := by decide +kernel
theorem kd_150 : hpkd 150 = 11 := by decide +kernel
theorem kd_151 : hpkd 151 = 11 := by decide +kernel
theorem kd_152 : hpkd 152 = 11 := by decide +kernel
theorem kd_153 : hpkd 153 = 11 := by decide +kernel
theorem kd_154 : hpkd 154 = 11 := by decide +kernel
theorem kd_155 : hpkd 155 = 11 := by decide +kernel
theorem kd_156 : hpkd 156 = 11 := by decide +kernel
theorem kd_157 : hpkd 157 = 11 := by decide +kernel
theorem kd_158 : hpkd 158 = 11 := by decide +kernel
theorem kd_159 : hpkd 159 = 11 := by decide +kernel
theorem kd_160 : hpkd 160 = 11 := by decide +kernel
theorem kd_161 : hpkd 161 = 11 := by decide +kernel
theorem kd_162 : hpkd 162 = 11 := by decide +kernel
theorem kd_163 : hpkd 163 = 11 := by decide +kernel
theorem kd_164 : hpkd 164 = 3 := by decide +kernel
theorem kd_165 : hpkd 165 = 11 := by decide +kernel
theorem kd_166 : hpkd 166 = 11 := by decide +kernel
theorem kd_167 : hpkd 167 = 11 := by decide +kernel
theorem kd_168 : hpkd 168 = 11 := by decide +kernel
theorem kd_169 : hpkd 169 = 1 := by decide +kernel
theorem kd_170 : hpkd 170 = 11 := by decide +kernel
theorem kd_171 : hpkd 171 = 11 := by decide +kernel
theorem kd_172 : hpkd 172 = 11 := by decide +kernel
theorem kd_173 : hpkd 173 = 11 := by decide +kernel
theorem kd_174 : hpkd 174 = 11 := by decide +kernel
theorem kd_175 : hpkd 175 = 1 := by decide +kernel
theorem kd_176 : hpkd 176 = 11 := by decide +kernel
theorem kd_177 : hpkd 177 = 11 := by decide +kernel
theorem kd_178 : hpkd 178 = 11 := by decide +kernel
theorem kd_179 : hpkd 179 = 11 := by decide +kernel
theorem kd_180 : hpkd 180 = 11 := by decide +kernel
theorem kd_181 : hpkd 181 = 1 := by decide +kernel
theorem kd_182 : hpkd 182 = 11 := by decide +kernel
theorem kd_183 : hpkd 183 = 11 := by decide +kernel
theorem kd_184 : hpkd 184 = 11 := by decide +kernel
theorem kd_185 : hpkd 185 = 11 := by decide +kernel
theorem kd_186 : hpkd 186 = 11 := by decide +kernel
theorem kd_187 : hpkd 187 = 6 := by decide +kernel
theorem kd_188 : hpkd 188 = 12 := by decide +kernel
theorem kd_189 : hpkd 189 = 6 := by decide +kernel
theorem kd_190 : hpkd 190 = 12 := by decide +kernel
theorem kd_191 : hpkd 191 = 6 := by decide +kernel
theorem kd_192 : hpkd 192 = 12 := by decide +kernel
theorem kd_193 : hpkd 193 = 6 := by decide +kernel
theorem kd_194 : hpkd 194 = 12 := by decide +kernel
theorem kd_195 : hpkd 195 = 9 := by decide +kernel
theorem kd_196 : hpkd 196 = 11 := by decide +kernel
theorem kd_197 : hpkd 197 = 11 := by decide +kernel
theorem kd_198 : hpkd 198 = 13 := by decide +kernel
theorem kd_199 : hpkd 199 = 10 := by decide +kernel
theorem kd_200 : hpkd 200 = 11 := by decide +kernel
theorem kd_201 : hpkd 201 = 11 := by decide +kernel
theorem kd_202 : hpkd 202 = 11 := by decide +kernel
theorem kd_203 : hpkd 203 = 11 := by decide +kernel
theorem kd_204 : hpkd 204 = 11 := by decide +kernel
theorem kd_205 : hpkd 205 = 11 := by decide +kernel
theorem kd_206 : hpkd 206 = 11 := by decide +kernel
theorem kd_207 : hpkd 207 = 11 := by decide +kernel
theorem kd_208 : hpkd 208 = 11 := by decide +kernel
theorem kd_209 : hpkd 209 = 11 := by decide +kernel
theorem kd_210 : hpkd 210 = 11 := by decide +kernel
theorem kd_211 : hpkd 211 = 11 := by decide +kernel
theorem kd_212 : hpkd 212 = 11 := by decide +kernel
theorem kd_213 : hpkd 213 = 11 := by decide +kernel
theorem kd_214 : hpkd 214 = 11 := by decide +kernel
theorem kd_215 : hpkd 215 = 12 := by decide +kernel
theorem kd_216 : hpkd 216 = 12 := by decide +kernel
theorem ln_2 : hpln 2 = 500 := by decide +kernel
theorem ln_4 : hpln 4 = 8 := by decide +kernel
theorem ln_5 : hpln 5 = 6 := by decide +kernel
theorem ln_6 : hpln 6 = 6 := by decide +kernel
theorem ln_7 : hpln 7 = 20 := by decide +kernel
theorem ln_8 : hpln 8 = 20 := by decide +kernel
theorem ln_10 : hpln 10 = 8 := by decide +kernel
theorem ln_11 : hpln 11 = 6 := by decide +kernel
theorem ln_12 : hpln 12 = 6 := by decide +kernel
theorem ln_13 : hpln 13 = 20 := by decide +kernel
theorem ln_14 : hpln 14 = 20 := by decide +kernel
theorem ln_15 : hpln 15 = 3 := by decide +kernel
theorem ln_16 : hpln 16 = 4 := by decide +kernel
theorem ln_18 : hpln 18 = 17 := by decide +kernel
theorem ln_20 : hpln 20 = 40 := by decide +kernel
theorem ln_21 : hpln 21 = 40 := by decide +kernel
theorem ln_23 : hpln 23 = 40 := by decide +kernel
theorem ln_24 : hpln 24 = 40 := by decide +kernel
theorem ln_26 : hpln 26 = 40 := by decide +kernel
theorem ln_27 : hpln 27 = 40 := by decide +kernel
theorem ln_29 : hpln 29 = 40 := by decide +kernel
theorem ln_30 : hpln 30 = 40 := by decide +kernel
theorem ln_32 : hpln 32 = 40 := by decide +kernel
theorem ln_33 : hpln 33 = 40 := by decide +kernel
theorem ln_35 : hpln 35 = 40 := by decide +kernel
theorem ln_36 : hpln 36 = 40 := by decide +kernel
theorem ln_38 : hpln 38 = 40 := by decide +kernel
theorem ln_39 : hpln 39 = 40 := by decide +kernel
theorem ln_41 : hpln 41 = 40 := by decide +kernel
theorem ln_42 : hpln 42 = 40 := by decide +kernel
theorem ln_44 : hpln 44 = 40 := by decide +kernel
theorem ln_45 : hpln 45 = 40 := by decide +kernel
theorem ln_47 : hpln 47 = 40 := by decide +kernel
theorem ln_48 : hpln 48 = 40 := by decide +kernel
theorem ln_50 : hpln 50 = 40 := by decide +kernel
theorem ln_51 : hpln 51 = 40 := by decide +kernel
theorem ln_53 : hpln 53 = 40 := by decide +kernel
theorem ln_54 : hpln 54 = 40 := by decide +kernel
theorem ln_56 : hpln 56 = 40 := by decide +kernel
theorem ln_57 : hpln 57 = 40 := by decide +kernel
theorem ln_59 : hpln 59 = 40 := by decide +kernel
theorem ln_60 : hpln 60 = 40 := by decide +kernel
theorem ln_62 : hpln 62 = 40 := by decide +kernel
theorem ln_63 : hpln 63 = 40 := by decide +kernel
theorem ln_65 : hpln 65 = 40 := by decide +kernel
theorem ln_66 : hpln 66 = 40 := by decide +kernel
theorem ln_68 : hpln 68 = 40 := by decide +kernel
theorem ln_69 : hpln 69 = 40 := by decide +kernel
theorem ln_71 : hpln 71 = 17 := by decide +kernel
theorem ln_73 : hpln 73 = 40 := by decide +kernel
theorem ln_74 : hpln 74 = 40 := by decide +kernel
theorem ln_76 : hpln 76 = 40 := by decide +kernel
theorem ln_77 : hpln 77 = 40 := by decide +kernel
theorem ln_79 : hpln 79 = 40 := by decide +kernel
theorem ln_80 : hpln 80 = 40 := by decide +kernel
theorem ln_82 : hpln 82 = 40 := by decide +kernel
theorem ln_83 : hpln 83 = 40 := by decide +kernel
theorem ln_85 : hpln 85 = 40 := by decide +kernel
theorem ln_86 : hpln 86 = 40 := by decide +kernel
theorem ln_88 : hpln 88 = 40 := by decide +kernel
theorem ln_89 : hpln 89 = 40 := by decide +kernel
theorem ln_91 : hpln 91 = 40 := by decide +kernel
theorem ln_92 : hpln 92 = 40 := by decide +kernel
theorem ln_94 : hpln 94 = 40 := by decide +kernel
theorem ln_95 : hpln 95 = 40 := by decide +kernel
theorem ln_97 : hpln 97 = 40 := by decide +kernel
theorem ln_98 : hpln 98 = 40 := by decide +kernel
theorem ln_100 : hpln 100 = 40 := by decide +kernel
theorem ln_101 : hpln 101 = 40 := by decide +kernel
theorem ln_103 : hpln 103 = 40 := by decide +kernel
theorem ln_104 : hpln 104 = 40 := by decide +kernel
theorem ln_106 : hpln 106 = 40 := by decide +kernel
theorem ln_107 : hpln 107 = 40 := by decide +kernel
theorem ln_109 : hpln 109 = 40 := by decide +kernel
theorem ln_110 : hpln 110 = 40 := by decide +kernel
theorem ln_112 : hpln 112 = 40 := by decide +kernel
theorem ln_113 : hpln 113 = 40 := by decide +kernel
theorem ln_115 : hpln 115 = 40 := by decide +kernel
theorem ln_116 : hpln 116 = 40 := by decide +kernel
theorem ln_118 : hpln 118 = 40 := by decide +kernel
theorem ln_119 : hpln 119 = 40 := by decide +kernel
theorem ln_121 : hpln 121 = 40 := by decide +kernel
theorem ln_122 : hpln 122 = 40 := by decide +kernel
theorem ln_125 : hpln 125 = 40 := by decide +kernel
theorem ln_126 : hpln 126 = 40 := by decide +kernel
theorem ln_128 : hpln 128 = 40 := by decide +kernel
theorem ln_129 : hpln 129 = 40 := by decide +kernel
theorem ln_131 : hpln 131 = 135 := by decide +kernel
theorem ln_132 : hpln 132 = 135 := by decide +kernel
theorem ln_133 : hpln 133 = 135 := by decide +kernel
theorem ln_134 : hpln 134 = 135 := by decide +kernel
theorem ln_135 : hpln 135 = 135 := by decide +kernel
theorem ln_136 : hpln 136 = 135 := by decide +kernel
theorem ln_137 : hpln 137 = 14 := by decide +kernel
theorem ln_139 : hpln 139 = 40 := by decide +kernel
theorem ln_140 : hpln 140 = 40 := by decide +kernel
theorem ln_142 : hpln 142 = 20 := by decide +kernel
theorem ln_143 : hpln 143 = 20 := by decide +kernel
theorem ln_144 : hpln 144 = 17 := by decide +kernel
theorem ln_145 : hpln 145 = 17 := by decide +kernel
theorem ln_146 : hpln 146 = 17 := by decide +kernel
theorem ln_147 : hpln 147 = 17 := by decide +kernel
theorem ln_148 : hpln 148 = 17 := by decide +kernel
theorem ln_149 : hpln 149 = 17 := by decide +kernel
theorem ln_150 : hpln 150 = 17 := by decide +kernel
theorem ln_151 : hpln 151 = 17 := by decide +kernel
theorem ln_152 : hpln 152 = 17 := by decide +kernel
theorem ln_153 : hpln 153 = 17 := by decide +kernel
theorem ln_154 : hpln 154 = 17 := by decide +kernel
theorem ln_155 : hpln 155 = 17 := by decide +kernel
theorem ln_156 : hpln 156 = 17 := by decide +kernel
theorem ln_157 : hpln 157 = 17 := by decide +kernel
theorem ln_158 : hpln 158 = 17 := by decide +kernel
theorem ln_159 : hpln 159 = 17 := by decide +kernel
theorem ln_160 : hpln 160 = 17 := by decide +kernel
theorem ln_161 : hpln 161 = 17 := by decide +kernel
theorem ln_162 : hpln 162 = 17 := by decide +kernel
theorem ln_163 : hpln 163 = 17 := by decide +kernel
theorem ln_165 : hpln 165 = 40 := by decide +kernel
theorem ln_166 : hpln 166 = 40 := by decide +kernel
theorem ln_167 : hpln 167 = 64 := by decide +kernel
theorem ln_168 : hpln 168 = 8 := by decide +kernel
theorem ln_170 : hpln 170 = 8 := by decide +kernel
theorem ln_171 : hpln 171 = 6 := by decide +kernel
theorem ln_172 : hpln 172 = 6 := by decide +kernel
theorem ln_173 : hpln 173 = 20 := by decide +kernel
theorem ln_174 : hpln 174 = 20 := by decide +kernel
theorem ln_176 : hpln 176 = 8 := by decide +kernel
theorem ln_177 : hpln 177 = 6 := by decide +kernel
theorem ln_178 : hpln 178 = 6 := by decide +kernel
theorem ln_179 : hpln 179 = 20 := by decide +kernel
theorem ln_180 : hpln 180 = 20 := by decide +kernel
theorem ln_182 : hpln 182 = 8 := by decide +kernel
theorem ln_183 : hpln 183 = 6 := by decide +kernel
theorem ln_184 : hpln 184 = 6 := by decide +kernel
theorem ln_185 : hpln 185 = 20 := by decide +kernel
theorem ln_186 : hpln 186 = 20 := by decide +kernel
theorem ln_188 : hpln 188 = 60 := by decide +kernel
theorem ln_190 : hpln 190 = 60 := by decide +kernel
theorem ln_192 : hpln 192 = 60 := by decide +kernel
theorem ln_194 : hpln 194 = 60 := by decide +kernel
theorem ln_196 : hpln 196 = 47 := by decide +kernel
theorem ln_197 : hpln 197 = 141 := by decide +kernel
theorem ln_198 : hpln 198 = 3 := by decide +kernel
theorem ln_199 : hpln 199 = 500 := by decide +kernel
theorem ln_200 : hpln 200 = 5 := by decide +kernel
theorem ln_201 : hpln 201 = 47 := by decide +kernel
theorem ln_202 : hpln 202 = 14721 := by decide +kernel
theorem ln_203 : hpln 203 = 8 := by decide +kernel
theorem ln_204 : hpln 204 = 6 := by decide +kernel
theorem ln_205 : hpln 205 = 16 := by decide +kernel
theorem ln_206 : hpln 206 = 16 := by decide +kernel
theorem ln_207 : hpln 207 = 2025 := by decide +kernel
theorem ln_208 : hpln 208 = 135 := by decide +kernel
theorem ln_209 : hpln 209 = 135 := by decide +kernel
theorem ln_210 : hpln 210 = 20 := by decide +kernel
theorem ln_211 : hpln 211 = 340 := by decide +kernel
theorem ln_212 : hpln 212 = 64 := by decide +kernel
theorem ln_213 : hpln 213 = 4 := by decide +kernel
theorem ln_214 : hpln 214 = 4 := by decide +kernel
theorem ln_215 : hpln 215 = 240 := by decide +kernel
theorem ln_216 : hpln 216 = 60 := by decide +kernel
theorem fr_0_0 {z : Nat} {r : Nat → Int} : hpfv z 0 r 0 = .ref (z + 1) := hp_fvR (by decide +kernel) (by decide +kernel)
theorem fr_0_1 {z : Nat} {r : Nat → Int} : hpfv z 0 r 1 = .ref (z + 3) := hp_fvR (by decide +kernel) (by decide +kernel)
theorem fr_0_2 {z : Nat} {r : Nat → Int} : hpfv z 0 r 2 = .ref (z + 9) := hp_fvR (by decide +kernel) (by decide +kernel)
theorem fr_0_3 {z : Nat} {r : Nat → Int} : hpfv z 0 r 3 = .ref (z + 15) := hp_fvR (by decide +kernel) (by decide +kernel)
theorem fr_0_4 {z : Nat} {r : Nat → Int} : hpfv z 0 r 4 = .ref (z + 16) := hp_fvR (by decide +kernel) (by decide +kernel)
theorem fr_1_0 {z : Nat} {r : Nat → Int} : hpfv z 1 r 0 = .ref (z + 2) := hp_fvR (by decide +kernel) (by decide +kernel)
theorem fr_3_0 {z : Nat} {r : Nat → Int} : hpfv z 3 r 0 = .ref (z + 4) := hp_fvR (by decide +kernel) (by decide +kernel)
theorem fr_3_1 {z : Nat} {r : Nat → Int} : hpfv z 3 r 1 = .ref (z + 5) := hp_fvR (by decide +kernel) (by decide +kernel)
theorem fr_3_2 {z : Nat} {r : Nat → Int} : hpfv z 3 r 2 = .ref (z + 6) := hp_fvR (by decide +kernel) (by decide +kernel)
theorem fr_3_3 {z : Nat} {r : Nat → Int} : hpfv z 3 r 3 = .ref (z + 7) := hp_fvR (by decide +kernel) (by decide +kernel)
theorem fr_3_4 {z : Nat} {r : Nat → Int} : hpfv z 3 r 4 = .ref (z + 8) := hp_fvR (by decide +kernel) (by decide +kernel)
theorem fr_9_0 {z : Nat} {r : Nat → Int} : hpfv z 9 r 0 = .ref (z + 10) := hp_fvR (by decide +kernel) (by decide +kernel)
theorem fr_9_1 {z : Nat} {r : Nat → Int} : hpfv z 9 r 1 = .ref (z + 11) := hp_fvR (by decide +kernel) (by decide +kernel)
theorem fr_9_2 {z : Nat} {r : Nat → Int} : hpfv z 9 r 2 = .ref (z + 12) := hp_fvR (by decide +kernel) (by decide +kernel)
theorem fr_9_3 {z : Nat} {r : Nat → Int} : hpfv z 9 r 3 = .ref (z + 13) := hp_fvR (by decide +kernel) (by decide +kernel)
theorem fr_9_4 {z : Nat} {r : Nat → Int} : hpfv z 9 r 4 = .ref (z + 14) := hp_fvR (by decide +kernel) (by decide +kernel)
theorem fr_169_0 {z : Nat} {r : Nat → Int} : hpfv z 169 r 0 = .ref (z + 170) := hp_fvR (by decide +kernel) (by decide +kernel)
theorem fr_169_1 {z : Nat} {r : Nat → Int} : hpfv z 169 r 1 = .ref (z + 171) := hp_fvR (by decide +kernel) (by decide +kernel)
theorem fr_169_2 {z : Nat} {r : Nat → Int} : hpfv z 169 r 2 = .ref (z + 172) := hp_fvR (by decide +kernel) (by decide +kernel)
theorem fr_169_3 {z : Nat} {r : Nat → Int} : hpfv z 169 r 3 = .ref (z + 173) := hp_fvR (by decide +kernel) (by decide +kernel)
theorem fr_169_4 {z : Nat} {r : Nat → Int} : hpfv z 169 r 4 = .ref (z + 174) := hp_fvR (by decide +kernel) (by decide +kernel)
theorem fr_175_0 {z : Nat} {r : Nat → Int} : hpfv z 175 r 0 = .ref (z + 176) := hp_fvR (by decide +kernel) (by decide +kernel)
theorem fr_175_1 {z : Nat} {r : Nat → Int} : hpfv z 175 r 1 = .ref (z + 177) := hp_fvR (by decide +kernel) (by decide +kernel)
theorem fr_175_2 {z : Nat} {r : Nat → Int} : hpfv z 175 r 2 = .ref (z + 178) := hp_fvR (by decide +kernel) (by decide +kernel)
theorem fr_175_3 {z : Nat} {r : Nat → Int} : hpfv z 175 r 3 = .ref (z + 179) := hp_fvR (by decide +kernel) (by decide +kernel)
theorem fr_175_4 {z : Nat} {r : Nat → Int} : hpfv z 175 r 4 = .ref (z + 180) := hp_fvR (by decide +kernel) (by decide +kernel)
theorem fr_181_0 {z : Nat} {r : Nat → Int} : hpfv z 181 r 0 = .ref (z + 182) := hp_fvR (by decide +kernel) (by decide +kernel)
theorem fr_181_1 {z : Nat} {r : Nat → Int} : hpfv z 181 r 1 = .ref (z + 183) := hp_fvR (by decide +kernel) (by decide +kernel)
theorem fr_181_2 {z : Nat} {r : Nat → Int} : hpfv z 181 r 2 = .ref (z + 184) := hp_fvR (by decide +kernel) (by decide +kernel)
theorem fr_181_3 {z : Nat} {r : Nat → Int} : hpfv z 181 r 3 = .ref (z + 185) := hp_fvR (by decide +kernel) (by decide +kernel)
theorem fr_181_4 {z : Nat} {r : Nat → Int} : hpfv z 181 r 4 = .ref (z + 186) := hp_fvR (by decide +kernel) (by decide +kernel)
theorem fr_187_0 {z : Nat} {r : Nat → Int} : hpfv z 187 r 0 = .ref (z + 188) := hp_fvR (by decide +kernel) (by decide +kernel)
theorem fr_189_0 {z : Nat} {r : Nat → Int} : hpfv z 189 r 0 = .ref (z + 190) := hp_fvR (by decide +kernel) (by decide +kernel)
theorem fr_191_0 {z : Nat} {r : Nat → Int} : hpfv z 191 r 0 = .ref (z + 192) := hp_fvR (by decide +kernel) (by decide +kernel)
theorem fr_193_0 {z : Nat} {r : Nat → Int} : hpfv z 193 r 0 = .ref (z + 194) := hp_fvR (by decide +kernel) (by decide +kernel)
theorem fr_195_1 {z : Nat} {r : Nat → Int} : hpfv z 195 r 1 = .ref (z + 196) := hp_fvR (by decide +kernel) (by decide +kernel)
theorem fr_195_2 {z : Nat} {r : Nat → Int} : hpfv z 195 r 2 = .ref (z + 197) := hp_fvR (by decide +kernel) (by decide +kernel)
theorem fr_195_3 {z : Nat} {r : Nat → Int} : hpfv z 195 r 3 = .ref (z + 198) := hp_fvR (by decide +kernel) (by decide +kernel)
theorem fr_195_4 {z : Nat} {r : Nat → Int} : hpfv z 195 r 4 = .ref (z + 199) := hp_fvR (by decide +kernel) (by decide +kernel)
theorem fr_195_6 {z : Nat} {r : Nat → Int} : hpfv z 195 r 6 = .ref (z + 200) := hp_fvR (by decide +kernel) (by decide +kernel)
theorem fr_195_14 {z : Nat} {r : Nat → Int} : hpfv z 195 r 14 = .ref (z + 201) := hp_fvR (by decide +kernel) (by decide +kernel)
theorem fr_195_15 {z : Nat} {r : Nat → Int} : hpfv z 195 r 15 = .ref (z + 202) := hp_fvR (by decide +kernel) (by decide +kernel)
theorem fr_195_19 {z : Nat} {r : Nat → Int} : hpfv z 195 r 19 = .ref (z + 203) := hp_fvR (by decide +kernel) (by decide +kernel)
theorem fr_195_20 {z : Nat} {r : Nat → Int} : hpfv z 195 r 20 = .ref (z + 204) := hp_fvR (by decide +kernel) (by decide +kernel)
theorem fr_195_42 {z : Nat} {r : Nat → Int} : hpfv z 195 r 42 = .ref (z + 213) := hp_fvR (by decide +kernel) (by decide +kernel)
theorem fr_195_43 {z : Nat} {r : Nat → Int} : hpfv z 195 r 43 = .ref (z + 214) := hp_fvR (by decide +kernel) (by decide +kernel)
theorem fr_195_44 {z : Nat} {r : Nat → Int} : hpfv z 195 r 44 = .ref (z + 215) := hp_fvR (by decide +kernel) (by decide +kernel)
theorem fi_0_13 {z : Nat} {r : Nat → Int} {a : Int} (h : r 13 = a) : hpfv z 0 r 13 = .int (hpI a) := hp_fvI (by decide +kernel) h
theorem fi_0_14 {z : Nat} {r : Nat → Int} {a : Int} (h : r 14 = a) : hpfv z 0 r 14 = .int (hpI a) := hp_fvI (by decide +kernel) h
theorem fi_0_15 {z : Nat} {r : Nat → Int} {a : Int} (h : r 15 = a) : hpfv z 0 r 15 = .int (hpI a) := hp_fvI (by decide +kernel) h
theorem fi_1_1 {z : Nat} {r : Nat → Int} {a : Int} (h : r 1 = a) : hpfv z 1 r 1 = .int (hpI a) := hp_fvI (by decide +kernel) h
theorem fi_1_2 {z : Nat} {r : Nat → Int} {a : Int} (h : r 2 = a) : hpfv z 1 r 2 = .int (hpI a) := hp_fvI (by decide +kernel) h
theorem fi_1_3 {z : Nat} {r : Nat → Int} {a : Int} (h : r 3 = a) : hpfv z 1 r 3 = .int (hpI a) := hp_fvI (by decide +kernel) h
theorem fi_1_4 {z : Nat} {r : Nat → Int} {a : Int} (h : r 4 = a) : hpfv z 1 r 4 = .int (hpI a) := hp_fvI (by decide +kernel) h
theorem fi_1_5 {z : Nat} {r : Nat → Int} {a : Int} (h : r 5 = a) : hpfv z 1 r 5 = .int (hpI a) := hp_fvI (by decide +kernel) h
theorem fi_1_6 {z : Nat} {r : Nat → Int} {a : Int} (h : r 6 = a) : hpfv z 1 r 6 = .int (hpI a) := hp_fvI (by decide +kernel) h
theorem fi_3_5 {z : Nat} {r : Nat → Int} {a : Int} (h : r 5 = a) : hpfv z 3 r 5 = .int (hpI a) := hp_fvI (by decide +kernel) h
theorem fi_3_6 {z : Nat} {r : Nat → Int} {a : Int} (h : r 6 = a) : hpfv z 3 r 6 = .int (hpI a) := hp_fvI (by decide +kernel) h
theorem fi_3_7 {z : Nat} {r : Nat → Int} {a : Int} (h : r 7 = a) : hpfv z 3 r 7 = .int (hpI a) := hp_fvI (by decide +kernel) h
theorem fi_3_8 {z : Nat} {r : Nat → Int} {a : Int} (h : r 8 = a) : hpfv z 3 r 8 = .int (hpI a) := hp_fvI (by decide +kernel) h
theorem fi_3_9 {z : Nat} {r : Nat → Int} {a : Int} (h : r 9 = a) : hpfv z 3 r 9 = .int (hpI a) := hp_fvI (by decide +kernel) h
theorem fi_3_10 {z : Nat} {r : Nat → Int} {a : Int} (h : r 10 = a) : hpfv z 3 r 10 = .int (hpI a) := hp_fvI (by decide +kernel) h
theorem fi_3_11 {z : Nat} {r : Nat → Int} {a : Int} (h : r 11 = a) : hpfv z 3 r 11 = .int (hpI a) := hp_fvI (by decide +kernel) h
theorem fi_9_5 {z : Nat} {r : Nat → Int} {a : Int} (h : r 5 = a) : hpfv z 9 r 5 = .int (hpI a) := hp_fvI (by decide +kernel) h
theorem fi_9_6 {z : Nat} {r : Nat → Int} {a : Int} (h : r 6 = a) : hpfv z 9 r 6 = .int (hpI a) := hp_fvI (by decide +kernel) h
theorem fi_9_7 {z : Nat} {r : Nat → Int} {a : Int} (h : r 7 = a) : hpfv z 9 r 7 = .int (hpI a) := hp_fvI (by decide +kernel) h
theorem fi_9_8 {z : Nat} {r : Nat → Int} {a : Int} (h : r 8 = a) : hpfv z 9 r 8 = .int (hpI a) := hp_fvI (by decide +kernel) h
theorem fi_9_9 {z : Nat} {r : Nat → Int} {a : Int} (h : r 9 = a) : hpfv z 9 r 9 = .int (hpI a) := hp_fvI (by decide +kernel) h
theorem fi_9_10 {z : Nat} {r : Nat → Int} {a : Int} (h : r 10 = a) : hpfv z 9 r 10 = .int (hpI a) := hp_fvI (by decide +kernel) h
theorem fi_9_11 {z : Nat} {r : Nat → Int} {a : Int} (h : r 11 = a) : hpfv z 9 r 11 = .int (hpI a) := hp_fvI (by decide +kernel) h
theorem fi_169_5 {z : Nat} {r : Nat → Int} {a : Int} (h : r 5 = a) : hpfv z 169 r 5 = .int (hpI a) := hp_fvI (by decide +kernel) h
theorem fi_169_6 {z : Nat} {r : Nat → Int} {a : Int} (h : r 6 = a) : hpfv z 169 r 6 = .int (hpI a) := hp_fvI (by decide +kernel) h
theorem fi_169_7 {z : Nat} {r : Nat → Int} {a : Int} (h : r 7 = a) : hpfv z 169 r 7 = .int (hpI a) := hp_fvI (by decide +kernel) h
theorem fi_169_8 {z : Nat} {r : Nat → Int} {a : Int} (h : r 8 = a) : hpfv z 169 r 8 = .int (hpI a) := hp_fvI (by decide +kernel) h
theorem fi_169_9 {z : Nat} {r : Nat → Int} {a : Int} (h : r 9 = a) : hpfv z 169 r 9 = .int (hpI a) := hp_fvI (by decide +kernel) h
theorem fi_169_10 {z : Nat} {r : Nat → Int} {a : Int} (h : r 10 = a) : hpfv z 169 r 10 = .int (hpI a) := hp_fvI (by decide +kernel) h
theorem fi_169_11 {z : Nat} {r : Nat → Int} {a : Int} (h : r 11 = a) : hpfv z 169 r 11 = .int (hpI a) := hp_fvI (by decide +kernel) h
theorem fi_169_12 {z : Nat} {r : Nat → Int} {a : Int} (h : r 12 = a) : hpfv z 169 r 12 = .int (hpI a) := hp_fvI (by decide +kernel) h
theorem fi_175_5 {z : Nat} {r : Nat → Int} {a : Int} (h : r 5 = a) : hpfv z 175 r 5 = .int (hpI a) := hp_fvI (by decide +kernel) h
theorem fi_175_6 {z : Nat} {r : Nat → Int} {a : Int} (h : r 6 = a) : hpfv z 175 r 6 = .int (hpI a) := hp_fvI (by decide +kernel) h
theorem fi_175_7 {z : Nat} {r : Nat → Int} {a : Int} (h : r 7 = a) : hpfv z 175 r 7 = .int (hpI a) := hp_fvI (by decide +kernel) h
theorem fi_175_8 {z : Nat} {r : Nat → Int} {a : Int} (h : r 8 = a) : hpfv z 175 r 8 = .int (hpI a) := hp_fvI (by decide +kernel) h
theorem fi_175_9 {z : Nat} {r : Nat → Int} {a : Int} (h : r 9 = a) : hpfv z 175 r 9 = .int (hpI a) := hp_fvI (by decide +kernel) h
theorem fi_175_10 {z : Nat} {r : Nat → Int} {a : Int} (h : r 10 = a) : hpfv z 175 r 10 = .int (hpI a) := hp_fvI (by decide +kernel) h
theorem fi_175_11 {z : Nat} {r : Nat → Int} {a : Int} (h : r 11 = a) : hpfv z 175 r 11 = .int (hpI a) := hp_fvI (by decide +kernel) h
theorem fi_175_12 {z : Nat} {r : Nat → Int} {a : Int} (h : r 12 = a) : hpfv z 175 r 12 = .int (hpI a) := hp_fvI (by decide +kernel) h
theorem fi_181_5 {z : Nat} {r : Nat → Int} {a : Int} (h : r 5 = a) : hpfv z 181 r 5 = .int (hpI a) := hp_fvI (by decide +kernel) h
theorem fi_181_6 {z : Nat} {r : Nat → Int} {a : Int} (h : r 6 = a) : hpfv z 181 r 6 = .int (hpI a) := hp_fvI (by decide +kernel) h
theorem fi_181_7 {z : Nat} {r : Nat → Int} {a : Int} (h : r 7 = a) : hpfv z 181 r 7 = .int (hpI a) := hp_fvI (by decide +kernel) h
theorem fi_181_8 {z : Nat} {r : Nat → Int} {a : Int} (h : r 8 = a) : hpfv z 181 r 8 = .int (hpI a) := hp_fvI (by decide +kernel) h
theorem fi_181_9 {z : Nat} {r : Nat → Int} {a : Int} (h : r 9 = a) : hpfv z 181 r 9 = .int (hpI a) := hp_fvI (by decide +kernel) h
theorem fi_181_10 {z : Nat} {r : Nat → Int} {a : Int} (h : r 10 = a) : hpfv z 181 r 10 = .int (hpI a) := hp_fvI (by decide +kernel) h
theorem fi_181_11 {z : Nat} {r : Nat → Int} {a : Int} (h : r 11 = a) : hpfv z 181 r 11 = .int (hpI a) := hp_fvI (by decide +kernel) h
theorem fi_181_12 {z : Nat} {r : Nat → Int} {a : Int} (h : r 12 = a) : hpfv z 181 r 12 = .int (hpI a) := hp_fvI (by decide +kernel) h
theorem fi_187_1 {z : Nat} {r : Nat → Int} {a : Int} (h : r 1 = a) : hpfv z 187 r 1 = .int (hpI a) := hp_fvI (by decide +kernel) h
theorem fi_187_2 {z : Nat} {r : Nat → Int} {a : Int} (h : r 2 = a) : hpfv z 187 r 2 = .int (hpI a) := hp_fvI (by decide +kernel) h
theorem fi_187_3 {z : Nat} {r : Nat → Int} {a : Int} (h : r 3 = a) : hpfv z 187 r 3 = .int (hpI a) := hp_fvI (by decide +kernel) h
theorem fi_189_1 {z : Nat} {r : Nat → Int} {a : Int} (h : r 1 = a) : hpfv z 189 r 1 = .int (hpI a) := hp_fvI (by decide +kernel) h
theorem fi_189_2 {z : Nat} {r : Nat → Int} {a : Int} (h : r 2 = a) : hpfv z 189 r 2 = .int (hpI a) := hp_fvI (by decide +kernel) h
theorem fi_189_3 {z : Nat} {r : Nat → Int} {a : Int} (h : r 3 = a) : hpfv z 189 r 3 = .int (hpI a) := hp_fvI (by decide +kernel) h
theorem fi_191_1 {z : Nat} {r : Nat → Int} {a : Int} (h : r 1 = a) : hpfv z 191 r 1 = .int (hpI a) := hp_fvI (by decide +kernel) h
theorem fi_191_2 {z : Nat} {r : Nat → Int} {a : Int} (h : r 2 = a) : hpfv z 191 r 2 = .int (hpI a) := hp_fvI (by decide +kernel) h
theorem fi_191_3 {z : Nat} {r : Nat → Int} {a : Int} (h : r 3 = a) : hpfv z 191 r 3 = .int (hpI a) := hp_fvI (by decide +kernel) h
theorem fi_193_1 {z : Nat} {r : Nat → Int} {a : Int} (h : r 1 = a) : hpfv z 193 r 1 = .int (hpI a) := hp_fvI (by decide +kernel) h
theorem fi_193_2 {z : Nat} {r : Nat → Int} {a : Int} (h : r 2 = a) : hpfv z 193 r 2 = .int (hpI a) := hp_fvI (by decide +kernel) h
theorem fi_193_3 {z : Nat} {r : Nat → Int} {a : Int} (h : r 3 = a) : hpfv z 193 r 3 = .int (hpI a) := hp_fvI (by decide +kernel) h
theorem fi_195_5 {z : Nat} {r : Nat → Int} {a : Int} (h : r 5 = a) : hpfv z 195 r 5 = .int (hpI a) := hp_fvI (by decide +kernel) h
theorem fi_195_7 {z : Nat} {r : Nat → Int} {a : Int} (h : r 7 = a) : hpfv z 195 r 7 = .int (hpI a) := hp_fvI (by decide +kernel) h
theorem fi_195_8 {z : Nat} {r : Nat → Int} {a : Int} (h : r 8 = a) : hpfv z 195 r 8 = .int (hpI a) := hp_fvI (by decide +kernel) h
theorem fi_195_9 {z : Nat} {r : Nat → Int} {a : Int} (h : r 9 = a) : hpfv z 195 r 9 = .int (hpI a) := hp_fvI (by decide +kernel) h
theorem fi_195_10 {z : Nat} {r : Nat → Int} {a : Int} (h : r 10 = a) : hpfv z 195 r 10 = .int (hpI a) := hp_fvI (by decide +kernel) h
theorem fi_195_12 {z : Nat} {r : Nat → Int} {a : Int} (h : r 12 = a) : hpfv z 195 r 12 = .int (hpI a) := hp_fvI (by decide +kernel) h
theorem fi_195_13 {z : Nat} {r : Nat → Int} {a : Int} (h : r 13 = a) : hpfv z 195 r 13 = .int (hpI a) := hp_fvI (by decide +kernel) h
theorem fi_195_16 {z : Nat} {r : Nat → Int} {a : Int} (h : r 16 = a) : hpfv z 195 r 16 = .int (hpI a) := hp_fvI (by decide +kernel) h
theorem fi_195_21 {z : Nat} {r : Nat → Int} {a : Int} (h : r 21 = a) : hpfv z 195 r 21 = .int (hpI a) := hp_fvI (by decide +kernel) h
theorem fi_195_22 {z : Nat} {r : Nat → Int} {a : Int} (h : r 22 = a) : hpfv z 195 r 22 = .int (hpI a) := hp_fvI (by decide +kernel) h
theorem fi_195_23 {z : Nat} {r : Nat → Int} {a : Int} (h : r 23 = a) : hpfv z 195 r 23 = .int (hpI a) := hp_fvI (by decide +kernel) h
theorem wd_1 : Cond.initialized "TurfHeaps" ∈ hpT := hpT_of 1 (by decide +kernel) (by decide +kernel)
theorem wd_2 : Cond.initialized "TurfHeaps$Tape" ∈ hpT := hpT_of 2 (by decide +kernel) (by decide +kernel)
theorem wd_3 : Cond.initialized "TurfHeaps$Moor" ∈ hpT := hpT_of 3 (by decide +kernel) (by decide +kernel)
theorem wd_9 : Cond.initialized "TurfHeaps$Slot" ∈ hpT := hpT_of 9 (by decide +kernel) (by decide +kernel)
theorem wd_10 : Cond.initialized "TurfHeapsModel" ∈ hpT := hpT_of 10 (by decide +kernel) (by decide +kernel)
theorem wd_16 : Cond.initialized "java/lang/System" ∈ hpT := hpT_of 16 (by decide +kernel) (by decide +kernel)
theorem wd_32 : Cond.fieldLink "TurfHeaps$Tape" 9 "TurfHeaps$Tape" "bytes" "[B" ∈ hpT := hpT_of 32 (by decide +kernel) (by decide +kernel)
theorem wd_34 : Cond.fieldLink "TurfHeaps$Tape" 19 "TurfHeaps$Tape" "size" "I" ∈ hpT := hpT_of 34 (by decide +kernel) (by decide +kernel)
theorem wd_35 : Cond.fieldLink "TurfHeaps$Tape" 27 "TurfHeaps$Tape" "fault" "I" ∈ hpT := hpT_of 35 (by decide +kernel) (by decide +kernel)
theorem wd_37 : Cond.fieldLink "TurfHeaps$Tape" 15 "TurfHeaps$Tape" "faultPlace" "I" ∈ hpT := hpT_of 37 (by decide +kernel) (by decide +kernel)
theorem wd_39 : Cond.fieldLink "TurfHeaps$Tape" 30 "TurfHeaps$Tape" "place" "I" ∈ hpT := hpT_of 39 (by decide +kernel) (by decide +kernel)
theorem wd_40 : Cond.fieldLink "TurfHeaps$Tape" 36 "TurfHeaps$Tape" "kind" "I" ∈ hpT := hpT_of 40 (by decide +kernel) (by decide +kernel)
theorem wd_41 : Cond.fieldLink "TurfHeaps$Tape" 113 "TurfHeaps$Tape" "start" "I" ∈ hpT := hpT_of 41 (by decide +kernel) (by decide +kernel)
theorem wd_64 : Cond.fieldLink "TurfHeaps$Moor" 9 "TurfHeaps$Moor" "told" "[I" ∈ hpT := hpT_of 64 (by decide +kernel) (by decide +kernel)
theorem wd_68 : Cond.fieldLink "TurfHeaps$Moor" 15 "TurfHeaps$Moor" "cartTurfs" "[I" ∈ hpT := hpT_of 68 (by decide +kernel) (by decide +kernel)
theorem wd_72 : Cond.fieldLink "TurfHeaps$Moor" 18 "TurfHeaps$Moor" "cartDay" "[I" ∈ hpT := hpT_of 72 (by decide +kernel) (by decide +kernel)
theorem wd_76 : Cond.fieldLink "TurfHeaps$Moor" 21 "TurfHeaps$Moor" "actTurfs" "[I" ∈ hpT := hpT_of 76 (by decide +kernel) (by decide +kernel)
theorem wd_79 : Cond.fieldLink "TurfHeaps$Moor" 24 "TurfHeaps$Moor" "actDay" "[I" ∈ hpT := hpT_of 79 (by decide +kernel) (by decide +kernel)
theorem wd_82 : Cond.fieldLink "TurfHeaps$Moor" 27 "TurfHeaps$Moor" "days" "I" ∈ hpT := hpT_of 82 (by decide +kernel) (by decide +kernel)
theorem wd_87 : Cond.fieldLink "TurfHeaps$Moor" 31 "TurfHeaps$Moor" "law" "I" ∈ hpT := hpT_of 87 (by decide +kernel) (by decide +kernel)
theorem wd_90 : Cond.fieldLink "TurfHeaps$Moor" 34 "TurfHeaps$Moor" "odds" "I" ∈ hpT := hpT_of 90 (by decide +kernel) (by decide +kernel)
theorem wd_93 : Cond.fieldLink "TurfHeaps$Moor" 37 "TurfHeaps$Moor" "lines" "I" ∈ hpT := hpT_of 93 (by decide +kernel) (by decide +kernel)
theorem wd_96 : Cond.fieldLink "TurfHeaps$Moor" 40 "TurfHeaps$Moor" "heapsTold" "I" ∈ hpT := hpT_of 96 (by decide +kernel) (by decide +kernel)
theorem wd_100 : Cond.fieldLink "TurfHeaps$Moor" 43 "TurfHeaps$Moor" "carts" "I" ∈ hpT := hpT_of 100 (by decide +kernel) (by decide +kernel)
theorem wd_104 : Cond.fieldLink "TurfHeaps$Moor" 46 "TurfHeaps$Moor" "acts" "I" ∈ hpT := hpT_of 104 (by decide +kernel) (by decide +kernel)
theorem wd_332 : Cond.fieldLink "TurfHeaps$Slot" 9 "TurfHeaps$Slot" "numbers" "[J" ∈ hpT := hpT_of 332 (by decide +kernel) (by decide +kernel)
theorem wd_334 : Cond.fieldLink "TurfHeaps$Slot" 15 "TurfHeaps$Slot" "has" "Z" ∈ hpT := hpT_of 334 (by decide +kernel) (by decide +kernel)
theorem wd_336 : Cond.fieldLink "TurfHeaps$Slot" 19 "TurfHeaps$Slot" "width" "I" ∈ hpT := hpT_of 336 (by decide +kernel) (by decide +kernel)
theorem wd_338 : Cond.fieldLink "TurfHeaps$Slot" 23 "TurfHeaps$Slot" "size" "I" ∈ hpT := hpT_of 338 (by decide +kernel) (by decide +kernel)
theorem wd_349 : Cond.fieldLink "TurfHeaps" 12 "TurfHeaps" "tape" "LTurfHeaps$Tape;" ∈ hpT := hpT_of 349 (by decide +kernel) (by decide +kernel)
theorem wd_350 : Cond.fieldLink "TurfHeaps" 19 "TurfHeaps" "moor" "LTurfHeaps$Moor;" ∈ hpT := hpT_of 350 (by decide +kernel) (by decide +kernel)
theorem wd_351 : Cond.fieldLink "TurfHeaps" 23 "TurfHeaps" "fresh" "LTurfHeaps$Moor;" ∈ hpT := hpT_of 351 (by decide +kernel) (by decide +kernel)
theorem wd_352 : Cond.fieldLink "TurfHeaps" 26 "TurfHeaps" "images" "[LTurfHeaps$Moor;" ∈ hpT := hpT_of 352 (by decide +kernel) (by decide +kernel)
theorem wd_353 : Cond.fieldLink "TurfHeaps" 32 "TurfHeaps" "slots" "[LTurfHeaps$Slot;" ∈ hpT := hpT_of 353 (by decide +kernel) (by decide +kernel)
theorem wd_362 : Cond.fieldLink "TurfHeaps" 414 "TurfHeaps" "passed" "Z" ∈ hpT := hpT_of 362 (by decide +kernel) (by decide +kernel)
theorem wd_363 : Cond.fieldLink "TurfHeaps" 417 "TurfHeaps" "worthsKnown" "Z" ∈ hpT := hpT_of 363 (by decide +kernel) (by decide +kernel)
theorem wd_364 : Cond.fieldLink "TurfHeaps" 81 "TurfHeaps" "roundDay" "I" ∈ hpT := hpT_of 364 (by decide +kernel) (by decide +kernel)
theorem wd_404 : Cond.instanceMethod (⟨"TurfHeaps$Tape", "put", "(I)V"⟩ : MethodName) ∈ hpT := hpT_of 404 (by decide +kernel) (by decide +kernel)
theorem wd_405 : Cond.code (⟨"TurfHeaps$Tape", "put", "(I)V"⟩ : MethodName) prog_9_method_2_code 3 (none : Option FieldType) ∈ hpT := hpT_of 405 (by decide +kernel) (by decide +kernel)
theorem wd_416 : Cond.instanceMethod (⟨"TurfHeaps$Tape", "readInto", "(LTurfHeaps$Moor;)Z"⟩ : MethodName) ∈ hpT := hpT_of 416 (by decide +kernel) (by decide +kernel)
theorem wd_417 : Cond.code (⟨"TurfHeaps$Tape", "readInto", "(LTurfHeaps$Moor;)Z"⟩ : MethodName) prog_9_method_3_code 3 (some FieldType.boolean) ∈ hpT := hpT_of 417 (by decide +kernel) (by decide +kernel)
theorem wd_420 : Cond.instanceMethod (⟨"TurfHeaps$Moor", "clear", "()V"⟩ : MethodName) ∈ hpT := hpT_of 420 (by decide +kernel) (by decide +kernel)
theorem wd_421 : Cond.code (⟨"TurfHeaps$Moor", "clear", "()V"⟩ : MethodName) prog_3_method_2_code 1 (none : Option FieldType) ∈ hpT := hpT_of 421 (by decide +kernel) (by decide +kernel)
theorem wd_422 : Cond.methodLink "TurfHeaps$Tape" 33 (⟨"TurfHeaps$Tape", "nextToken", "()V"⟩ : MethodName) ∈ hpT := hpT_of 422 (by decide +kernel) (by decide +kernel)
theorem wd_424 : Cond.instanceMethod (⟨"TurfHeaps$Tape", "nextToken", "()V"⟩ : MethodName) ∈ hpT := hpT_of 424 (by decide +kernel) (by decide +kernel)
theorem wd_425 : Cond.code (⟨"TurfHeaps$Tape", "nextToken", "()V"⟩ : MethodName) prog_9_method_11_code 2 (none : Option FieldType) ∈ hpT := hpT_of 425 (by decide +kernel) (by decide +kernel)
theorem wd_532 : Cond.instanceMethod (⟨"TurfHeaps$Moor", "become", "(LTurfHeaps$Moor;)V"⟩ : MethodName) ∈ hpT := hpT_of 532 (by decide +kernel) (by decide +kernel)
theorem wd_533 : Cond.code (⟨"TurfHeaps$Moor", "become", "(LTurfHeaps$Moor;)V"⟩ : MethodName) prog_3_method_3_code 2 (none : Option FieldType) ∈ hpT := hpT_of 533 (by decide +kernel) (by decide +kernel)
theorem wd_534 : Cond.methodLink "TurfHeaps$Moor" 49 (⟨"java/lang/System", "arraycopy", "(Ljava/lang/Object;ILjava/lang/Object;II)V"⟩ : MethodName) ∈ hpT := hpT_of 534 (by decide +kernel) (by decide +kernel)
theorem wd_535 : Cond.static (⟨"java/lang/System", "arraycopy", "(Ljava/lang/Object;ILjava/lang/Object;II)V"⟩ : MethodName) ∈ hpT := hpT_of 535 (by decide +kernel) (by decide +kernel)
theorem wd_536 : Cond.native (⟨"java/lang/System", "arraycopy", "(Ljava/lang/Object;ILjava/lang/Object;II)V"⟩ : MethodName) ∈ hpT := hpT_of 536 (by decide +kernel) (by decide +kernel)
theorem wd_537 : Cond.methodLink "TurfHeaps" 101 (⟨"TurfHeaps", "forget", "()V"⟩ : MethodName) ∈ hpT := hpT_of 537 (by decide +kernel) (by decide +kernel)
theorem wd_539 : Cond.instanceMethod (⟨"TurfHeaps", "forget", "()V"⟩ : MethodName) ∈ hpT := hpT_of 539 (by decide +kernel) (by decide +kernel)
theorem wd_540 : Cond.code (⟨"TurfHeaps", "forget", "()V"⟩ : MethodName) prog_1_method_84_code 1 (none : Option FieldType) ∈ hpT := hpT_of 540 (by decide +kernel) (by decide +kernel)
theorem wd_549 : Cond.methodLink "TurfHeaps" 113 (⟨"TurfHeaps", "isTold", "(I)Z"⟩ : MethodName) ∈ hpT := hpT_of 549 (by decide +kernel) (by decide +kernel)
theorem wd_551 : Cond.instanceMethod (⟨"TurfHeaps", "isTold", "(I)Z"⟩ : MethodName) ∈ hpT := hpT_of 551 (by decide +kernel) (by decide +kernel)
theorem wd_552 : Cond.code (⟨"TurfHeaps", "isTold", "(I)Z"⟩ : MethodName) prog_1_method_78_code 2 (some FieldType.boolean) ∈ hpT := hpT_of 552 (by decide +kernel) (by decide +kernel)
theorem wd_557 : Cond.methodLink "TurfHeaps" 120 (⟨"TurfHeaps", "isCart", "(I)Z"⟩ : MethodName) ∈ hpT := hpT_of 557 (by decide +kernel) (by decide +kernel)
theorem wd_559 : Cond.instanceMethod (⟨"TurfHeaps", "isCart", "(I)Z"⟩ : MethodName) ∈ hpT := hpT_of 559 (by decide +kernel) (by decide +kernel)
theorem wd_560 : Cond.code (⟨"TurfHeaps", "isCart", "(I)Z"⟩ : MethodName) prog_1_method_79_code 2 (some FieldType.boolean) ∈ hpT := hpT_of 560 (by decide +kernel) (by decide +kernel)
theorem wd_568 : Cond.methodLink "TurfHeaps" 132 (⟨"TurfHeaps", "isDay", "(I)Z"⟩ : MethodName) ∈ hpT := hpT_of 568 (by decide +kernel) (by decide +kernel)
theorem wd_570 : Cond.instanceMethod (⟨"TurfHeaps", "isDay", "(I)Z"⟩ : MethodName) ∈ hpT := hpT_of 570 (by decide +kernel) (by decide +kernel)
theorem wd_571 : Cond.code (⟨"TurfHeaps", "isDay", "(I)Z"⟩ : MethodName) prog_1_method_75_code 2 (some FieldType.boolean) ∈ hpT := hpT_of 571 (by decide +kernel) (by decide +kernel)
theorem wd_572 : Cond.methodLink "TurfHeaps" 177 (⟨"TurfHeaps", "noMoor", "()Z"⟩ : MethodName) ∈ hpT := hpT_of 572 (by decide +kernel) (by decide +kernel)
theorem wd_574 : Cond.instanceMethod (⟨"TurfHeaps", "noMoor", "()Z"⟩ : MethodName) ∈ hpT := hpT_of 574 (by decide +kernel) (by decide +kernel)
theorem wd_575 : Cond.code (⟨"TurfHeaps", "noMoor", "()Z"⟩ : MethodName) prog_1_method_74_code 1 (some FieldType.boolean) ∈ hpT := hpT_of 575 (by decide +kernel) (by decide +kernel)
theorem wd_683 : Cond.methodLink "TurfHeaps" 165 (⟨"TurfHeaps", "isDayAheadOfLast", "(I)Z"⟩ : MethodName) ∈ hpT := hpT_of 683 (by decide +kernel) (by decide +kernel)
theorem wd_685 : Cond.instanceMethod (⟨"TurfHeaps", "isDayAheadOfLast", "(I)Z"⟩ : MethodName) ∈ hpT := hpT_of 685 (by decide +kernel) (by decide +kernel)
theorem wd_686 : Cond.code (⟨"TurfHeaps", "isDayAheadOfLast", "(I)Z"⟩ : MethodName) prog_1_method_76_code 2 (some FieldType.boolean) ∈ hpT := hpT_of 686 (by decide +kernel) (by decide +kernel)
theorem wd_742 : Cond.methodLink "TurfHeaps" 200 (⟨"TurfHeaps", "asNumber", "(Z)I"⟩ : MethodName) ∈ hpT := hpT_of 742 (by decide +kernel) (by decide +kernel)
theorem wd_743 : Cond.static (⟨"TurfHeaps", "asNumber", "(Z)I"⟩ : MethodName) ∈ hpT := hpT_of 743 (by decide +kernel) (by decide +kernel)
theorem wd_744 : Cond.code (⟨"TurfHeaps", "asNumber", "(Z)I"⟩ : MethodName) prog_1_method_83_code 1 (some FieldType.int) ∈ hpT := hpT_of 744 (by decide +kernel) (by decide +kernel)
theorem wd_836 : Cond.methodLink "TurfHeaps" 239 (⟨"TurfHeaps", "isOfAll", "(I)Z"⟩ : MethodName) ∈ hpT := hpT_of 836 (by decide +kernel) (by decide +kernel)
theorem wd_838 : Cond.instanceMethod (⟨"TurfHeaps", "isOfAll", "(I)Z"⟩ : MethodName) ∈ hpT := hpT_of 838 (by decide +kernel) (by decide +kernel)
theorem wd_839 : Cond.code (⟨"TurfHeaps", "isOfAll", "(I)Z"⟩ : MethodName) prog_1_method_80_code 2 (some FieldType.boolean) ∈ hpT := hpT_of 839 (by decide +kernel) (by decide +kernel)
theorem wd_916 : Cond.methodLink "TurfHeaps" 259 (⟨"TurfHeaps", "smallRowFault", "(I)I"⟩ : MethodName) ∈ hpT := hpT_of 916 (by decide +kernel) (by decide +kernel)
theorem wd_918 : Cond.instanceMethod (⟨"TurfHeaps", "smallRowFault", "(I)I"⟩ : MethodName) ∈ hpT := hpT_of 918 (by decide +kernel) (by decide +kernel)
theorem wd_919 : Cond.code (⟨"TurfHeaps", "smallRowFault", "(I)I"⟩ : MethodName) prog_1_method_111_code 2 (some FieldType.int) ∈ hpT := hpT_of 919 (by decide +kernel) (by decide +kernel)
theorem wd_920 : Cond.methodLink "TurfHeaps" 382 (⟨"TurfHeaps", "isSlot", "(I)Z"⟩ : MethodName) ∈ hpT := hpT_of 920 (by decide +kernel) (by decide +kernel)
theorem wd_921 : Cond.static (⟨"TurfHeaps", "isSlot", "(I)Z"⟩ : MethodName) ∈ hpT := hpT_of 921 (by decide +kernel) (by decide +kernel)
theorem wd_922 : Cond.code (⟨"TurfHeaps", "isSlot", "(I)Z"⟩ : MethodName) prog_1_method_81_code 1 (some FieldType.boolean) ∈ hpT := hpT_of 922 (by decide +kernel) (by decide +kernel)
theorem wd_977 : Cond.methodLink "TurfHeaps" 284 (⟨"TurfHeaps", "seenFault", "(IZ)I"⟩ : MethodName) ∈ hpT := hpT_of 977 (by decide +kernel) (by decide +kernel)
theorem wd_979 : Cond.instanceMethod (⟨"TurfHeaps", "seenFault", "(IZ)I"⟩ : MethodName) ∈ hpT := hpT_of 979 (by decide +kernel) (by decide +kernel)
theorem wd_980 : Cond.code (⟨"TurfHeaps", "seenFault", "(IZ)I"⟩ : MethodName) prog_1_method_112_code 3 (some FieldType.int) ∈ hpT := hpT_of 980 (by decide +kernel) (by decide +kernel)
theorem wd_1135 : Cond.methodLink "TurfHeaps" 342 (⟨"TurfHeaps", "isChanceDay", "(I)Z"⟩ : MethodName) ∈ hpT := hpT_of 1135 (by decide +kernel) (by decide +kernel)
theorem wd_1137 : Cond.instanceMethod (⟨"TurfHeaps", "isChanceDay", "(I)Z"⟩ : MethodName) ∈ hpT := hpT_of 1137 (by decide +kernel) (by decide +kernel)
theorem wd_1138 : Cond.code (⟨"TurfHeaps", "isChanceDay", "(I)Z"⟩ : MethodName) prog_1_method_77_code 2 (some FieldType.boolean) ∈ hpT := hpT_of 1138 (by decide +kernel) (by decide +kernel)
theorem wd_1139 : Cond.constantLong "TurfHeaps" 345 (-2 : Int64) ∈ hpT := hpT_of 1139 (by decide +kernel) (by decide +kernel)
theorem wd_1190 : Cond.constant "TurfHeaps" 361 (2000000000 : Int32) ∈ hpT := hpT_of 1190 (by decide +kernel) (by decide +kernel)
theorem wd_1215 : Cond.methodLink "TurfHeaps" 375 (⟨"TurfHeaps", "slotsWithRow", "()I"⟩ : MethodName) ∈ hpT := hpT_of 1215 (by decide +kernel) (by decide +kernel)
theorem wd_1217 : Cond.instanceMethod (⟨"TurfHeaps", "slotsWithRow", "()I"⟩ : MethodName) ∈ hpT := hpT_of 1217 (by decide +kernel) (by decide +kernel)
theorem wd_1218 : Cond.code (⟨"TurfHeaps", "slotsWithRow", "()I"⟩ : MethodName) prog_1_method_109_code 3 (some FieldType.int) ∈ hpT := hpT_of 1218 (by decide +kernel) (by decide +kernel)
theorem wd_1233 : Cond.instanceMethod (⟨"TurfHeaps$Slot", "lay", "(II)V"⟩ : MethodName) ∈ hpT := hpT_of 1233 (by decide +kernel) (by decide +kernel)
theorem wd_1234 : Cond.code (⟨"TurfHeaps$Slot", "lay", "(II)V"⟩ : MethodName) prog_8_method_2_code 4 (none : Option FieldType) ∈ hpT := hpT_of 1234 (by decide +kernel) (by decide +kernel)
theorem wd_1257 : Cond.fieldLink "TurfHeapsModel" 9 "TurfHeapsModel" "world" "[I" ∈ hpT := hpT_of 1257 (by decide +kernel) (by decide +kernel)
theorem wd_1258 : Cond.fieldLink "TurfHeapsModel" 13 "TurfHeapsModel" "images" "[I" ∈ hpT := hpT_of 1258 (by decide +kernel) (by decide +kernel)
theorem wd_1259 : Cond.fieldLink "TurfHeapsModel" 16 "TurfHeapsModel" "hasImage" "[Z" ∈ hpT := hpT_of 1259 (by decide +kernel) (by decide +kernel)
theorem wd_1260 : Cond.fieldLink "TurfHeapsModel" 20 "TurfHeapsModel" "tape" "[B" ∈ hpT := hpT_of 1260 (by decide +kernel) (by decide +kernel)
theorem wd_1261 : Cond.fieldLink "TurfHeapsModel" 100 "TurfHeapsModel" "taped" "I" ∈ hpT := hpT_of 1261 (by decide +kernel) (by decide +kernel)
theorem wd_1262 : Cond.fieldLink "TurfHeapsModel" 24 "TurfHeapsModel" "five" "[I" ∈ hpT := hpT_of 1262 (by decide +kernel) (by decide +kernel)
theorem wd_1263 : Cond.fieldLink "TurfHeapsModel" 103 "TurfHeapsModel" "size" "I" ∈ hpT := hpT_of 1263 (by decide +kernel) (by decide +kernel)
theorem wd_1264 : Cond.fieldLink "TurfHeapsModel" 106 "TurfHeapsModel" "at" "I" ∈ hpT := hpT_of 1264 (by decide +kernel) (by decide +kernel)
theorem wd_1265 : Cond.fieldLink "TurfHeapsModel" 113 "TurfHeapsModel" "from" "I" ∈ hpT := hpT_of 1265 (by decide +kernel) (by decide +kernel)
theorem wd_1266 : Cond.fieldLink "TurfHeapsModel" 116 "TurfHeapsModel" "token" "I" ∈ hpT := hpT_of 1266 (by decide +kernel) (by decide +kernel)
theorem wd_1268 : Cond.fieldLink "TurfHeapsModel" 137 "TurfHeapsModel" "faultKind" "I" ∈ hpT := hpT_of 1268 (by decide +kernel) (by decide +kernel)
theorem wd_1269 : Cond.fieldLink "TurfHeapsModel" 27 "TurfHeapsModel" "faultPlace" "I" ∈ hpT := hpT_of 1269 (by decide +kernel) (by decide +kernel)
theorem wd_1270 : Cond.fieldLink "TurfHeapsModel" 31 "TurfHeapsModel" "fresh" "[I" ∈ hpT := hpT_of 1270 (by decide +kernel) (by decide +kernel)
theorem wd_1271 : Cond.fieldLink "TurfHeapsModel" 34 "TurfHeapsModel" "store" "[I" ∈ hpT := hpT_of 1271 (by decide +kernel) (by decide +kernel)
theorem wd_1272 : Cond.fieldLink "TurfHeapsModel" 213 "TurfHeapsModel" "lawNow" "I" ∈ hpT := hpT_of 1272 (by decide +kernel) (by decide +kernel)
theorem wd_1275 : Cond.fieldLink "TurfHeapsModel" 37 "TurfHeapsModel" "heapNow" "[I" ∈ hpT := hpT_of 1275 (by decide +kernel) (by decide +kernel)
theorem wd_1276 : Cond.fieldLink "TurfHeapsModel" 40 "TurfHeapsModel" "cartDay" "[I" ∈ hpT := hpT_of 1276 (by decide +kernel) (by decide +kernel)
theorem wd_1277 : Cond.fieldLink "TurfHeapsModel" 235 "TurfHeapsModel" "wetSet" "I" ∈ hpT := hpT_of 1277 (by decide +kernel) (by decide +kernel)
theorem wd_1278 : Cond.fieldLink "TurfHeapsModel" 238 "TurfHeapsModel" "comeSet" "I" ∈ hpT := hpT_of 1278 (by decide +kernel) (by decide +kernel)
theorem wd_1279 : Cond.fieldLink "TurfHeapsModel" 241 "TurfHeapsModel" "moreDay" "I" ∈ hpT := hpT_of 1279 (by decide +kernel) (by decide +kernel)
theorem wd_1298 : Cond.fieldLink "TurfHeapsModel" 67 "TurfHeapsModel" "many" "[I" ∈ hpT := hpT_of 1298 (by decide +kernel) (by decide +kernel)
theorem wd_1299 : Cond.fieldLink "TurfHeapsModel" 70 "TurfHeapsModel" "width" "[I" ∈ hpT := hpT_of 1299 (by decide +kernel) (by decide +kernel)
theorem wd_1300 : Cond.fieldLink "TurfHeapsModel" 73 "TurfHeapsModel" "numbers" "[J" ∈ hpT := hpT_of 1300 (by decide +kernel) (by decide +kernel)
theorem wd_1400 : Cond.constantLong "TurfHeapsModel" 83 (2 : Int64) ∈ hpT := hpT_of 1400 (by decide +kernel) (by decide +kernel)
theorem wd_1401 : Cond.methodLink "TurfHeapsModel" 85 (⟨"TurfHeapsModel", "in", "(JJJ)Z"⟩ : MethodName) ∈ hpT := hpT_of 1401 (by decide +kernel) (by decide +kernel)
theorem wd_1402 : Cond.static (⟨"TurfHeapsModel", "in", "(JJJ)Z"⟩ : MethodName) ∈ hpT := hpT_of 1402 (by decide +kernel) (by decide +kernel)
theorem wd_1403 : Cond.code (⟨"TurfHeapsModel", "in", "(JJJ)Z"⟩ : MethodName) prog_11_method_3_code 6 (some FieldType.boolean) ∈ hpT := hpT_of 1403 (by decide +kernel) (by decide +kernel)
theorem wd_1424 : Cond.methodLink "TurfHeapsModel" 156 (⟨"TurfHeapsModel", "advance", "()V"⟩ : MethodName) ∈ hpT := hpT_of 1424 (by decide +kernel) (by decide +kernel)
theorem wd_1426 : Cond.instanceMethod (⟨"TurfHeapsModel", "advance", "()V"⟩ : MethodName) ∈ hpT := hpT_of 1426 (by decide +kernel) (by decide +kernel)
theorem wd_1427 : Cond.code (⟨"TurfHeapsModel", "advance", "()V"⟩ : MethodName) prog_11_method_18_code 2 (none : Option FieldType) ∈ hpT := hpT_of 1427 (by decide +kernel) (by decide +kernel)
theorem wd_1428 : Cond.methodLink "TurfHeapsModel" 109 (⟨"TurfHeapsModel", "see", "(I)I"⟩ : MethodName) ∈ hpT := hpT_of 1428 (by decide +kernel) (by decide +kernel)
theorem wd_1430 : Cond.instanceMethod (⟨"TurfHeapsModel", "see", "(I)I"⟩ : MethodName) ∈ hpT := hpT_of 1430 (by decide +kernel) (by decide +kernel)
theorem wd_1431 : Cond.code (⟨"TurfHeapsModel", "see", "(I)I"⟩ : MethodName) prog_11_method_17_code 2 (some FieldType.int) ∈ hpT := hpT_of 1431 (by decide +kernel) (by decide +kernel)
theorem wd_1438 : Cond.methodLink "TurfHeapsModel" 140 (⟨"TurfHeapsModel", "good", "()Z"⟩ : MethodName) ∈ hpT := hpT_of 1438 (by decide +kernel) (by decide +kernel)
theorem wd_1440 : Cond.instanceMethod (⟨"TurfHeapsModel", "good", "()Z"⟩ : MethodName) ∈ hpT := hpT_of 1440 (by decide +kernel) (by decide +kernel)
theorem wd_1441 : Cond.code (⟨"TurfHeapsModel", "good", "()Z"⟩ : MethodName) prog_11_method_19_code 1 (some FieldType.boolean) ∈ hpT := hpT_of 1441 (by decide +kernel) (by decide +kernel)
theorem wd_1492 : Cond.methodLink "TurfHeapsModel" 200 (⟨"TurfHeapsModel", "isHeap", "(I)Z"⟩ : MethodName) ∈ hpT := hpT_of 1492 (by decide +kernel) (by decide +kernel)
theorem wd_1494 : Cond.instanceMethod (⟨"TurfHeapsModel", "isHeap", "(I)Z"⟩ : MethodName) ∈ hpT := hpT_of 1494 (by decide +kernel) (by decide +kernel)
theorem wd_1495 : Cond.code (⟨"TurfHeapsModel", "isHeap", "(I)Z"⟩ : MethodName) prog_11_method_13_code 2 (some FieldType.boolean) ∈ hpT := hpT_of 1495 (by decide +kernel) (by decide +kernel)
theorem wd_1500 : Cond.methodLink "TurfHeapsModel" 204 (⟨"TurfHeapsModel", "isCart", "(I)Z"⟩ : MethodName) ∈ hpT := hpT_of 1500 (by decide +kernel) (by decide +kernel)
theorem wd_1502 : Cond.instanceMethod (⟨"TurfHeapsModel", "isCart", "(I)Z"⟩ : MethodName) ∈ hpT := hpT_of 1502 (by decide +kernel) (by decide +kernel)
theorem wd_1503 : Cond.code (⟨"TurfHeapsModel", "isCart", "(I)Z"⟩ : MethodName) prog_11_method_14_code 2 (some FieldType.boolean) ∈ hpT := hpT_of 1503 (by decide +kernel) (by decide +kernel)
theorem wd_1504 : Cond.methodLink "TurfHeapsModel" 97 (⟨"TurfHeapsModel", "cartMany", "()I"⟩ : MethodName) ∈ hpT := hpT_of 1504 (by decide +kernel) (by decide +kernel)
theorem wd_1506 : Cond.instanceMethod (⟨"TurfHeapsModel", "cartMany", "()I"⟩ : MethodName) ∈ hpT := hpT_of 1506 (by decide +kernel) (by decide +kernel)
theorem wd_1507 : Cond.code (⟨"TurfHeapsModel", "cartMany", "()I"⟩ : MethodName) prog_11_method_10_code 1 (some FieldType.int) ∈ hpT := hpT_of 1507 (by decide +kernel) (by decide +kernel)
theorem wd_1512 : Cond.methodLink "TurfHeapsModel" 272 (⟨"TurfHeapsModel", "asksDay", "(I)Z"⟩ : MethodName) ∈ hpT := hpT_of 1512 (by decide +kernel) (by decide +kernel)
theorem wd_1514 : Cond.instanceMethod (⟨"TurfHeapsModel", "asksDay", "(I)Z"⟩ : MethodName) ∈ hpT := hpT_of 1514 (by decide +kernel) (by decide +kernel)
theorem wd_1515 : Cond.code (⟨"TurfHeapsModel", "asksDay", "(I)Z"⟩ : MethodName) prog_11_method_49_code 2 (some FieldType.boolean) ∈ hpT := hpT_of 1515 (by decide +kernel) (by decide +kernel)
theorem wd_1516 : Cond.methodLink "TurfHeapsModel" 265 (⟨"TurfHeapsModel", "asksMoor", "()Z"⟩ : MethodName) ∈ hpT := hpT_of 1516 (by decide +kernel) (by decide +kernel)
theorem wd_1518 : Cond.instanceMethod (⟨"TurfHeapsModel", "asksMoor", "()Z"⟩ : MethodName) ∈ hpT := hpT_of 1518 (by decide +kernel) (by decide +kernel)
theorem wd_1519 : Cond.code (⟨"TurfHeapsModel", "asksMoor", "()Z"⟩ : MethodName) prog_11_method_48_code 1 (some FieldType.boolean) ∈ hpT := hpT_of 1519 (by decide +kernel) (by decide +kernel)
theorem wd_1520 : Cond.methodLink "TurfHeapsModel" 259 (⟨"TurfHeapsModel", "asItIs", "()V"⟩ : MethodName) ∈ hpT := hpT_of 1520 (by decide +kernel) (by decide +kernel)
theorem wd_1522 : Cond.instanceMethod (⟨"TurfHeapsModel", "asItIs", "()V"⟩ : MethodName) ∈ hpT := hpT_of 1522 (by decide +kernel) (by decide +kernel)
theorem wd_1523 : Cond.code (⟨"TurfHeapsModel", "asItIs", "()V"⟩ : MethodName) prog_11_method_45_code 2 (none : Option FieldType) ∈ hpT := hpT_of 1523 (by decide +kernel) (by decide +kernel)
theorem wd_1524 : Cond.methodLink "TurfHeapsModel" 262 (⟨"TurfHeapsModel", "goAll", "()V"⟩ : MethodName) ∈ hpT := hpT_of 1524 (by decide +kernel) (by decide +kernel)
theorem wd_1526 : Cond.instanceMethod (⟨"TurfHeapsModel", "goAll", "()V"⟩ : MethodName) ∈ hpT := hpT_of 1526 (by decide +kernel) (by decide +kernel)
theorem wd_1527 : Cond.code (⟨"TurfHeapsModel", "goAll", "()V"⟩ : MethodName) prog_11_method_47_code 2 (none : Option FieldType) ∈ hpT := hpT_of 1527 (by decide +kernel) (by decide +kernel)
theorem wd_1528 : Cond.methodLink "TurfHeapsModel" 229 (⟨"TurfHeapsModel", "empty", "(I)V"⟩ : MethodName) ∈ hpT := hpT_of 1528 (by decide +kernel) (by decide +kernel)
theorem wd_1530 : Cond.instanceMethod (⟨"TurfHeapsModel", "empty", "(I)V"⟩ : MethodName) ∈ hpT := hpT_of 1530 (by decide +kernel) (by decide +kernel)
theorem wd_1531 : Cond.code (⟨"TurfHeapsModel", "empty", "(I)V"⟩ : MethodName) prog_11_method_35_code 2 (none : Option FieldType) ∈ hpT := hpT_of 1531 (by decide +kernel) (by decide +kernel)
theorem wd_1536 : Cond.methodLink "TurfHeapsModel" 207 (⟨"TurfHeapsModel", "manyOf", "(I)I"⟩ : MethodName) ∈ hpT := hpT_of 1536 (by decide +kernel) (by decide +kernel)
theorem wd_1538 : Cond.instanceMethod (⟨"TurfHeapsModel", "manyOf", "(I)I"⟩ : MethodName) ∈ hpT := hpT_of 1538 (by decide +kernel) (by decide +kernel)
theorem wd_1539 : Cond.code (⟨"TurfHeapsModel", "manyOf", "(I)I"⟩ : MethodName) prog_11_method_33_code 2 (some FieldType.int) ∈ hpT := hpT_of 1539 (by decide +kernel) (by decide +kernel)
theorem wd_1544 : Cond.methodLink "TurfHeapsModel" 93 (⟨"TurfHeapsModel", "days", "()I"⟩ : MethodName) ∈ hpT := hpT_of 1544 (by decide +kernel) (by decide +kernel)
theorem wd_1546 : Cond.instanceMethod (⟨"TurfHeapsModel", "days", "()I"⟩ : MethodName) ∈ hpT := hpT_of 1546 (by decide +kernel) (by decide +kernel)
theorem wd_1547 : Cond.code (⟨"TurfHeapsModel", "days", "()I"⟩ : MethodName) prog_11_method_9_code 1 (some FieldType.int) ∈ hpT := hpT_of 1547 (by decide +kernel) (by decide +kernel)
theorem wd_1548 : Cond.methodLink "TurfHeapsModel" 253 (⟨"TurfHeapsModel", "beginDay", "(I)V"⟩ : MethodName) ∈ hpT := hpT_of 1548 (by decide +kernel) (by decide +kernel)
theorem wd_1550 : Cond.instanceMethod (⟨"TurfHeapsModel", "beginDay", "(I)V"⟩ : MethodName) ∈ hpT := hpT_of 1550 (by decide +kernel) (by decide +kernel)
theorem wd_1551 : Cond.code (⟨"TurfHeapsModel", "beginDay", "(I)V"⟩ : MethodName) prog_11_method_46_code 3 (none : Option FieldType) ∈ hpT := hpT_of 1551 (by decide +kernel) (by decide +kernel)
theorem wd_1559 : Cond.methodLink "TurfHeapsModel" 225 (⟨"TurfHeapsModel", "copyRow", "(II)V"⟩ : MethodName) ∈ hpT := hpT_of 1559 (by decide +kernel) (by decide +kernel)
theorem wd_1561 : Cond.instanceMethod (⟨"TurfHeapsModel", "copyRow", "(II)V"⟩ : MethodName) ∈ hpT := hpT_of 1561 (by decide +kernel) (by decide +kernel)
theorem wd_1562 : Cond.code (⟨"TurfHeapsModel", "copyRow", "(II)V"⟩ : MethodName) prog_11_method_36_code 4 (none : Option FieldType) ∈ hpT := hpT_of 1562 (by decide +kernel) (by decide +kernel)
theorem wd_1571 : Cond.methodLink "TurfHeapsModel" 89 (⟨"TurfHeapsModel", "isMoor", "()Z"⟩ : MethodName) ∈ hpT := hpT_of 1571 (by decide +kernel) (by decide +kernel)
theorem wd_1573 : Cond.instanceMethod (⟨"TurfHeapsModel", "isMoor", "()Z"⟩ : MethodName) ∈ hpT := hpT_of 1573 (by decide +kernel) (by decide +kernel)
theorem wd_1574 : Cond.code (⟨"TurfHeapsModel", "isMoor", "()Z"⟩ : MethodName) prog_11_method_8_code 1 (some FieldType.boolean) ∈ hpT := hpT_of 1574 (by decide +kernel) (by decide +kernel)
theorem wd_1575 : Cond.methodLink "TurfHeapsModel" 268 (⟨"TurfHeapsModel", "isDay", "(J)Z"⟩ : MethodName) ∈ hpT := hpT_of 1575 (by decide +kernel) (by decide +kernel)
theorem wd_1577 : Cond.instanceMethod (⟨"TurfHeapsModel", "isDay", "(J)Z"⟩ : MethodName) ∈ hpT := hpT_of 1577 (by decide +kernel) (by decide +kernel)
theorem wd_1578 : Cond.code (⟨"TurfHeapsModel", "isDay", "(J)Z"⟩ : MethodName) prog_11_method_11_code 3 (some FieldType.boolean) ∈ hpT := hpT_of 1578 (by decide +kernel) (by decide +kernel)
theorem wd_1612 : Cond.methodLink "TurfHeapsModel" 280 (⟨"TurfHeapsModel", "isAhead", "(J)Z"⟩ : MethodName) ∈ hpT := hpT_of 1612 (by decide +kernel) (by decide +kernel)
theorem wd_1614 : Cond.instanceMethod (⟨"TurfHeapsModel", "isAhead", "(J)Z"⟩ : MethodName) ∈ hpT := hpT_of 1614 (by decide +kernel) (by decide +kernel)
theorem wd_1615 : Cond.code (⟨"TurfHeapsModel", "isAhead", "(J)Z"⟩ : MethodName) prog_11_method_12_code 3 (some FieldType.boolean) ∈ hpT := hpT_of 1615 (by decide +kernel) (by decide +kernel)
theorem wd_1718 : Cond.methodLink "TurfHeapsModel" 342 (⟨"TurfHeapsModel", "asksAll", "(I)Z"⟩ : MethodName) ∈ hpT := hpT_of 1718 (by decide +kernel) (by decide +kernel)
theorem wd_1720 : Cond.instanceMethod (⟨"TurfHeapsModel", "asksAll", "(I)Z"⟩ : MethodName) ∈ hpT := hpT_of 1720 (by decide +kernel) (by decide +kernel)
theorem wd_1721 : Cond.code (⟨"TurfHeapsModel", "asksAll", "(I)Z"⟩ : MethodName) prog_11_method_88_code 2 (some FieldType.boolean) ∈ hpT := hpT_of 1721 (by decide +kernel) (by decide +kernel)
theorem wd_1775 : Cond.methodLink "TurfHeapsModel" 358 (⟨"TurfHeapsModel", "askRow", "(I)I"⟩ : MethodName) ∈ hpT := hpT_of 1775 (by decide +kernel) (by decide +kernel)
theorem wd_1777 : Cond.instanceMethod (⟨"TurfHeapsModel", "askRow", "(I)I"⟩ : MethodName) ∈ hpT := hpT_of 1777 (by decide +kernel) (by decide +kernel)
theorem wd_1778 : Cond.code (⟨"TurfHeapsModel", "askRow", "(I)I"⟩ : MethodName) prog_11_method_95_code 6 (some FieldType.int) ∈ hpT := hpT_of 1778 (by decide +kernel) (by decide +kernel)
theorem wd_1779 : Cond.methodLink "TurfHeapsModel" 348 (⟨"TurfHeapsModel", "isSlot", "(I)Z"⟩ : MethodName) ∈ hpT := hpT_of 1779 (by decide +kernel) (by decide +kernel)
theorem wd_1780 : Cond.static (⟨"TurfHeapsModel", "isSlot", "(I)Z"⟩ : MethodName) ∈ hpT := hpT_of 1780 (by decide +kernel) (by decide +kernel)
theorem wd_1781 : Cond.code (⟨"TurfHeapsModel", "isSlot", "(I)Z"⟩ : MethodName) prog_11_method_149_code 1 (some FieldType.boolean) ∈ hpT := hpT_of 1781 (by decide +kernel) (by decide +kernel)
theorem wd_1782 : Cond.constantLong "TurfHeapsModel" 390 (3 : Int64) ∈ hpT := hpT_of 1782 (by decide +kernel) (by decide +kernel)
theorem wd_1820 : Cond.methodLink "TurfHeapsModel" 378 (⟨"TurfHeapsModel", "layFits", "(II)I"⟩ : MethodName) ∈ hpT := hpT_of 1820 (by decide +kernel) (by decide +kernel)
theorem wd_1822 : Cond.instanceMethod (⟨"TurfHeapsModel", "layFits", "(II)I"⟩ : MethodName) ∈ hpT := hpT_of 1822 (by decide +kernel) (by decide +kernel)
theorem wd_1823 : Cond.code (⟨"TurfHeapsModel", "layFits", "(II)I"⟩ : MethodName) prog_11_method_105_code 6 (some FieldType.int) ∈ hpT := hpT_of 1823 (by decide +kernel) (by decide +kernel)
theorem wd_1824 : Cond.methodLink "TurfHeapsModel" 369 (⟨"TurfHeapsModel", "askSeen", "(I)I"⟩ : MethodName) ∈ hpT := hpT_of 1824 (by decide +kernel) (by decide +kernel)
theorem wd_1826 : Cond.instanceMethod (⟨"TurfHeapsModel", "askSeen", "(I)I"⟩ : MethodName) ∈ hpT := hpT_of 1826 (by decide +kernel) (by decide +kernel)
theorem wd_1827 : Cond.code (⟨"TurfHeapsModel", "askSeen", "(I)I"⟩ : MethodName) prog_11_method_103_code 3 (some FieldType.int) ∈ hpT := hpT_of 1827 (by decide +kernel) (by decide +kernel)
theorem wd_1901 : Cond.methodLink "TurfHeapsModel" 416 (⟨"TurfHeapsModel", "asksTaking", "(II)Z"⟩ : MethodName) ∈ hpT := hpT_of 1901 (by decide +kernel) (by decide +kernel)
theorem wd_1903 : Cond.instanceMethod (⟨"TurfHeapsModel", "asksTaking", "(II)Z"⟩ : MethodName) ∈ hpT := hpT_of 1903 (by decide +kernel) (by decide +kernel)
theorem wd_1904 : Cond.code (⟨"TurfHeapsModel", "asksTaking", "(II)Z"⟩ : MethodName) prog_11_method_124_code 3 (some FieldType.boolean) ∈ hpT := hpT_of 1904 (by decide +kernel) (by decide +kernel)
theorem wd_1929 : Cond.methodLink "TurfHeapsModel" 429 (⟨"TurfHeapsModel", "areTwo", "(II)Z"⟩ : MethodName) ∈ hpT := hpT_of 1929 (by decide +kernel) (by decide +kernel)
theorem wd_1931 : Cond.instanceMethod (⟨"TurfHeapsModel", "areTwo", "(II)Z"⟩ : MethodName) ∈ hpT := hpT_of 1931 (by decide +kernel) (by decide +kernel)
theorem wd_1932 : Cond.code (⟨"TurfHeapsModel", "areTwo", "(II)Z"⟩ : MethodName) prog_11_method_131_code 3 (some FieldType.boolean) ∈ hpT := hpT_of 1932 (by decide +kernel) (by decide +kernel)
theorem wd_1945 : Cond.methodLink "TurfHeapsModel" 446 (⟨"TurfHeapsModel", "isWet", "(II)Z"⟩ : MethodName) ∈ hpT := hpT_of 1945 (by decide +kernel) (by decide +kernel)
theorem wd_1947 : Cond.instanceMethod (⟨"TurfHeapsModel", "isWet", "(II)Z"⟩ : MethodName) ∈ hpT := hpT_of 1947 (by decide +kernel) (by decide +kernel)
theorem wd_1948 : Cond.code (⟨"TurfHeapsModel", "isWet", "(II)Z"⟩ : MethodName) prog_11_method_135_code 3 (some FieldType.boolean) ∈ hpT := hpT_of 1948 (by decide +kernel) (by decide +kernel)
theorem wd_1949 : Cond.constantLong "TurfHeapsModel" 449 (-2 : Int64) ∈ hpT := hpT_of 1949 (by decide +kernel) (by decide +kernel)
theorem wd_1962 : Cond.constantLong "TurfHeapsModel" 454 (20 : Int64) ∈ hpT := hpT_of 1962 (by decide +kernel) (by decide +kernel)
theorem wd_2008 : Cond.constantLong "TurfHeapsModel" 478 (6 : Int64) ∈ hpT := hpT_of 2008 (by decide +kernel) (by decide +kernel)
theorem nw_33 {s : State} (h : hpN s) : va_Nw (Cond.fieldLinkNest "TurfHeaps" 86 "TurfHeaps$Tape" "size" "I" "TurfHeaps") s := hpN_of 33 (by decide +kernel) (by decide +kernel) h
theorem nw_36 {s : State} (h : hpN s) : va_Nw (Cond.fieldLinkNest "TurfHeaps" 107 "TurfHeaps$Tape" "fault" "I" "TurfHeaps") s := hpN_of 36 (by decide +kernel) (by decide +kernel) h
theorem nw_38 {s : State} (h : hpN s) : va_Nw (Cond.fieldLinkNest "TurfHeaps" 110 "TurfHeaps$Tape" "faultPlace" "I" "TurfHeaps") s := hpN_of 38 (by decide +kernel) (by decide +kernel) h
theorem nw_85 {s : State} (h : hpN s) : va_Nw (Cond.fieldLinkNest "TurfHeaps" 181 "TurfHeaps$Moor" "days" "I" "TurfHeaps") s := hpN_of 85 (by decide +kernel) (by decide +kernel) h
theorem nw_89 {s : State} (h : hpN s) : va_Nw (Cond.fieldLinkNest "TurfHeaps" 168 "TurfHeaps$Moor" "law" "I" "TurfHeaps") s := hpN_of 89 (by decide +kernel) (by decide +kernel) h
theorem nw_92 {s : State} (h : hpN s) : va_Nw (Cond.fieldLinkNest "TurfHeaps" 369 "TurfHeaps$Moor" "odds" "I" "TurfHeaps") s := hpN_of 92 (by decide +kernel) (by decide +kernel) h
theorem nw_95 {s : State} (h : hpN s) : va_Nw (Cond.fieldLinkNest "TurfHeaps" 104 "TurfHeaps$Moor" "lines" "I" "TurfHeaps") s := hpN_of 95 (by decide +kernel) (by decide +kernel) h
theorem nw_99 {s : State} (h : hpN s) : va_Nw (Cond.fieldLinkNest "TurfHeaps" 372 "TurfHeaps$Moor" "heapsTold" "I" "TurfHeaps") s := hpN_of 99 (by decide +kernel) (by decide +kernel) h
theorem nw_103 {s : State} (h : hpN s) : va_Nw (Cond.fieldLinkNest "TurfHeaps" 278 "TurfHeaps$Moor" "carts" "I" "TurfHeaps") s := hpN_of 103 (by decide +kernel) (by decide +kernel) h
theorem nw_106 {s : State} (h : hpN s) : va_Nw (Cond.fieldLinkNest "TurfHeaps" 358 "TurfHeaps$Moor" "acts" "I" "TurfHeaps") s := hpN_of 106 (by decide +kernel) (by decide +kernel) h
theorem nw_107 {s : State} (h : hpN s) : va_Nw (Cond.fieldLinkNest "TurfHeaps" 378 "TurfHeaps$Moor" "kept" "Z" "TurfHeaps") s := hpN_of 107 (by decide +kernel) (by decide +kernel) h
theorem nw_335 {s : State} (h : hpN s) : va_Nw (Cond.fieldLinkNest "TurfHeaps" 389 "TurfHeaps$Slot" "has" "Z" "TurfHeaps") s := hpN_of 335 (by decide +kernel) (by decide +kernel) h
theorem nw_402 {s : State} (h : hpN s) : va_Nw (Cond.methodLinkNest "TurfHeaps" 89 (⟨"TurfHeaps$Tape", "put", "(I)V"⟩ : MethodName) "TurfHeaps") s := hpN_of 402 (by decide +kernel) (by decide +kernel) h
theorem nw_414 {s : State} (h : hpN s) : va_Nw (Cond.methodLinkNest "TurfHeaps" 93 (⟨"TurfHeaps$Tape", "readInto", "(LTurfHeaps$Moor;)Z"⟩ : MethodName) "TurfHeaps") s := hpN_of 414 (by decide +kernel) (by decide +kernel) h
theorem nw_418 {s : State} (h : hpN s) : va_Nw (Cond.methodLinkNest "TurfHeaps$Tape" 22 (⟨"TurfHeaps$Moor", "clear", "()V"⟩ : MethodName) "TurfHeaps") s := hpN_of 418 (by decide +kernel) (by decide +kernel) h
theorem nw_530 {s : State} (h : hpN s) : va_Nw (Cond.methodLinkNest "TurfHeaps" 97 (⟨"TurfHeaps$Moor", "become", "(LTurfHeaps$Moor;)V"⟩ : MethodName) "TurfHeaps") s := hpN_of 530 (by decide +kernel) (by decide +kernel) h
theorem nw_1231 {s : State} (h : hpN s) : va_Nw (Cond.methodLinkNest "TurfHeaps" 385 (⟨"TurfHeaps$Slot", "lay", "(II)V"⟩ : MethodName) "TurfHeaps") s := hpN_of 1231 (by decide +kernel) (by decide +kernel) h
theorem yyX1_become : hpY yX1_become cX1_become 2 none 1 1 := ⟨⟨TX1, 13, tyX1, O1⟩, wd_532, (hpT_sel (q := (⟨"TurfHeaps$Moor", "become", "(LTurfHeaps$Moor;)V"⟩, 13)) 13 (by decide +kernel)), wd_3, wd_533, by decide +kernel, by decide +kernel, by decide +kernel⟩
theorem yyX1_clear : hpY yX1_clear cX1_clear 1 none 0 1 := ⟨⟨TX1, 13, tyX1, O1⟩, wd_420, (hpT_sel (q := (⟨"TurfHeaps$Moor", "clear", "()V"⟩, 13)) 2 (by decide +kernel)), wd_3, wd_421, by decide +kernel, by decide +kernel, by decide +kernel⟩
theorem yyX6_lay : hpY yX6_lay cX6_lay 4 none 2 6 := ⟨⟨TX6, 4, tyX6, O6⟩, wd_1233, (hpT_sel (q := (⟨"TurfHeaps$Slot", "lay", "(II)V"⟩, 4)) 98 (by decide +kernel)), wd_9, wd_1234, by decide +kernel, by decide +kernel, by decide +kernel⟩
theorem yyX7_nextToken : hpY yX7_nextToken cX7_nextToken 2 none 0 7 := ⟨⟨TX7, 7, tyX7, O7⟩, wd_424, (hpT_sel (q := (⟨"TurfHeaps$Tape", "nextToken", "()V"⟩, 7)) 3 (by decide +kernel)), wd_2, wd_425, by decide +kernel, by decide +kernel, by decide +kernel⟩
theorem yyX7_put : hpY yX7_put cX7_put 3 none 1 7 := ⟨⟨TX7, 7, tyX7, O7⟩, wd_404, (hpT_sel (q := (⟨"TurfHeaps$Tape", "put", "(I)V"⟩, 7)) 0 (by decide +kernel)), wd_2, wd_405, by decide +kernel, by decide +kernel, by decide +kernel⟩
theorem yyX7_readInto : hpY yX7_readInto cX7_readInto 3 (some .boolean) 1 7 := ⟨⟨TX7, 7, tyX7, O7⟩, wd_416, (hpT_sel (q := (⟨"TurfHeaps$Tape", "readInto", "(LTurfHeaps$Moor;)Z"⟩, 7)) 1 (by decide +kernel)), wd_2, wd_417, by decide +kernel, by decide +kernel, by decide +kernel⟩
theorem yyX8_asNumber : hpYS yX8_asNumber cX8_asNumber 1 (some .int) 1 := ⟨wd_743, wd_1, wd_744, by decide +kernel, by decide +kernel, by decide +kernel⟩
theorem yyX8_forget : hpY yX8_forget cX8_forget 1 none 0 8 := ⟨⟨TX8, 16, tyX8, O8⟩, wd_539, (hpT_sel (q := (⟨"TurfHeaps", "forget", "()V"⟩, 16)) 14 (by decide +kernel)), wd_1, wd_540, by decide +kernel, by decide +kernel, by decide +kernel⟩
theorem yyX8_isCart : hpY yX8_isCart cX8_isCart 2 (some .boolean) 1 8 := ⟨⟨TX8, 16, tyX8, O8⟩, wd_559, (hpT_sel (q := (⟨"TurfHeaps", "isCart", "(I)Z"⟩, 16)) 16 (by decide +kernel)), wd_1, wd_560, by decide +kernel, by decide +kernel, by decide +kernel⟩
theorem yyX8_isChanceDay : hpY yX8_isChanceDay cX8_isChanceDay 2 (some .boolean) 1 8 := ⟨⟨TX8, 16, tyX8, O8⟩, wd_1137, (hpT_sel (q := (⟨"TurfHeaps", "isChanceDay", "(I)Z"⟩, 16)) 90 (by decide +kernel)), wd_1, wd_1138, by decide +kernel, by decide +kernel, by decide +kernel⟩
theorem yyX8_isDay : hpY yX8_isDay cX8_isDay 2 (some .boolean) 1 8 := ⟨⟨TX8, 16, tyX8, O8⟩, wd_570, (hpT_sel (q := (⟨"TurfHeaps", "isDay", "(I)Z"⟩, 16)) 17 (by decide +kernel)), wd_1, wd_571, by decide +kernel, by decide +kernel, by decide +kernel⟩
theorem yyX8_isDayAheadOfLast : hpY yX8_isDayAheadOfLast cX8_isDayAheadOfLast 2 (some .boolean) 1 8 := ⟨⟨TX8, 16, tyX8, O8⟩, wd_685, (hpT_sel (q := (⟨"TurfHeaps", "isDayAheadOfLast", "(I)Z"⟩, 16)) 37 (by decide +kernel)), wd_1, wd_686, by decide +kernel, by decide +kernel, by decide +kernel⟩
theorem yyX8_isOfAll : hpY yX8_isOfAll cX8_isOfAll 2 (some .boolean) 1 8 := ⟨⟨TX8, 16, tyX8, O8⟩, wd_838, (hpT_sel (q := (⟨"TurfHeaps", "isOfAll", "(I)Z"⟩, 16)) 53 (by decide +kernel)), wd_1, wd_839, by decide +kernel, by decide +kernel, by decide +kernel⟩
theorem yyX8_isSlot : hpYS yX8_isSlot cX8_isSlot 1 (some .boolean) 1 := ⟨wd_921, wd_1, wd_922, by decide +kernel, by decide +kernel, by decide +kernel⟩
theorem yyX8_isTold : hpY yX8_isTold cX8_isTold 2 (some .boolean) 1 8 := ⟨⟨TX8, 16, tyX8, O8⟩, wd_551, (hpT_sel (q := (⟨"TurfHeaps", "isTold", "(I)Z"⟩, 16)) 15 (by decide +kernel)), wd_1, wd_552, by decide +kernel, by decide +kernel, by decide +kernel⟩
theorem yyX8_noMoor : hpY yX8_noMoor cX8_noMoor 1 (some .boolean) 0 8 := ⟨⟨TX8, 16, tyX8, O8⟩, wd_574, (hpT_sel (q := (⟨"TurfHeaps", "noMoor", "()Z"⟩, 16)) 18 (by decide +kernel)), wd_1, wd_575, by decide +kernel, by decide +kernel, by decide +kernel⟩
theorem yyX8_seenFault : hpY yX8_seenFault cX8_seenFault 3 (some .int) 2 8 := ⟨⟨TX8, 16, tyX8, O8⟩, wd_979, (hpT_sel (q := (⟨"TurfHeaps", "seenFault", "(IZ)I"⟩, 16)) 73 (by decide +kernel)), wd_1, wd_980, by decide +kernel, by decide +kernel, by decide +kernel⟩
theorem yyX8_slotsWithRow : hpY yX8_slotsWithRow cX8_slotsWithRow 3 (some .int) 0 8 := ⟨⟨TX8, 16, tyX8, O8⟩, wd_1217, (hpT_sel (q := (⟨"TurfHeaps", "slotsWithRow", "()I"⟩, 16)) 97 (by decide +kernel)), wd_1, wd_1218, by decide +kernel, by decide +kernel, by decide +kernel⟩
theorem yyX8_smallRowFault : hpY yX8_smallRowFault cX8_smallRowFault 2 (some .int) 1 8 := ⟨⟨TX8, 16, tyX8, O8⟩, wd_918, (hpT_sel (q := (⟨"TurfHeaps", "smallRowFault", "(I)I"⟩, 16)) 65 (by decide +kernel)), wd_1, wd_919, by decide +kernel, by decide +kernel, by decide +kernel⟩
theorem yyX9_advance : hpY yX9_advance cX9_advance 2 none 0 9 := ⟨⟨TX9, 46, tyX9, O9⟩, wd_1426, (hpT_sel (q := (⟨"TurfHeapsModel", "advance", "()V"⟩, 46)) 100 (by decide +kernel)), wd_10, wd_1427, by decide +kernel, by decide +kernel, by decide +kernel⟩
theorem yyX9_areTwo : hpY yX9_areTwo cX9_areTwo 3 (some .boolean) 2 9 := ⟨⟨TX9, 46, tyX9, O9⟩, wd_1931, (hpT_sel (q := (⟨"TurfHeapsModel", "areTwo", "(II)Z"⟩, 46)) 164 (by decide +kernel)), wd_10, wd_1932, by decide +kernel, by decide +kernel, by decide +kernel⟩
theorem yyX9_asItIs : hpY yX9_asItIs cX9_asItIs 2 none 0 9 := ⟨⟨TX9, 46, tyX9, O9⟩, wd_1522, (hpT_sel (q := (⟨"TurfHeapsModel", "asItIs", "()V"⟩, 46)) 117 (by decide +kernel)), wd_10, wd_1523, by decide +kernel, by decide +kernel, by decide +kernel⟩
theorem yyX9_askRow : hpY yX9_askRow cX9_askRow 6 (some .int) 1 9 := ⟨⟨TX9, 46, tyX9, O9⟩, wd_1777, (hpT_sel (q := (⟨"TurfHeapsModel", "askRow", "(I)I"⟩, 46)) 149 (by decide +kernel)), wd_10, wd_1778, by decide +kernel, by decide +kernel, by decide +kernel⟩
theorem yyX9_askSeen : hpY yX9_askSeen cX9_askSeen 3 (some .int) 1 9 := ⟨⟨TX9, 46, tyX9, O9⟩, wd_1826, (hpT_sel (q := (⟨"TurfHeapsModel", "askSeen", "(I)I"⟩, 46)) 154 (by decide +kernel)), wd_10, wd_1827, by decide +kernel, by decide +kernel, by decide +kernel⟩
theorem yyX9_asksAll : hpY yX9_asksAll cX9_asksAll 2 (some .boolean) 1 9 := ⟨⟨TX9, 46, tyX9, O9⟩, wd_1720, (hpT_sel (q := (⟨"TurfHeapsModel", "asksAll", "(I)Z"⟩, 46)) 140 (by decide +kernel)), wd_10, wd_1721, by decide +kernel, by decide +kernel, by decide +kernel⟩
theorem yyX9_asksDay : hpY yX9_asksDay cX9_asksDay 2 (some .boolean) 1 9 := ⟨⟨TX9, 46, tyX9, O9⟩, wd_1514, (hpT_sel (q := (⟨"TurfHeapsModel", "asksDay", "(I)Z"⟩, 46)) 115 (by decide +kernel)), wd_10, wd_1515, by decide +kernel, by decide +kernel, by decide +kernel⟩
theorem yyX9_asksMoor : hpY yX9_asksMoor cX9_asksMoor 1 (some .boolean) 0 9 := ⟨⟨TX9, 46, tyX9, O9⟩, wd_1518, (hpT_sel (q := (⟨"TurfHeapsModel", "asksMoor", "()Z"⟩, 46)) 116 (by decide +kernel)), wd_10, wd_1519, by decide +kernel, by decide +kernel, by decide +kernel⟩
theorem yyX9_asksTaking : hpY yX9_asksTaking cX9_asksTaking 3 (some .boolean) 2 9 := ⟨⟨TX9, 46, tyX9, O9⟩, wd_1903, (hpT_sel (q := (⟨"TurfHeapsModel", "asksTaking", "(II)Z"⟩, 46)) 160 (by decide +kernel)), wd_10, wd_1904, by decide +kernel, by decide +kernel, by decide +kernel⟩
theorem yyX9_beginDay : hpY yX9_beginDay cX9_beginDay 3 none 1 9 := ⟨⟨TX9, 46, tyX9, O9⟩, wd_1550, (hpT_sel (q := (⟨"TurfHeapsModel", "beginDay", "(I)V"⟩, 46)) 124 (by decide +kernel)), wd_10, wd_1551, by decide +kernel, by decide +kernel, by decide +kernel⟩
theorem yyX9_cartMany : hpY yX9_cartMany cX9_cartMany 1 (some .int) 0 9 := ⟨⟨TX9, 46, tyX9, O9⟩, wd_1506, (hpT_sel (q := (⟨"TurfHeapsModel", "cartMany", "()I"⟩, 46)) 114 (by decide +kernel)), wd_10, wd_1507, by decide +kernel, by decide +kernel, by decide +kernel⟩
theorem yyX9_copyRow : hpY yX9_copyRow cX9_copyRow 4 none 2 9 := ⟨⟨TX9, 46, tyX9, O9⟩, wd_1561, (hpT_sel (q := (⟨"TurfHeapsModel", "copyRow", "(II)V"⟩, 46)) 126 (by decide +kernel)), wd_10, wd_1562, by decide +kernel, by decide +kernel, by decide +kernel⟩
theorem yyX9_days : hpY yX9_days cX9_days 1 (some .int) 0 9 := ⟨⟨TX9, 46, tyX9, O9⟩, wd_1546, (hpT_sel (q := (⟨"TurfHeapsModel", "days", "()I"⟩, 46)) 123 (by decide +kernel)), wd_10, wd_1547, by decide +kernel, by decide +kernel, by decide +kernel⟩
theorem yyX9_empty : hpY yX9_empty cX9_empty 2 none 1 9 := ⟨⟨TX9, 46, tyX9, O9⟩, wd_1530, (hpT_sel (q := (⟨"TurfHeapsModel", "empty", "(I)V"⟩, 46)) 119 (by decide +kernel)), wd_10, wd_1531, by decide +kernel, by decide +kernel, by decide +kernel⟩
theorem yyX9_goAll : hpY yX9_goAll cX9_goAll 2 none 0 9 := ⟨⟨TX9, 46, tyX9, O9⟩, wd_1526, (hpT_sel (q := (⟨"TurfHeapsModel", "goAll", "()V"⟩, 46)) 118 (by decide +kernel)), wd_10, wd_1527, by decide +kernel, by decide +kernel, by decide +kernel⟩
theorem yyX9_good : hpY yX9_good cX9_good 1 (some .boolean) 0 9 := ⟨⟨TX9, 46, tyX9, O9⟩, wd_1440, (hpT_sel (q := (⟨"TurfHeapsModel", "good", "()Z"⟩, 46)) 102 (by decide +kernel)), wd_10, wd_1441, by decide +kernel, by decide +kernel, by decide +kernel⟩
theorem yyX9_in : hpYS yX9_in cX9_in 6 (some .boolean) 3 := ⟨wd_1402, wd_10, wd_1403, by decide +kernel, by decide +kernel, by decide +kernel⟩
theorem yyX9_isAhead : hpY yX9_isAhead cX9_isAhead 3 (some .boolean) 1 9 := ⟨⟨TX9, 46, tyX9, O9⟩, wd_1614, (hpT_sel (q := (⟨"TurfHeapsModel", "isAhead", "(J)Z"⟩, 46)) 132 (by decide +kernel)), wd_10, wd_1615, by decide +kernel, by decide +kernel, by decide +kernel⟩
theorem yyX9_isCart : hpY yX9_isCart cX9_isCart 2 (some .boolean) 1 9 := ⟨⟨TX9, 46, tyX9, O9⟩, wd_1502, (hpT_sel (q := (⟨"TurfHeapsModel", "isCart", "(I)Z"⟩, 46)) 113 (by decide +kernel)), wd_10, wd_1503, by decide +kernel, by decide +kernel, by decide +kernel⟩
theorem yyX9_isDay : hpY yX9_isDay cX9_isDay 3 (some .boolean) 1 9 := ⟨⟨TX9, 46, tyX9, O9⟩, wd_1577, (hpT_sel (q := (⟨"TurfHeapsModel", "isDay", "(J)Z"⟩, 46)) 130 (by decide +kernel)), wd_10, wd_1578, by decide +kernel, by decide +kernel, by decide +kernel⟩
theorem yyX9_isHeap : hpY yX9_isHeap cX9_isHeap 2 (some .boolean) 1 9 := ⟨⟨TX9, 46, tyX9, O9⟩, wd_1494, (hpT_sel (q := (⟨"TurfHeapsModel", "isHeap", "(I)Z"⟩, 46)) 112 (by decide +kernel)), wd_10, wd_1495, by decide +kernel, by decide +kernel, by decide +kernel⟩
theorem yyX9_isMoor : hpY yX9_isMoor cX9_isMoor 1 (some .boolean) 0 9 := ⟨⟨TX9, 46, tyX9, O9⟩, wd_1573, (hpT_sel (q := (⟨"TurfHeapsModel", "isMoor", "()Z"⟩, 46)) 129 (by decide +kernel)), wd_10, wd_1574, by decide +kernel, by decide +kernel, by decide +kernel⟩
theorem yyX9_isSlot : hpYS yX9_isSlot cX9_isSlot 1 (some .boolean) 1 := ⟨wd_1780, wd_10, wd_1781, by decide +kernel, by decide +kernel, by decide +kernel⟩
theorem yyX9_isWet : hpY yX9_isWet cX9_isWet 3 (some .boolean) 2 9 := ⟨⟨TX9, 46, tyX9, O9⟩, wd_1947, (hpT_sel (q := (⟨"TurfHeapsModel", "isWet", "(II)Z"⟩, 46)) 166 (by decide +kernel)), wd_10, wd_1948, by decide +kernel, by decide +kernel, by decide +kernel⟩
theorem yyX9_layFits : hpY yX9_layFits cX9_layFits 6 (some .int) 2 9 := ⟨⟨TX9, 46, tyX9, O9⟩, wd_1822, (hpT_sel (q := (⟨"TurfHeapsModel", "layFits", "(II)I"⟩, 46)) 153 (by decide +kernel)), wd_10, wd_1823, by decide +kernel, by decide +kernel, by decide +kernel⟩
theorem yyX9_manyOf : hpY yX9_manyOf cX9_manyOf 2 (some .int) 1 9 := ⟨⟨TX9, 46, tyX9, O9⟩, wd_1538, (hpT_sel (q := (⟨"TurfHeapsModel", "manyOf", "(I)I"⟩, 46)) 121 (by decide +kernel)), wd_10, wd_1539, by decide +kernel, by decide +kernel, by decide +kernel⟩
theorem yyX9_see : hpY yX9_see cX9_see 2 (some .int) 1 9 := ⟨⟨TX9, 46, tyX9, O9⟩, wd_1430, (hpT_sel (q := (⟨"TurfHeapsModel", "see", "(I)I"⟩, 46)) 101 (by decide +kernel)), wd_10, wd_1431, by decide +kernel, by decide +kernel, by decide +kernel⟩
end
section
theorem dX1_become_0 : decode cX1_become 0 = .ok (.aload_n 0, 1) := by decide +kernel
theorem dX1_become_1 : decode cX1_become 1 = .ok (.aload_n 1, 1) := by decide +kernel
theorem dX1_become_2 : decode cX1_become 2 = .ok (.getfield 27, 3) := by decide +kernel
theorem dX1_become_5 : decode cX1_become 5 = .ok (.putfield 27, 3) := by decide +kernel
theorem dX1_become_8 : decode cX1_become 8 = .ok (.aload_n 0, 1) := by decide +kernel
theorem dX1_become_9 : decode cX1_become 9 = .ok (.aload_n 1, 1) := by decide +kernel
theorem dX1_become_10 : decode cX1_become 10 = .ok (.getfield 31, 3) := by decide +kernel
theorem dX1_become_13 : decode cX1_become 13 = .ok (.putfield 31, 3) := by decide +kernel
theorem dX1_become_16 : decode cX1_become 16 = .ok (.aload_n 0, 1) := by decide +kernel
theorem dX1_become_17 : decode cX1_become 17 = .ok (.aload_n 1, 1) := by decide +kernel
theorem dX1_become_18 : decode cX1_become 18 = .ok (.getfield 34, 3) := by decide +kernel
theorem dX1_become_21 : decode cX1_become 21 = .ok (.putfield 34, 3) := by decide +kernel
theorem dX1_become_24 : decode cX1_become 24 = .ok (.aload_n 0, 1) := by decide +kernel
theorem dX1_become_25 : decode cX1_become 25 = .ok (.aload_n 1, 1) := by decide +kernel
theorem dX1_become_26 : decode cX1_become 26 = .ok (.getfield 37, 3) := by decide +kernel
theorem dX1_become_29 : decode cX1_become 29 = .ok (.putfield 37, 3) := by decide +kernel
theorem dX1_become_32 : decode cX1_become 32 = .ok (.aload_n 0, 1) := by decide +kernel
theorem dX1_become_33 : decode cX1_become 33 = .ok (.aload_n 1, 1) := by decide +kernel
theorem dX1_become_34 : decode cX1_become 34 = .ok (.getfield 40, 3) := by decide +kernel
theorem dX1_become_37 : decode cX1_become 37 = .ok (.putfield 40, 3) := by decide +kernel
theorem dX1_become_40 : decode cX1_become 40 = .ok (.aload_n 0, 1) := by decide +kernel
theorem dX1_become_41 : decode cX1_become 41 = .ok (.aload_n 1, 1) := by decide +kernel
theorem dX1_become_42 : decode cX1_become 42 = .ok (.getfield 43, 3) := by decide +kernel
theorem dX1_become_45 : decode cX1_become 45 = .ok (.putfield 43, 3) := by decide +kernel
theorem dX1_become_48 : decode cX1_become 48 = .ok (.aload_n 0, 1) := by decide +kernel
theorem dX1_become_49 : decode cX1_become 49 = .ok (.aload_n 1, 1) := by decide +kernel
theorem dX1_become_50 : decode cX1_become 50 = .ok (.getfield 46, 3) := by decide +kernel
theorem dX1_become_53 : decode cX1_become 53 = .ok (.putfield 46, 3) := by decide +kernel
theorem dX1_become_56 : decode cX1_become 56 = .ok (.aload_n 1, 1) := by decide +kernel
theorem dX1_become_57 : decode cX1_become 57 = .ok (.getfield 9, 3) := by decide +kernel
theorem dX1_become_60 : decode cX1_become 60 = .ok (.iconst 0, 1) := by decide +kernel
theorem dX1_become_61 : decode cX1_become 61 = .ok (.aload_n 0, 1) := by decide +kernel
theorem dX1_become_62 : decode cX1_become 62 = .ok (.getfield 9, 3) := by decide +kernel
theorem dX1_become_65 : decode cX1_become 65 = .ok (.iconst 0, 1) := by decide +kernel
theorem dX1_become_66 : decode cX1_become 66 = .ok (.bipush 8, 2) := by decide +kernel
theorem dX1_become_68 : decode cX1_become 68 = .ok (.invokestatic 49, 3) := by decide +kernel
theorem dX1_become_71 : decode cX1_become 71 = .ok (.aload_n 1, 1) := by decide +kernel
theorem dX1_become_72 : decode cX1_become 72 = .ok (.getfield 15, 3) := by decide +kernel
theorem dX1_become_75 : decode cX1_become 75 = .ok (.iconst 0, 1) := by decide +kernel
theorem dX1_become_76 : decode cX1_become 76 = .ok (.aload_n 0, 1) := by decide +kernel
theorem dX1_become_77 : decode cX1_become 77 = .ok (.getfield 15, 3) := by decide +kernel
theorem dX1_become_80 : decode cX1_become 80 = .ok (.iconst 0, 1) := by decide +kernel
theorem dX1_become_81 : decode cX1_become 81 = .ok (.bipush 6, 2) := by decide +kernel
theorem dX1_become_83 : decode cX1_become 83 = .ok (.invokestatic 49, 3) := by decide +kernel
theorem dX1_become_86 : decode cX1_become 86 = .ok (.aload_n 1, 1) := by decide +kernel
theorem dX1_become_87 : decode cX1_become 87 = .ok (.getfield 18, 3) := by decide +kernel
theorem dX1_become_90 : decode cX1_become 90 = .ok (.iconst 0, 1) := by decide +kernel
theorem dX1_become_91 : decode cX1_become 91 = .ok (.aload_n 0, 1) := by decide +kernel
theorem dX1_become_92 : decode cX1_become 92 = .ok (.getfield 18, 3) := by decide +kernel
theorem dX1_become_95 : decode cX1_become 95 = .ok (.iconst 0, 1) := by decide +kernel
theorem dX1_become_96 : decode cX1_become 96 = .ok (.bipush 6, 2) := by decide +kernel
theorem dX1_become_98 : decode cX1_become 98 = .ok (.invokestatic 49, 3) := by decide +kernel
theorem dX1_become_101 : decode cX1_become 101 = .ok (.aload_n 1, 1) := by decide +kernel
theorem dX1_become_102 : decode cX1_become 102 = .ok (.getfield 21, 3) := by decide +kernel
theorem dX1_become_105 : decode cX1_become 105 = .ok (.iconst 0, 1) := by decide +kernel
theorem dX1_become_106 : decode cX1_become 106 = .ok (.aload_n 0, 1) := by decide +kernel
theorem dX1_become_107 : decode cX1_become 107 = .ok (.getfield 21, 3) := by decide +kernel
theorem dX1_become_110 : decode cX1_become 110 = .ok (.iconst 0, 1) := by decide +kernel
theorem dX1_become_111 : decode cX1_become 111 = .ok (.bipush 20, 2) := by decide +kernel
theorem dX1_become_113 : decode cX1_become 113 = .ok (.invokestatic 49, 3) := by decide +kernel
theorem dX1_become_116 : decode cX1_become 116 = .ok (.aload_n 1, 1) := by decide +kernel
theorem dX1_become_117 : decode cX1_become 117 = .ok (.getfield 24, 3) := by decide +kernel
theorem dX1_become_120 : decode cX1_become 120 = .ok (.iconst 0, 1) := by decide +kernel
theorem dX1_become_121 : decode cX1_become 121 = .ok (.aload_n 0, 1) := by decide +kernel
theorem dX1_become_122 : decode cX1_become 122 = .ok (.getfield 24, 3) := by decide +kernel
theorem dX1_become_125 : decode cX1_become 125 = .ok (.iconst 0, 1) := by decide +kernel
theorem dX1_become_126 : decode cX1_become 126 = .ok (.bipush 20, 2) := by decide +kernel
theorem dX1_become_128 : decode cX1_become 128 = .ok (.invokestatic 49, 3) := by decide +kernel
theorem dX1_become_131 : decode cX1_become 131 = .ok (.return_, 1) := by decide +kernel
theorem dX1_clear_0 : decode cX1_clear 0 = .ok (.aload_n 0, 1) := by decide +kernel
theorem dX1_clear_1 : decode cX1_clear 1 = .ok (.iconst 0, 1) := by decide +kernel
theorem dX1_clear_2 : decode cX1_clear 2 = .ok (.putfield 27, 3) := by decide +kernel
theorem dX1_clear_5 : decode cX1_clear 5 = .ok (.aload_n 0, 1) := by decide +kernel
theorem dX1_clear_6 : decode cX1_clear 6 = .ok (.iconst 0, 1) := by decide +kernel
theorem dX1_clear_7 : decode cX1_clear 7 = .ok (.putfield 31, 3) := by decide +kernel
theorem dX1_clear_10 : decode cX1_clear 10 = .ok (.aload_n 0, 1) := by decide +kernel
theorem dX1_clear_11 : decode cX1_clear 11 = .ok (.iconst 0, 1) := by decide +kernel
theorem dX1_clear_12 : decode cX1_clear 12 = .ok (.putfield 34, 3) := by decide +kernel
theorem dX1_clear_15 : decode cX1_clear 15 = .ok (.aload_n 0, 1) := by decide +kernel
theorem dX1_clear_16 : decode cX1_clear 16 = .ok (.iconst 0, 1) := by decide +kernel
theorem dX1_clear_17 : decode cX1_clear 17 = .ok (.putfield 37, 3) := by decide +kernel
theorem dX1_clear_20 : decode cX1_clear 20 = .ok (.aload_n 0, 1) := by decide +kernel
theorem dX1_clear_21 : decode cX1_clear 21 = .ok (.iconst 0, 1) := by decide +kernel
theorem dX1_clear_22 : decode cX1_clear 22 = .ok (.putfield 40, 3) := by decide +kernel
theorem dX1_clear_25 : decode cX1_clear 25 = .ok (.aload_n 0, 1) := by decide +kernel
theorem dX1_clear_26 : decode cX1_clear 26 = .ok (.iconst 0, 1) := by decide +kernel
theorem dX1_clear_27 : decode cX1_clear 27 = .ok (.putfield 43, 3) := by decide +kernel
theorem dX1_clear_30 : decode cX1_clear 30 = .ok (.aload_n 0, 1) := by decide +kernel
theorem dX1_clear_31 : decode cX1_clear 31 = .ok (.iconst 0, 1) := by decide +kernel
theorem dX1_clear_32 : decode cX1_clear 32 = .ok (.putfield 46, 3) := by decide +kernel
theorem dX1_clear_35 : decode cX1_clear 35 = .ok (.return_, 1) := by decide +kernel
theorem dX6_lay_0 : decode cX6_lay 0 = .ok (.aload_n 0, 1) := by decide +kernel
theorem dX6_lay_1 : decode cX6_lay 1 = .ok (.iconst 1, 1) := by decide +kernel
theorem dX6_lay_2 : decode cX6_lay 2 = .ok (.putfield 15, 3) := by decide +kernel
theorem dX6_lay_5 : decode cX6_lay 5 = .ok (.aload_n 0, 1) := by decide +kernel
theorem dX6_lay_6 : decode cX6_lay 6 = .ok (.iload_n 1, 1) := by decide +kernel
theorem dX6_lay_7 : decode cX6_lay 7 = .ok (.putfield 19, 3) := by decide +kernel
theorem dX6_lay_10 : decode cX6_lay 10 = .ok (.aload_n 0, 1) := by decide +kernel
theorem dX6_lay_11 : decode cX6_lay 11 = .ok (.iload_n 2, 1) := by decide +kernel
theorem dX6_lay_12 : decode cX6_lay 12 = .ok (.putfield 23, 3) := by decide +kernel
theorem dX6_lay_15 : decode cX6_lay 15 = .ok (.iconst 0, 1) := by decide +kernel
theorem dX6_lay_16 : decode cX6_lay 16 = .ok (.istore_n 3, 1) := by decide +kernel
theorem dX6_lay_17 : decode cX6_lay 17 = .ok (.iload_n 3, 1) := by decide +kernel
theorem dX6_lay_18 : decode cX6_lay 18 = .ok (.iload_n 2, 1) := by decide +kernel
theorem dX6_lay_19 : decode cX6_lay 19 = .ok (.if_icmp .ge 16, 3) := by decide +kernel
theorem dX6_lay_22 : decode cX6_lay 22 = .ok (.aload_n 0, 1) := by decide +kernel
theorem dX6_lay_23 : decode cX6_lay 23 = .ok (.getfield 9, 3) := by decide +kernel
theorem dX6_lay_26 : decode cX6_lay 26 = .ok (.iload_n 3, 1) := by decide +kernel
theorem dX6_lay_27 : decode cX6_lay 27 = .ok (.lconst 0, 1) := by decide +kernel
theorem dX6_lay_28 : decode cX6_lay 28 = .ok (.lastore, 1) := by decide +kernel
theorem dX6_lay_29 : decode cX6_lay 29 = .ok (.iinc 3 1, 3) := by decide +kernel
theorem dX6_lay_32 : decode cX6_lay 32 = .ok (.goto (-15), 3) := by decide +kernel
theorem dX6_lay_35 : decode cX6_lay 35 = .ok (.return_, 1) := by decide +kernel
theorem dX7_nextToken_0 : decode cX7_nextToken 0 = .ok (.aload_n 0, 1) := by decide +kernel
theorem dX7_nextToken_1 : decode cX7_nextToken 1 = .ok (.getfield 30, 3) := by decide +kernel
theorem dX7_nextToken_4 : decode cX7_nextToken 4 = .ok (.aload_n 0, 1) := by decide +kernel
theorem dX7_nextToken_5 : decode cX7_nextToken 5 = .ok (.getfield 19, 3) := by decide +kernel
theorem dX7_nextToken_8 : decode cX7_nextToken 8 = .ok (.if_icmp .ge 31, 3) := by decide +kernel
theorem dX7_nextToken_11 : decode cX7_nextToken 11 = .ok (.aload_n 0, 1) := by decide +kernel
theorem dX7_nextToken_12 : decode cX7_nextToken 12 = .ok (.getfield 9, 3) := by decide +kernel
theorem dX7_nextToken_15 : decode cX7_nextToken 15 = .ok (.aload_n 0, 1) := by decide +kernel
theorem dX7_nextToken_16 : decode cX7_nextToken 16 = .ok (.getfield 30, 3) := by decide +kernel
theorem dX7_nextToken_19 : decode cX7_nextToken 19 = .ok (.baload, 1) := by decide +kernel
theorem dX7_nextToken_20 : decode cX7_nextToken 20 = .ok (.invokestatic 116, 3) := by decide +kernel
theorem dX7_nextToken_23 : decode cX7_nextToken 23 = .ok (.ifCond .eq 16, 3) := by decide +kernel
theorem dX7_nextToken_26 : decode cX7_nextToken 26 = .ok (.aload_n 0, 1) := by decide +kernel
theorem dX7_nextToken_27 : decode cX7_nextToken 27 = .ok (.dup, 1) := by decide +kernel
theorem dX7_nextToken_28 : decode cX7_nextToken 28 = .ok (.getfield 30, 3) := by decide +kernel
theorem dX7_nextToken_31 : decode cX7_nextToken 31 = .ok (.iconst 1, 1) := by decide +kernel
theorem dX7_nextToken_32 : decode cX7_nextToken 32 = .ok (.iadd, 1) := by decide +kernel
theorem dX7_nextToken_33 : decode cX7_nextToken 33 = .ok (.putfield 30, 3) := by decide +kernel
theorem dX7_nextToken_36 : decode cX7_nextToken 36 = .ok (.goto (-36), 3) := by decide +kernel
theorem dX7_nextToken_39 : decode cX7_nextToken 39 = .ok (.aload_n 0, 1) := by decide +kernel
theorem dX7_nextToken_40 : decode cX7_nextToken 40 = .ok (.aload_n 0, 1) := by decide +kernel
theorem dX7_nextToken_41 : decode cX7_nextToken 41 = .ok (.getfield 30, 3) := by decide +kernel
theorem dX7_nextToken_44 : decode cX7_nextToken 44 = .ok (.putfield 113, 3) := by decide +kernel
theorem dX7_nextToken_47 : decode cX7_nextToken 47 = .ok (.aload_n 0, 1) := by decide +kernel
theorem dX7_nextToken_48 : decode cX7_nextToken 48 = .ok (.getfield 30, 3) := by decide +kernel
theorem dX7_nextToken_51 : decode cX7_nextToken 51 = .ok (.aload_n 0, 1) := by decide +kernel
theorem dX7_nextToken_52 : decode cX7_nextToken 52 = .ok (.getfield 19, 3) := by decide +kernel
theorem dX7_nextToken_55 : decode cX7_nextToken 55 = .ok (.if_icmp .lt 9, 3) := by decide +kernel
theorem dX7_nextToken_58 : decode cX7_nextToken 58 = .ok (.aload_n 0, 1) := by decide +kernel
theorem dX7_nextToken_59 : decode cX7_nextToken 59 = .ok (.iconst 0, 1) := by decide +kernel
theorem dX7_nextToken_60 : decode cX7_nextToken 60 = .ok (.putfield 36, 3) := by decide +kernel
theorem dX7_nextToken_63 : decode cX7_nextToken 63 = .ok (.return_, 1) := by decide +kernel
theorem dX7_nextToken_64 : decode cX7_nextToken 64 = .ok (.aload_n 0, 1) := by decide +kernel
theorem dX7_nextToken_65 : decode cX7_nextToken 65 = .ok (.getfield 9, 3) := by decide +kernel
theorem dX7_nextToken_68 : decode cX7_nextToken 68 = .ok (.aload_n 0, 1) := by decide +kernel
theorem dX7_nextToken_69 : decode cX7_nextToken 69 = .ok (.getfield 30, 3) := by decide +kernel
theorem dX7_nextToken_72 : decode cX7_nextToken 72 = .ok (.baload, 1) := by decide +kernel
theorem dX7_nextToken_73 : decode cX7_nextToken 73 = .ok (.istore_n 1, 1) := by decide +kernel
theorem dX7_nextToken_74 : decode cX7_nextToken 74 = .ok (.aload_n 0, 1) := by decide +kernel
theorem dX7_nextToken_75 : decode cX7_nextToken 75 = .ok (.dup, 1) := by decide +kernel
theorem dX7_nextToken_76 : decode cX7_nextToken 76 = .ok (.getfield 30, 3) := by decide +kernel
theorem dX7_nextToken_79 : decode cX7_nextToken 79 = .ok (.iconst 1, 1) := by decide +kernel
theorem dX7_nextToken_80 : decode cX7_nextToken 80 = .ok (.iadd, 1) := by decide +kernel
theorem dX7_nextToken_81 : decode cX7_nextToken 81 = .ok (.putfield 30, 3) := by decide +kernel
theorem dX7_nextToken_84 : decode cX7_nextToken 84 = .ok (.iload_n 1, 1) := by decide +kernel
theorem dX7_nextToken_85 : decode cX7_nextToken 85 = .ok (.invokestatic 120, 3) := by decide +kernel
theorem dX7_nextToken_88 : decode cX7_nextToken 88 = .ok (.ifCond .eq 47, 3) := by decide +kernel
theorem dX7_nextToken_91 : decode cX7_nextToken 91 = .ok (.aload_n 0, 1) := by decide +kernel
theorem dX7_nextToken_92 : decode cX7_nextToken 92 = .ok (.iconst 1, 1) := by decide +kernel
theorem dX7_nextToken_93 : decode cX7_nextToken 93 = .ok (.putfield 36, 3) := by decide +kernel
theorem dX7_nextToken_96 : decode cX7_nextToken 96 = .ok (.aload_n 0, 1) := by decide +kernel
theorem dX7_nextToken_97 : decode cX7_nextToken 97 = .ok (.getfield 30, 3) := by decide +kernel
theorem dX7_nextToken_100 : decode cX7_nextToken 100 = .ok (.aload_n 0, 1) := by decide +kernel
theorem dX7_nextToken_101 : decode cX7_nextToken 101 = .ok (.getfield 19, 3) := by decide +kernel
theorem dX7_nextToken_104 : decode cX7_nextToken 104 = .ok (.if_icmp .ge 97, 3) := by decide +kernel
theorem dX7_nextToken_107 : decode cX7_nextToken 107 = .ok (.aload_n 0, 1) := by decide +kernel
theorem dX7_nextToken_108 : decode cX7_nextToken 108 = .ok (.getfield 9, 3) := by decide +kernel
theorem dX7_nextToken_111 : decode cX7_nextToken 111 = .ok (.aload_n 0, 1) := by decide +kernel
theorem dX7_nextToken_112 : decode cX7_nextToken 112 = .ok (.getfield 30, 3) := by decide +kernel
theorem dX7_nextToken_115 : decode cX7_nextToken 115 = .ok (.baload, 1) := by decide +kernel
theorem dX7_nextToken_116 : decode cX7_nextToken 116 = .ok (.invokestatic 120, 3) := by decide +kernel
theorem dX7_nextToken_119 : decode cX7_nextToken 119 = .ok (.ifCond .eq 82, 3) := by decide +kernel
theorem dX7_nextToken_122 : decode cX7_nextToken 122 = .ok (.aload_n 0, 1) := by decide +kernel
theorem dX7_nextToken_123 : decode cX7_nextToken 123 = .ok (.dup, 1) := by decide +kernel
theorem dX7_nextToken_124 : decode cX7_nextToken 124 = .ok (.getfield 30, 3) := by decide +kernel
theorem dX7_nextToken_127 : decode cX7_nextToken 127 = .ok (.iconst 1, 1) := by decide +kernel
theorem dX7_nextToken_128 : decode cX7_nextToken 128 = .ok (.iadd, 1) := by decide +kernel
theorem dX7_nextToken_129 : decode cX7_nextToken 129 = .ok (.putfield 30, 3) := by decide +kernel
theorem dX7_nextToken_132 : decode cX7_nextToken 132 = .ok (.goto (-36), 3) := by decide +kernel
theorem dX7_nextToken_135 : decode cX7_nextToken 135 = .ok (.iload_n 1, 1) := by decide +kernel
theorem dX7_nextToken_136 : decode cX7_nextToken 136 = .ok (.invokestatic 123, 3) := by decide +kernel
theorem dX7_nextToken_139 : decode cX7_nextToken 139 = .ok (.ifCond .eq 47, 3) := by decide +kernel
theorem dX7_nextToken_142 : decode cX7_nextToken 142 = .ok (.aload_n 0, 1) := by decide +kernel
theorem dX7_nextToken_143 : decode cX7_nextToken 143 = .ok (.iconst 2, 1) := by decide +kernel
theorem dX7_nextToken_144 : decode cX7_nextToken 144 = .ok (.putfield 36, 3) := by decide +kernel
theorem dX7_nextToken_147 : decode cX7_nextToken 147 = .ok (.aload_n 0, 1) := by decide +kernel
theorem dX7_nextToken_148 : decode cX7_nextToken 148 = .ok (.getfield 30, 3) := by decide +kernel
theorem dX7_nextToken_151 : decode cX7_nextToken 151 = .ok (.aload_n 0, 1) := by decide +kernel
theorem dX7_nextToken_152 : decode cX7_nextToken 152 = .ok (.getfield 19, 3) := by decide +kernel
theorem dX7_nextToken_155 : decode cX7_nextToken 155 = .ok (.if_icmp .ge 46, 3) := by decide +kernel
theorem dX7_nextToken_158 : decode cX7_nextToken 158 = .ok (.aload_n 0, 1) := by decide +kernel
theorem dX7_nextToken_159 : decode cX7_nextToken 159 = .ok (.getfield 9, 3) := by decide +kernel
theorem dX7_nextToken_162 : decode cX7_nextToken 162 = .ok (.aload_n 0, 1) := by decide +kernel
theorem dX7_nextToken_163 : decode cX7_nextToken 163 = .ok (.getfield 30, 3) := by decide +kernel
theorem dX7_nextToken_166 : decode cX7_nextToken 166 = .ok (.baload, 1) := by decide +kernel
theorem dX7_nextToken_167 : decode cX7_nextToken 167 = .ok (.invokestatic 123, 3) := by decide +kernel
theorem dX7_nextToken_170 : decode cX7_nextToken 170 = .ok (.ifCond .eq 31, 3) := by decide +kernel
theorem dX7_nextToken_173 : decode cX7_nextToken 173 = .ok (.aload_n 0, 1) := by decide +kernel
theorem dX7_nextToken_174 : decode cX7_nextToken 174 = .ok (.dup, 1) := by decide +kernel
theorem dX7_nextToken_175 : decode cX7_nextToken 175 = .ok (.getfield 30, 3) := by decide +kernel
theorem dX7_nextToken_178 : decode cX7_nextToken 178 = .ok (.iconst 1, 1) := by decide +kernel
theorem dX7_nextToken_179 : decode cX7_nextToken 179 = .ok (.iadd, 1) := by decide +kernel
theorem dX7_nextToken_180 : decode cX7_nextToken 180 = .ok (.putfield 30, 3) := by decide +kernel
theorem dX7_nextToken_183 : decode cX7_nextToken 183 = .ok (.goto (-36), 3) := by decide +kernel
theorem dX7_nextToken_186 : decode cX7_nextToken 186 = .ok (.aload_n 0, 1) := by decide +kernel
theorem dX7_nextToken_187 : decode cX7_nextToken 187 = .ok (.iload_n 1, 1) := by decide +kernel
theorem dX7_nextToken_188 : decode cX7_nextToken 188 = .ok (.bipush 59, 2) := by decide +kernel
theorem dX7_nextToken_190 : decode cX7_nextToken 190 = .ok (.if_icmp .ne 7, 3) := by decide +kernel
theorem dX7_nextToken_193 : decode cX7_nextToken 193 = .ok (.iconst 3, 1) := by decide +kernel
theorem dX7_nextToken_194 : decode cX7_nextToken 194 = .ok (.goto 4, 3) := by decide +kernel
theorem dX7_nextToken_197 : decode cX7_nextToken 197 = .ok (.iconst 4, 1) := by decide +kernel
theorem dX7_nextToken_198 : decode cX7_nextToken 198 = .ok (.putfield 36, 3) := by decide +kernel
theorem dX7_nextToken_201 : decode cX7_nextToken 201 = .ok (.return_, 1) := by decide +kernel
theorem dX7_put_0 : decode cX7_put 0 = .ok (.bipush 24, 2) := by decide +kernel
theorem dX7_put_2 : decode cX7_put 2 = .ok (.istore_n 2, 1) := by decide +kernel
theorem dX7_put_3 : decode cX7_put 3 = .ok (.iload_n 2, 1) := by decide +kernel
theorem dX7_put_4 : decode cX7_put 4 = .ok (.ifCond .lt 42, 3) := by decide +kernel
theorem dX7_put_7 : decode cX7_put 7 = .ok (.aload_n 0, 1) := by decide +kernel
theorem dX7_put_8 : decode cX7_put 8 = .ok (.getfield 19, 3) := by decide +kernel
theorem dX7_put_11 : decode cX7_put 11 = .ok (.sipush 500, 3) := by decide +kernel
theorem dX7_put_14 : decode cX7_put 14 = .ok (.if_icmp .ge 26, 3) := by decide +kernel
theorem dX7_put_17 : decode cX7_put 17 = .ok (.aload_n 0, 1) := by decide +kernel
theorem dX7_put_18 : decode cX7_put 18 = .ok (.getfield 9, 3) := by decide +kernel
theorem dX7_put_21 : decode cX7_put 21 = .ok (.aload_n 0, 1) := by decide +kernel
theorem dX7_put_22 : decode cX7_put 22 = .ok (.getfield 19, 3) := by decide +kernel
theorem dX7_put_25 : decode cX7_put 25 = .ok (.iload_n 1, 1) := by decide +kernel
theorem dX7_put_26 : decode cX7_put 26 = .ok (.iload_n 2, 1) := by decide +kernel
theorem dX7_put_27 : decode cX7_put 27 = .ok (.ishr, 1) := by decide +kernel
theorem dX7_put_28 : decode cX7_put 28 = .ok (.i2b, 1) := by decide +kernel
theorem dX7_put_29 : decode cX7_put 29 = .ok (.bastore, 1) := by decide +kernel
theorem dX7_put_30 : decode cX7_put 30 = .ok (.aload_n 0, 1) := by decide +kernel
theorem dX7_put_31 : decode cX7_put 31 = .ok (.dup, 1) := by decide +kernel
theorem dX7_put_32 : decode cX7_put 32 = .ok (.getfield 19, 3) := by decide +kernel
theorem dX7_put_35 : decode cX7_put 35 = .ok (.iconst 1, 1) := by decide +kernel
theorem dX7_put_36 : decode cX7_put 36 = .ok (.iadd, 1) := by decide +kernel
theorem dX7_put_37 : decode cX7_put 37 = .ok (.putfield 19, 3) := by decide +kernel
theorem dX7_put_40 : decode cX7_put 40 = .ok (.iinc 2 (-8), 3) := by decide +kernel
theorem dX7_put_43 : decode cX7_put 43 = .ok (.goto (-40), 3) := by decide +kernel
theorem dX7_put_46 : decode cX7_put 46 = .ok (.return_, 1) := by decide +kernel
theorem dX7_readInto_0 : decode cX7_readInto 0 = .ok (.aload_n 1, 1) := by decide +kernel
theorem dX7_readInto_1 : decode cX7_readInto 1 = .ok (.invokevirtual 22, 3) := by decide +kernel
theorem dX7_readInto_4 : decode cX7_readInto 4 = .ok (.aload_n 0, 1) := by decide +kernel
theorem dX7_readInto_5 : decode cX7_readInto 5 = .ok (.iconst 0, 1) := by decide +kernel
theorem dX7_readInto_6 : decode cX7_readInto 6 = .ok (.putfield 27, 3) := by decide +kernel
theorem dX7_readInto_9 : decode cX7_readInto 9 = .ok (.aload_n 0, 1) := by decide +kernel
theorem dX7_readInto_10 : decode cX7_readInto 10 = .ok (.iconst (-1), 1) := by decide +kernel
theorem dX7_readInto_11 : decode cX7_readInto 11 = .ok (.putfield 15, 3) := by decide +kernel
theorem dX7_readInto_14 : decode cX7_readInto 14 = .ok (.aload_n 0, 1) := by decide +kernel
theorem dX7_readInto_15 : decode cX7_readInto 15 = .ok (.iconst 0, 1) := by decide +kernel
theorem dX7_readInto_16 : decode cX7_readInto 16 = .ok (.putfield 30, 3) := by decide +kernel
theorem dX7_readInto_19 : decode cX7_readInto 19 = .ok (.aload_n 0, 1) := by decide +kernel
theorem dX7_readInto_20 : decode cX7_readInto 20 = .ok (.invokevirtual 33, 3) := by decide +kernel
theorem dX7_readInto_23 : decode cX7_readInto 23 = .ok (.iconst 0, 1) := by decide +kernel
theorem dX7_readInto_24 : decode cX7_readInto 24 = .ok (.istore_n 2, 1) := by decide +kernel
theorem dX7_readInto_25 : decode cX7_readInto 25 = .ok (.iload_n 2, 1) := by decide +kernel
theorem dX7_readInto_26 : decode cX7_readInto 26 = .ok (.sipush 500, 3) := by decide +kernel
theorem dX7_readInto_29 : decode cX7_readInto 29 = .ok (.if_icmp .ge 28, 3) := by decide +kernel
theorem dX7_readInto_32 : decode cX7_readInto 32 = .ok (.aload_n 0, 1) := by decide +kernel
theorem dX7_readInto_33 : decode cX7_readInto 33 = .ok (.getfield 36, 3) := by decide +kernel
theorem dX7_readInto_36 : decode cX7_readInto 36 = .ok (.ifCond .eq 21, 3) := by decide +kernel
theorem dX7_readInto_39 : decode cX7_readInto 39 = .ok (.aload_n 0, 1) := by decide +kernel
theorem dX7_readInto_40 : decode cX7_readInto 40 = .ok (.getfield 27, 3) := by decide +kernel
theorem dX7_readInto_43 : decode cX7_readInto 43 = .ok (.ifCond .ne 14, 3) := by decide +kernel
theorem dX7_readInto_46 : decode cX7_readInto 46 = .ok (.aload_n 0, 1) := by decide +kernel
theorem dX7_readInto_47 : decode cX7_readInto 47 = .ok (.aload_n 1, 1) := by decide +kernel
theorem dX7_readInto_48 : decode cX7_readInto 48 = .ok (.invokevirtual 39, 3) := by decide +kernel
theorem dX7_readInto_51 : decode cX7_readInto 51 = .ok (.iinc 2 1, 3) := by decide +kernel
theorem dX7_readInto_54 : decode cX7_readInto 54 = .ok (.goto (-29), 3) := by decide +kernel
theorem dX7_readInto_57 : decode cX7_readInto 57 = .ok (.aload_n 0, 1) := by decide +kernel
theorem dX7_readInto_58 : decode cX7_readInto 58 = .ok (.getfield 27, 3) := by decide +kernel
theorem dX7_readInto_61 : decode cX7_readInto 61 = .ok (.ifCond .ne 7, 3) := by decide +kernel
theorem dX7_readInto_64 : decode cX7_readInto 64 = .ok (.iconst 1, 1) := by decide +kernel
theorem dX7_readInto_65 : decode cX7_readInto 65 = .ok (.goto 4, 3) := by decide +kernel
theorem dX7_readInto_68 : decode cX7_readInto 68 = .ok (.iconst 0, 1) := by decide +kernel
theorem dX7_readInto_69 : decode cX7_readInto 69 = .ok (.ireturn, 1) := by decide +kernel
theorem dX8_above_0 : decode cX8_above 0 = .ok (.aload_n 0, 1) := by decide +kernel
theorem dX8_above_1 : decode cX8_above 1 = .ok (.iload_n 1, 1) := by decide +kernel
theorem dX8_above_2 : decode cX8_above 2 = .ok (.invokevirtual 132, 3) := by decide +kernel
theorem dX8_above_5 : decode cX8_above 5 = .ok (.ifCond .eq 11, 3) := by decide +kernel
theorem dX8_above_8 : decode cX8_above 8 = .ok (.aload_n 0, 1) := by decide +kernel
theorem dX8_above_9 : decode cX8_above 9 = .ok (.iload_n 2, 1) := by decide +kernel
theorem dX8_above_10 : decode cX8_above 10 = .ok (.invokevirtual 132, 3) := by decide +kernel
theorem dX8_above_13 : decode cX8_above 13 = .ok (.ifCond .ne 6, 3) := by decide +kernel
theorem dX8_above_16 : decode cX8_above 16 = .ok (.bipush (-2), 2) := by decide +kernel
theorem dX8_above_18 : decode cX8_above 18 = .ok (.ireturn, 1) := by decide +kernel
theorem dX8_above_19 : decode cX8_above 19 = .ok (.aload_n 0, 1) := by decide +kernel
theorem dX8_above_20 : decode cX8_above 20 = .ok (.iload_n 1, 1) := by decide +kernel
theorem dX8_above_21 : decode cX8_above 21 = .ok (.invokevirtual 135, 3) := by decide +kernel
theorem dX8_above_24 : decode cX8_above 24 = .ok (.aload_n 0, 1) := by decide +kernel
theorem dX8_above_25 : decode cX8_above 25 = .ok (.iload_n 2, 1) := by decide +kernel
theorem dX8_above_26 : decode cX8_above 26 = .ok (.invokevirtual 135, 3) := by decide +kernel
theorem dX8_above_29 : decode cX8_above 29 = .ok (.invokevirtual 213, 3) := by decide +kernel
theorem dX8_above_32 : decode cX8_above 32 = .ok (.ireturn, 1) := by decide +kernel
theorem dX8_ahead_0 : decode cX8_ahead 0 = .ok (.aload_n 0, 1) := by decide +kernel
theorem dX8_ahead_1 : decode cX8_ahead 1 = .ok (.iload_n 1, 1) := by decide +kernel
theorem dX8_ahead_2 : decode cX8_ahead 2 = .ok (.invokevirtual 259, 3) := by decide +kernel
theorem dX8_ahead_5 : decode cX8_ahead 5 = .ok (.istore_n 2, 1) := by decide +kernel
theorem dX8_ahead_6 : decode cX8_ahead 6 = .ok (.iload_n 2, 1) := by decide +kernel
theorem dX8_ahead_7 : decode cX8_ahead 7 = .ok (.ifCond .eq 5, 3) := by decide +kernel
theorem dX8_ahead_10 : decode cX8_ahead 10 = .ok (.iload_n 2, 1) := by decide +kernel
theorem dX8_ahead_11 : decode cX8_ahead 11 = .ok (.ireturn, 1) := by decide +kernel
theorem dX8_ahead_12 : decode cX8_ahead 12 = .ok (.aload_n 0, 1) := by decide +kernel
theorem dX8_ahead_13 : decode cX8_ahead 13 = .ok (.aload_n 0, 1) := by decide +kernel
theorem dX8_ahead_14 : decode cX8_ahead 14 = .ok (.getfield 70, 3) := by decide +kernel
theorem dX8_ahead_17 : decode cX8_ahead 17 = .ok (.getfield 146, 3) := by decide +kernel
theorem dX8_ahead_20 : decode cX8_ahead 20 = .ok (.invokevirtual 242, 3) := by decide +kernel
theorem dX8_ahead_23 : decode cX8_ahead 23 = .ok (.aload_n 0, 1) := by decide +kernel
theorem dX8_ahead_24 : decode cX8_ahead 24 = .ok (.getfield 70, 3) := by decide +kernel
theorem dX8_ahead_27 : decode cX8_ahead 27 = .ok (.invokevirtual 262, 3) := by decide +kernel
theorem dX8_ahead_30 : decode cX8_ahead 30 = .ok (.ireturn, 1) := by decide +kernel
theorem dX8_all_0 : decode cX8_all 0 = .ok (.aload_n 0, 1) := by decide +kernel
theorem dX8_all_1 : decode cX8_all 1 = .ok (.iload_n 1, 1) := by decide +kernel
theorem dX8_all_2 : decode cX8_all 2 = .ok (.invokevirtual 132, 3) := by decide +kernel
theorem dX8_all_5 : decode cX8_all 5 = .ok (.ifCond .eq 14, 3) := by decide +kernel
theorem dX8_all_8 : decode cX8_all 8 = .ok (.aload_n 0, 1) := by decide +kernel
theorem dX8_all_9 : decode cX8_all 9 = .ok (.iload_n 1, 1) := by decide +kernel
theorem dX8_all_10 : decode cX8_all 10 = .ok (.invokevirtual 135, 3) := by decide +kernel
theorem dX8_all_13 : decode cX8_all 13 = .ok (.getfield 146, 3) := by decide +kernel
theorem dX8_all_16 : decode cX8_all 16 = .ok (.goto 5, 3) := by decide +kernel
theorem dX8_all_19 : decode cX8_all 19 = .ok (.bipush (-2), 2) := by decide +kernel
theorem dX8_all_21 : decode cX8_all 21 = .ok (.ireturn, 1) := by decide +kernel
theorem dX8_anew_0 : decode cX8_anew 0 = .ok (.aload_n 0, 1) := by decide +kernel
theorem dX8_anew_1 : decode cX8_anew 1 = .ok (.invokevirtual 177, 3) := by decide +kernel
theorem dX8_anew_4 : decode cX8_anew 4 = .ok (.ifCond .eq 6, 3) := by decide +kernel
theorem dX8_anew_7 : decode cX8_anew 7 = .ok (.bipush (-2), 2) := by decide +kernel
theorem dX8_anew_9 : decode cX8_anew 9 = .ok (.ireturn, 1) := by decide +kernel
theorem dX8_anew_10 : decode cX8_anew 10 = .ok (.aload_n 0, 1) := by decide +kernel
theorem dX8_anew_11 : decode cX8_anew 11 = .ok (.getfield 19, 3) := by decide +kernel
theorem dX8_anew_14 : decode cX8_anew 14 = .ok (.getfield 358, 3) := by decide +kernel
theorem dX8_anew_17 : decode cX8_anew 17 = .ok (.istore_n 1, 1) := by decide +kernel
theorem dX8_anew_18 : decode cX8_anew 18 = .ok (.aload_n 0, 1) := by decide +kernel
theorem dX8_anew_19 : decode cX8_anew 19 = .ok (.getfield 19, 3) := by decide +kernel
theorem dX8_anew_22 : decode cX8_anew 22 = .ok (.iconst 0, 1) := by decide +kernel
theorem dX8_anew_23 : decode cX8_anew 23 = .ok (.putfield 358, 3) := by decide +kernel
theorem dX8_anew_26 : decode cX8_anew 26 = .ok (.aload_n 0, 1) := by decide +kernel
theorem dX8_anew_27 : decode cX8_anew 27 = .ok (.invokevirtual 101, 3) := by decide +kernel
theorem dX8_anew_30 : decode cX8_anew 30 = .ok (.iload_n 1, 1) := by decide +kernel
theorem dX8_anew_31 : decode cX8_anew 31 = .ok (.ireturn, 1) := by decide +kernel
theorem dX8_asNumber_0 : decode cX8_asNumber 0 = .ok (.iload_n 0, 1) := by decide +kernel
theorem dX8_asNumber_1 : decode cX8_asNumber 1 = .ok (.ifCond .eq 7, 3) := by decide +kernel
theorem dX8_asNumber_4 : decode cX8_asNumber 4 = .ok (.iconst 1, 1) := by decide +kernel
theorem dX8_asNumber_5 : decode cX8_asNumber 5 = .ok (.goto 4, 3) := by decide +kernel
theorem dX8_asNumber_8 : decode cX8_asNumber 8 = .ok (.iconst 0, 1) := by decide +kernel
theorem dX8_asNumber_9 : decode cX8_asNumber 9 = .ok (.ireturn, 1) := by decide +kernel
theorem dX8_ask_0 : decode cX8_ask 0 = .ok (.aload_n 0, 1) := by decide +kernel
theorem dX8_ask_1 : decode cX8_ask 1 = .ok (.iload_n 1, 1) := by decide +kernel
theorem dX8_ask_2 : decode cX8_ask 2 = .ok (.aload_n 0, 1) := by decide +kernel
theorem dX8_ask_3 : decode cX8_ask 3 = .ok (.iload_n 2, 1) := by decide +kernel
theorem dX8_ask_4 : decode cX8_ask 4 = .ok (.invokevirtual 113, 3) := by decide +kernel
theorem dX8_ask_7 : decode cX8_ask 7 = .ok (.invokevirtual 284, 3) := by decide +kernel
theorem dX8_ask_10 : decode cX8_ask 10 = .ok (.istore_n 3, 1) := by decide +kernel
theorem dX8_ask_11 : decode cX8_ask 11 = .ok (.iload_n 3, 1) := by decide +kernel
theorem dX8_ask_12 : decode cX8_ask 12 = .ok (.ifCond .eq 7, 3) := by decide +kernel
theorem dX8_ask_15 : decode cX8_ask 15 = .ok (.iload_n 3, 1) := by decide +kernel
theorem dX8_ask_16 : decode cX8_ask 16 = .ok (.goto 19, 3) := by decide +kernel
theorem dX8_ask_19 : decode cX8_ask 19 = .ok (.aload_n 0, 1) := by decide +kernel
theorem dX8_ask_20 : decode cX8_ask 20 = .ok (.iload_n 1, 1) := by decide +kernel
theorem dX8_ask_21 : decode cX8_ask 21 = .ok (.iload_n 2, 1) := by decide +kernel
theorem dX8_ask_22 : decode cX8_ask 22 = .ok (.invokevirtual 288, 3) := by decide +kernel
theorem dX8_ask_25 : decode cX8_ask 25 = .ok (.aload_n 0, 1) := by decide +kernel
theorem dX8_ask_26 : decode cX8_ask 26 = .ok (.getfield 19, 3) := by decide +kernel
theorem dX8_ask_29 : decode cX8_ask 29 = .ok (.getfield 181, 3) := by decide +kernel
theorem dX8_ask_32 : decode cX8_ask 32 = .ok (.invokevirtual 297, 3) := by decide +kernel
theorem dX8_ask_35 : decode cX8_ask 35 = .ok (.ireturn, 1) := by decide +kernel
theorem dX8_away_0 : decode cX8_away 0 = .ok (.aload_n 0, 1) := by decide +kernel
theorem dX8_away_1 : decode cX8_away 1 = .ok (.iload_n 1, 1) := by decide +kernel
theorem dX8_away_2 : decode cX8_away 2 = .ok (.invokevirtual 132, 3) := by decide +kernel
theorem dX8_away_5 : decode cX8_away 5 = .ok (.ifCond .eq 12, 3) := by decide +kernel
theorem dX8_away_8 : decode cX8_away 8 = .ok (.aload_n 0, 1) := by decide +kernel
theorem dX8_away_9 : decode cX8_away 9 = .ok (.iload_n 1, 1) := by decide +kernel
theorem dX8_away_10 : decode cX8_away 10 = .ok (.iconst 0, 1) := by decide +kernel
theorem dX8_away_11 : decode cX8_away 11 = .ok (.invokevirtual 355, 3) := by decide +kernel
theorem dX8_away_14 : decode cX8_away 14 = .ok (.goto 5, 3) := by decide +kernel
theorem dX8_away_17 : decode cX8_away 17 = .ok (.bipush (-2), 2) := by decide +kernel
theorem dX8_away_19 : decode cX8_away 19 = .ok (.ireturn, 1) := by decide +kernel
theorem dX8_back_0 : decode cX8_back 0 = .ok (.iload_n 1, 1) := by decide +kernel
theorem dX8_back_1 : decode cX8_back 1 = .ok (.ifCond .lt 8, 3) := by decide +kernel
theorem dX8_back_4 : decode cX8_back 4 = .ok (.iload_n 1, 1) := by decide +kernel
theorem dX8_back_5 : decode cX8_back 5 = .ok (.iconst 3, 1) := by decide +kernel
theorem dX8_back_6 : decode cX8_back 6 = .ok (.if_icmp .lt 6, 3) := by decide +kernel
theorem dX8_back_9 : decode cX8_back 9 = .ok (.bipush (-2), 2) := by decide +kernel
theorem dX8_back_11 : decode cX8_back 11 = .ok (.ireturn, 1) := by decide +kernel
theorem dX8_back_12 : decode cX8_back 12 = .ok (.aload_n 0, 1) := by decide +kernel
theorem dX8_back_13 : decode cX8_back 13 = .ok (.getfield 26, 3) := by decide +kernel
theorem dX8_back_16 : decode cX8_back 16 = .ok (.iload_n 1, 1) := by decide +kernel
theorem dX8_back_17 : decode cX8_back 17 = .ok (.aaload, 1) := by decide +kernel
theorem dX8_back_18 : decode cX8_back 18 = .ok (.getfield 378, 3) := by decide +kernel
theorem dX8_back_21 : decode cX8_back 21 = .ok (.ifCond .ne 6, 3) := by decide +kernel
theorem dX8_back_24 : decode cX8_back 24 = .ok (.bipush (-6), 2) := by decide +kernel
theorem dX8_back_26 : decode cX8_back 26 = .ok (.ireturn, 1) := by decide +kernel
theorem dX8_back_27 : decode cX8_back 27 = .ok (.aload_n 0, 1) := by decide +kernel
theorem dX8_back_28 : decode cX8_back 28 = .ok (.getfield 19, 3) := by decide +kernel
theorem dX8_back_31 : decode cX8_back 31 = .ok (.aload_n 0, 1) := by decide +kernel
theorem dX8_back_32 : decode cX8_back 32 = .ok (.getfield 26, 3) := by decide +kernel
theorem dX8_back_35 : decode cX8_back 35 = .ok (.iload_n 1, 1) := by decide +kernel
theorem dX8_back_36 : decode cX8_back 36 = .ok (.aaload, 1) := by decide +kernel
theorem dX8_back_37 : decode cX8_back 37 = .ok (.invokevirtual 97, 3) := by decide +kernel
theorem dX8_back_40 : decode cX8_back 40 = .ok (.aload_n 0, 1) := by decide +kernel
theorem dX8_back_41 : decode cX8_back 41 = .ok (.invokevirtual 101, 3) := by decide +kernel
theorem dX8_back_44 : decode cX8_back 44 = .ok (.iconst 0, 1) := by decide +kernel
theorem dX8_back_45 : decode cX8_back 45 = .ok (.ireturn, 1) := by decide +kernel
theorem dX8_bring_0 : decode cX8_bring 0 = .ok (.aload_n 0, 1) := by decide +kernel
theorem dX8_bring_1 : decode cX8_bring 1 = .ok (.iload_n 1, 1) := by decide +kernel
theorem dX8_bring_2 : decode cX8_bring 2 = .ok (.invokevirtual 165, 3) := by decide +kernel
theorem dX8_bring_5 : decode cX8_bring 5 = .ok (.ifCond .eq 13, 3) := by decide +kernel
theorem dX8_bring_8 : decode cX8_bring 8 = .ok (.iload_n 2, 1) := by decide +kernel
theorem dX8_bring_9 : decode cX8_bring 9 = .ok (.ifCond .lt 9, 3) := by decide +kernel
theorem dX8_bring_12 : decode cX8_bring 12 = .ok (.iload_n 2, 1) := by decide +kernel
theorem dX8_bring_13 : decode cX8_bring 13 = .ok (.bipush 30, 2) := by decide +kernel
theorem dX8_bring_15 : decode cX8_bring 15 = .ok (.if_icmp .le 6, 3) := by decide +kernel
theorem dX8_bring_18 : decode cX8_bring 18 = .ok (.bipush (-2), 2) := by decide +kernel
theorem dX8_bring_20 : decode cX8_bring 20 = .ok (.ireturn, 1) := by decide +kernel
theorem dX8_bring_21 : decode cX8_bring 21 = .ok (.aload_n 0, 1) := by decide +kernel
theorem dX8_bring_22 : decode cX8_bring 22 = .ok (.invokevirtual 272, 3) := by decide +kernel
theorem dX8_bring_25 : decode cX8_bring 25 = .ok (.iload_n 2, 1) := by decide +kernel
theorem dX8_bring_26 : decode cX8_bring 26 = .ok (.if_icmp .lt 5, 3) := by decide +kernel
theorem dX8_bring_29 : decode cX8_bring 29 = .ok (.iconst 0, 1) := by decide +kernel
theorem dX8_bring_30 : decode cX8_bring 30 = .ok (.ireturn, 1) := by decide +kernel
theorem dX8_bring_31 : decode cX8_bring 31 = .ok (.iconst 1, 1) := by decide +kernel
theorem dX8_bring_32 : decode cX8_bring 32 = .ok (.istore_n 3, 1) := by decide +kernel
theorem dX8_bring_33 : decode cX8_bring 33 = .ok (.iload_n 3, 1) := by decide +kernel
theorem dX8_bring_34 : decode cX8_bring 34 = .ok (.bipush 20, 2) := by decide +kernel
theorem dX8_bring_36 : decode cX8_bring 36 = .ok (.if_icmp .gt 21, 3) := by decide +kernel
theorem dX8_bring_39 : decode cX8_bring 39 = .ok (.aload_n 0, 1) := by decide +kernel
theorem dX8_bring_40 : decode cX8_bring 40 = .ok (.iload_n 1, 1) := by decide +kernel
theorem dX8_bring_41 : decode cX8_bring 41 = .ok (.iload_n 3, 1) := by decide +kernel
theorem dX8_bring_42 : decode cX8_bring 42 = .ok (.invokevirtual 275, 3) := by decide +kernel
theorem dX8_bring_45 : decode cX8_bring 45 = .ok (.iload_n 2, 1) := by decide +kernel
theorem dX8_bring_46 : decode cX8_bring 46 = .ok (.if_icmp .lt 5, 3) := by decide +kernel
theorem dX8_bring_49 : decode cX8_bring 49 = .ok (.iload_n 3, 1) := by decide +kernel
theorem dX8_bring_50 : decode cX8_bring 50 = .ok (.ireturn, 1) := by decide +kernel
theorem dX8_bring_51 : decode cX8_bring 51 = .ok (.iinc 3 1, 3) := by decide +kernel
theorem dX8_bring_54 : decode cX8_bring 54 = .ok (.goto (-21), 3) := by decide +kernel
theorem dX8_bring_57 : decode cX8_bring 57 = .ok (.iconst (-1), 1) := by decide +kernel
theorem dX8_bring_58 : decode cX8_bring 58 = .ok (.ireturn, 1) := by decide +kernel
theorem dX8_brings_0 : decode cX8_brings 0 = .ok (.aload_n 0, 1) := by decide +kernel
theorem dX8_brings_1 : decode cX8_brings 1 = .ok (.iload_n 2, 1) := by decide +kernel
theorem dX8_brings_2 : decode cX8_brings 2 = .ok (.invokevirtual 132, 3) := by decide +kernel
theorem dX8_brings_5 : decode cX8_brings 5 = .ok (.ifCond .eq 14, 3) := by decide +kernel
theorem dX8_brings_8 : decode cX8_brings 8 = .ok (.iload_n 1, 1) := by decide +kernel
theorem dX8_brings_9 : decode cX8_brings 9 = .ok (.iconst 1, 1) := by decide +kernel
theorem dX8_brings_10 : decode cX8_brings 10 = .ok (.if_icmp .lt 9, 3) := by decide +kernel
theorem dX8_brings_13 : decode cX8_brings 13 = .ok (.iload_n 1, 1) := by decide +kernel
theorem dX8_brings_14 : decode cX8_brings 14 = .ok (.bipush 20, 2) := by decide +kernel
theorem dX8_brings_16 : decode cX8_brings 16 = .ok (.if_icmp .le 6, 3) := by decide +kernel
theorem dX8_brings_19 : decode cX8_brings 19 = .ok (.bipush (-2), 2) := by decide +kernel
theorem dX8_brings_21 : decode cX8_brings 21 = .ok (.ireturn, 1) := by decide +kernel
theorem dX8_brings_22 : decode cX8_brings 22 = .ok (.aload_n 0, 1) := by decide +kernel
theorem dX8_brings_23 : decode cX8_brings 23 = .ok (.iload_n 2, 1) := by decide +kernel
theorem dX8_brings_24 : decode cX8_brings 24 = .ok (.iload_n 1, 1) := by decide +kernel
theorem dX8_brings_25 : decode cX8_brings 25 = .ok (.invokevirtual 355, 3) := by decide +kernel
theorem dX8_brings_28 : decode cX8_brings 28 = .ok (.ireturn, 1) := by decide +kernel
theorem dX8_by_0 : decode cX8_by 0 = .ok (.aload_n 0, 1) := by decide +kernel
theorem dX8_by_1 : decode cX8_by 1 = .ok (.invokevirtual 177, 3) := by decide +kernel
theorem dX8_by_4 : decode cX8_by 4 = .ok (.ifCond .ne 12, 3) := by decide +kernel
theorem dX8_by_7 : decode cX8_by 7 = .ok (.iload_n 1, 1) := by decide +kernel
theorem dX8_by_8 : decode cX8_by 8 = .ok (.ifCond .lt 8, 3) := by decide +kernel
theorem dX8_by_11 : decode cX8_by 11 = .ok (.iload_n 1, 1) := by decide +kernel
theorem dX8_by_12 : decode cX8_by 12 = .ok (.iconst 4, 1) := by decide +kernel
theorem dX8_by_13 : decode cX8_by 13 = .ok (.if_icmp .lt 6, 3) := by decide +kernel
theorem dX8_by_16 : decode cX8_by 16 = .ok (.bipush (-2), 2) := by decide +kernel
theorem dX8_by_18 : decode cX8_by 18 = .ok (.ireturn, 1) := by decide +kernel
theorem dX8_by_19 : decode cX8_by 19 = .ok (.aload_n 0, 1) := by decide +kernel
theorem dX8_by_20 : decode cX8_by 20 = .ok (.iload_n 1, 1) := by decide +kernel
theorem dX8_by_21 : decode cX8_by 21 = .ok (.invokevirtual 303, 3) := by decide +kernel
theorem dX8_by_24 : decode cX8_by 24 = .ok (.getfield 139, 3) := by decide +kernel
theorem dX8_by_27 : decode cX8_by 27 = .ok (.ireturn, 1) := by decide +kernel
theorem dX8_cart_0 : decode cX8_cart 0 = .ok (.aload_n 0, 1) := by decide +kernel
theorem dX8_cart_1 : decode cX8_cart 1 = .ok (.iload_n 1, 1) := by decide +kernel
theorem dX8_cart_2 : decode cX8_cart 2 = .ok (.invokevirtual 120, 3) := by decide +kernel
theorem dX8_cart_5 : decode cX8_cart 5 = .ok (.ifCond .eq 10, 3) := by decide +kernel
theorem dX8_cart_8 : decode cX8_cart 8 = .ok (.iload_n 2, 1) := by decide +kernel
theorem dX8_cart_9 : decode cX8_cart 9 = .ok (.invokestatic 123, 3) := by decide +kernel
theorem dX8_cart_12 : decode cX8_cart 12 = .ok (.ifCond .ne 6, 3) := by decide +kernel
theorem dX8_cart_15 : decode cX8_cart 15 = .ok (.bipush (-2), 2) := by decide +kernel
theorem dX8_cart_17 : decode cX8_cart 17 = .ok (.ireturn, 1) := by decide +kernel
theorem dX8_cart_18 : decode cX8_cart 18 = .ok (.iload_n 2, 1) := by decide +kernel
theorem dX8_cart_19 : decode cX8_cart 19 = .ok (.ifCond .ne 15, 3) := by decide +kernel
theorem dX8_cart_22 : decode cX8_cart 22 = .ok (.aload_n 0, 1) := by decide +kernel
theorem dX8_cart_23 : decode cX8_cart 23 = .ok (.getfield 19, 3) := by decide +kernel
theorem dX8_cart_26 : decode cX8_cart 26 = .ok (.getfield 126, 3) := by decide +kernel
theorem dX8_cart_29 : decode cX8_cart 29 = .ok (.iload_n 1, 1) := by decide +kernel
theorem dX8_cart_30 : decode cX8_cart 30 = .ok (.iaload, 1) := by decide +kernel
theorem dX8_cart_31 : decode cX8_cart 31 = .ok (.goto 12, 3) := by decide +kernel
theorem dX8_cart_34 : decode cX8_cart 34 = .ok (.aload_n 0, 1) := by decide +kernel
theorem dX8_cart_35 : decode cX8_cart 35 = .ok (.getfield 19, 3) := by decide +kernel
theorem dX8_cart_38 : decode cX8_cart 38 = .ok (.getfield 129, 3) := by decide +kernel
theorem dX8_cart_41 : decode cX8_cart 41 = .ok (.iload_n 1, 1) := by decide +kernel
theorem dX8_cart_42 : decode cX8_cart 42 = .ok (.iaload, 1) := by decide +kernel
theorem dX8_cart_43 : decode cX8_cart 43 = .ok (.ireturn, 1) := by decide +kernel
theorem dX8_chance_0 : decode cX8_chance 0 = .ok (.aload_n 0, 1) := by decide +kernel
theorem dX8_chance_1 : decode cX8_chance 1 = .ok (.iload_n 1, 1) := by decide +kernel
theorem dX8_chance_2 : decode cX8_chance 2 = .ok (.invokevirtual 342, 3) := by decide +kernel
theorem dX8_chance_5 : decode cX8_chance 5 = .ok (.ifCond .eq 21, 3) := by decide +kernel
theorem dX8_chance_8 : decode cX8_chance 8 = .ok (.iload_n 2, 1) := by decide +kernel
theorem dX8_chance_9 : decode cX8_chance 9 = .ok (.ifCond .lt 17, 3) := by decide +kernel
theorem dX8_chance_12 : decode cX8_chance 12 = .ok (.iload_n 2, 1) := by decide +kernel
theorem dX8_chance_13 : decode cX8_chance 13 = .ok (.sipush 700, 3) := by decide +kernel
theorem dX8_chance_16 : decode cX8_chance 16 = .ok (.if_icmp .gt 10, 3) := by decide +kernel
theorem dX8_chance_19 : decode cX8_chance 19 = .ok (.iload_n 3, 1) := by decide +kernel
theorem dX8_chance_20 : decode cX8_chance 20 = .ok (.invokestatic 123, 3) := by decide +kernel
theorem dX8_chance_23 : decode cX8_chance 23 = .ok (.ifCond .ne 7, 3) := by decide +kernel
theorem dX8_chance_26 : decode cX8_chance 26 = .ok (.ldc2_w 345, 3) := by decide +kernel
theorem dX8_chance_29 : decode cX8_chance 29 = .ok (.lreturn, 1) := by decide +kernel
theorem dX8_chance_30 : decode cX8_chance 30 = .ok (.aload_n 0, 1) := by decide +kernel
theorem dX8_chance_31 : decode cX8_chance 31 = .ok (.iload_n 1, 1) := by decide +kernel
theorem dX8_chance_32 : decode cX8_chance 32 = .ok (.iload_n 2, 1) := by decide +kernel
theorem dX8_chance_33 : decode cX8_chance 33 = .ok (.invokevirtual 347, 3) := by decide +kernel
theorem dX8_chance_36 : decode cX8_chance 36 = .ok (.iload_n 1, 1) := by decide +kernel
theorem dX8_chance_37 : decode cX8_chance 37 = .ok (.iconst 1, 1) := by decide +kernel
theorem dX8_chance_38 : decode cX8_chance 38 = .ok (.iadd, 1) := by decide +kernel
theorem dX8_chance_39 : decode cX8_chance 39 = .ok (.invokestatic 351, 3) := by decide +kernel
theorem dX8_chance_42 : decode cX8_chance 42 = .ok (.iload_n 3, 1) := by decide +kernel
theorem dX8_chance_43 : decode cX8_chance 43 = .ok (.invokestatic 319, 3) := by decide +kernel
theorem dX8_chance_46 : decode cX8_chance 46 = .ok (.lreturn, 1) := by decide +kernel
theorem dX8_count_0 : decode cX8_count 0 = .ok (.iload_n 1, 1) := by decide +kernel
theorem dX8_count_1 : decode cX8_count 1 = .ok (.tableswitch 120 0 8 #[51, 59, 67, 75, 83, 91, 99, 107, 115], 51) := by decide +kernel
theorem dX8_count_52 : decode cX8_count 52 = .ok (.aload_n 0, 1) := by decide +kernel
theorem dX8_count_53 : decode cX8_count 53 = .ok (.getfield 19, 3) := by decide +kernel
theorem dX8_count_56 : decode cX8_count 56 = .ok (.getfield 181, 3) := by decide +kernel
theorem dX8_count_59 : decode cX8_count 59 = .ok (.ireturn, 1) := by decide +kernel
theorem dX8_count_60 : decode cX8_count 60 = .ok (.aload_n 0, 1) := by decide +kernel
theorem dX8_count_61 : decode cX8_count 61 = .ok (.getfield 19, 3) := by decide +kernel
theorem dX8_count_64 : decode cX8_count 64 = .ok (.getfield 168, 3) := by decide +kernel
theorem dX8_count_67 : decode cX8_count 67 = .ok (.ireturn, 1) := by decide +kernel
theorem dX8_count_68 : decode cX8_count 68 = .ok (.aload_n 0, 1) := by decide +kernel
theorem dX8_count_69 : decode cX8_count 69 = .ok (.getfield 19, 3) := by decide +kernel
theorem dX8_count_72 : decode cX8_count 72 = .ok (.getfield 369, 3) := by decide +kernel
theorem dX8_count_75 : decode cX8_count 75 = .ok (.ireturn, 1) := by decide +kernel
theorem dX8_count_76 : decode cX8_count 76 = .ok (.aload_n 0, 1) := by decide +kernel
theorem dX8_count_77 : decode cX8_count 77 = .ok (.getfield 19, 3) := by decide +kernel
theorem dX8_count_80 : decode cX8_count 80 = .ok (.getfield 372, 3) := by decide +kernel
theorem dX8_count_83 : decode cX8_count 83 = .ok (.ireturn, 1) := by decide +kernel
theorem dX8_count_84 : decode cX8_count 84 = .ok (.aload_n 0, 1) := by decide +kernel
theorem dX8_count_85 : decode cX8_count 85 = .ok (.getfield 19, 3) := by decide +kernel
theorem dX8_count_88 : decode cX8_count 88 = .ok (.getfield 278, 3) := by decide +kernel
theorem dX8_count_91 : decode cX8_count 91 = .ok (.ireturn, 1) := by decide +kernel
theorem dX8_count_92 : decode cX8_count 92 = .ok (.aload_n 0, 1) := by decide +kernel
theorem dX8_count_93 : decode cX8_count 93 = .ok (.getfield 19, 3) := by decide +kernel
theorem dX8_count_96 : decode cX8_count 96 = .ok (.getfield 358, 3) := by decide +kernel
theorem dX8_count_99 : decode cX8_count 99 = .ok (.ireturn, 1) := by decide +kernel
theorem dX8_count_100 : decode cX8_count 100 = .ok (.aload_n 0, 1) := by decide +kernel
theorem dX8_count_101 : decode cX8_count 101 = .ok (.getfield 19, 3) := by decide +kernel
theorem dX8_count_104 : decode cX8_count 104 = .ok (.getfield 104, 3) := by decide +kernel
theorem dX8_count_107 : decode cX8_count 107 = .ok (.ireturn, 1) := by decide +kernel
theorem dX8_count_108 : decode cX8_count 108 = .ok (.aload_n 0, 1) := by decide +kernel
theorem dX8_count_109 : decode cX8_count 109 = .ok (.getfield 12, 3) := by decide +kernel
theorem dX8_count_112 : decode cX8_count 112 = .ok (.getfield 86, 3) := by decide +kernel
theorem dX8_count_115 : decode cX8_count 115 = .ok (.ireturn, 1) := by decide +kernel
theorem dX8_count_116 : decode cX8_count 116 = .ok (.aload_n 0, 1) := by decide +kernel
theorem dX8_count_117 : decode cX8_count 117 = .ok (.invokevirtual 375, 3) := by decide +kernel
theorem dX8_count_120 : decode cX8_count 120 = .ok (.ireturn, 1) := by decide +kernel
theorem dX8_count_121 : decode cX8_count 121 = .ok (.iconst (-1), 1) := by decide +kernel
theorem dX8_count_122 : decode cX8_count 122 = .ok (.ireturn, 1) := by decide +kernel
theorem dX8_drawn_0 : decode cX8_drawn 0 = .ok (.aload_n 0, 1) := by decide +kernel
theorem dX8_drawn_1 : decode cX8_drawn 1 = .ok (.invokevirtual 177, 3) := by decide +kernel
theorem dX8_drawn_4 : decode cX8_drawn 4 = .ok (.ifCond .ne 21, 3) := by decide +kernel
theorem dX8_drawn_7 : decode cX8_drawn 7 = .ok (.iload_n 1, 1) := by decide +kernel
theorem dX8_drawn_8 : decode cX8_drawn 8 = .ok (.ifCond .lt 17, 3) := by decide +kernel
theorem dX8_drawn_11 : decode cX8_drawn 11 = .ok (.iload_n 1, 1) := by decide +kernel
theorem dX8_drawn_12 : decode cX8_drawn 12 = .ok (.ldc_w 361, 3) := by decide +kernel
theorem dX8_drawn_15 : decode cX8_drawn 15 = .ok (.if_icmp .gt 10, 3) := by decide +kernel
theorem dX8_drawn_18 : decode cX8_drawn 18 = .ok (.iload_n 2, 1) := by decide +kernel
theorem dX8_drawn_19 : decode cX8_drawn 19 = .ok (.invokestatic 123, 3) := by decide +kernel
theorem dX8_drawn_22 : decode cX8_drawn 22 = .ok (.ifCond .ne 6, 3) := by decide +kernel
theorem dX8_drawn_25 : decode cX8_drawn 25 = .ok (.bipush (-2), 2) := by decide +kernel
theorem dX8_drawn_27 : decode cX8_drawn 27 = .ok (.ireturn, 1) := by decide +kernel
theorem dX8_drawn_28 : decode cX8_drawn 28 = .ok (.aload_n 0, 1) := by decide +kernel
theorem dX8_drawn_29 : decode cX8_drawn 29 = .ok (.iload_n 1, 1) := by decide +kernel
theorem dX8_drawn_30 : decode cX8_drawn 30 = .ok (.i2l, 1) := by decide +kernel
theorem dX8_drawn_31 : decode cX8_drawn 31 = .ok (.invokevirtual 362, 3) := by decide +kernel
theorem dX8_drawn_34 : decode cX8_drawn 34 = .ok (.istore_n 3, 1) := by decide +kernel
theorem dX8_drawn_35 : decode cX8_drawn 35 = .ok (.iload_n 2, 1) := by decide +kernel
theorem dX8_drawn_36 : decode cX8_drawn 36 = .ok (.ifCond .ne 7, 3) := by decide +kernel
theorem dX8_drawn_39 : decode cX8_drawn 39 = .ok (.iload_n 3, 1) := by decide +kernel
theorem dX8_drawn_40 : decode cX8_drawn 40 = .ok (.goto 8, 3) := by decide +kernel
theorem dX8_drawn_43 : decode cX8_drawn 43 = .ok (.aload_n 0, 1) := by decide +kernel
theorem dX8_drawn_44 : decode cX8_drawn 44 = .ok (.iload_n 3, 1) := by decide +kernel
theorem dX8_drawn_45 : decode cX8_drawn 45 = .ok (.invokevirtual 366, 3) := by decide +kernel
theorem dX8_drawn_48 : decode cX8_drawn 48 = .ok (.ireturn, 1) := by decide +kernel
theorem dX8_end_0 : decode cX8_end 0 = .ok (.iload_n 1, 1) := by decide +kernel
theorem dX8_end_1 : decode cX8_end 1 = .ok (.ifCond .lt 14, 3) := by decide +kernel
theorem dX8_end_4 : decode cX8_end 4 = .ok (.iload_n 1, 1) := by decide +kernel
theorem dX8_end_5 : decode cX8_end 5 = .ok (.aload_n 0, 1) := by decide +kernel
theorem dX8_end_6 : decode cX8_end 6 = .ok (.getfield 12, 3) := by decide +kernel
theorem dX8_end_9 : decode cX8_end 9 = .ok (.getfield 86, 3) := by decide +kernel
theorem dX8_end_12 : decode cX8_end 12 = .ok (.if_icmp .le 5, 3) := by decide +kernel
theorem dX8_end_15 : decode cX8_end 15 = .ok (.iconst (-1), 1) := by decide +kernel
theorem dX8_end_16 : decode cX8_end 16 = .ok (.ireturn, 1) := by decide +kernel
theorem dX8_end_17 : decode cX8_end 17 = .ok (.aload_n 0, 1) := by decide +kernel
theorem dX8_end_18 : decode cX8_end 18 = .ok (.getfield 12, 3) := by decide +kernel
theorem dX8_end_21 : decode cX8_end 21 = .ok (.iload_n 1, 1) := by decide +kernel
theorem dX8_end_22 : decode cX8_end 22 = .ok (.putfield 86, 3) := by decide +kernel
theorem dX8_end_25 : decode cX8_end 25 = .ok (.iload_n 1, 1) := by decide +kernel
theorem dX8_end_26 : decode cX8_end 26 = .ok (.ireturn, 1) := by decide +kernel
theorem dX8_even_0 : decode cX8_even 0 = .ok (.aload_n 0, 1) := by decide +kernel
theorem dX8_even_1 : decode cX8_even 1 = .ok (.iload_n 1, 1) := by decide +kernel
theorem dX8_even_2 : decode cX8_even 2 = .ok (.invokevirtual 132, 3) := by decide +kernel
theorem dX8_even_5 : decode cX8_even 5 = .ok (.ifCond .eq 17, 3) := by decide +kernel
theorem dX8_even_8 : decode cX8_even 8 = .ok (.aload_n 0, 1) := by decide +kernel
theorem dX8_even_9 : decode cX8_even 9 = .ok (.iload_n 1, 1) := by decide +kernel
theorem dX8_even_10 : decode cX8_even 10 = .ok (.invokevirtual 135, 3) := by decide +kernel
theorem dX8_even_13 : decode cX8_even 13 = .ok (.invokevirtual 210, 3) := by decide +kernel
theorem dX8_even_16 : decode cX8_even 16 = .ok (.invokestatic 200, 3) := by decide +kernel
theorem dX8_even_19 : decode cX8_even 19 = .ok (.goto 5, 3) := by decide +kernel
theorem dX8_even_22 : decode cX8_even 22 = .ok (.bipush (-2), 2) := by decide +kernel
theorem dX8_even_24 : decode cX8_even 24 = .ok (.ireturn, 1) := by decide +kernel
theorem dX8_fault_0 : decode cX8_fault 0 = .ok (.iload_n 1, 1) := by decide +kernel
theorem dX8_fault_1 : decode cX8_fault 1 = .ok (.ifCond .ne 11, 3) := by decide +kernel
theorem dX8_fault_4 : decode cX8_fault 4 = .ok (.aload_n 0, 1) := by decide +kernel
theorem dX8_fault_5 : decode cX8_fault 5 = .ok (.getfield 12, 3) := by decide +kernel
theorem dX8_fault_8 : decode cX8_fault 8 = .ok (.getfield 107, 3) := by decide +kernel
theorem dX8_fault_11 : decode cX8_fault 11 = .ok (.ireturn, 1) := by decide +kernel
theorem dX8_fault_12 : decode cX8_fault 12 = .ok (.iload_n 1, 1) := by decide +kernel
theorem dX8_fault_13 : decode cX8_fault 13 = .ok (.iconst 1, 1) := by decide +kernel
theorem dX8_fault_14 : decode cX8_fault 14 = .ok (.if_icmp .ne 13, 3) := by decide +kernel
theorem dX8_fault_17 : decode cX8_fault 17 = .ok (.aload_n 0, 1) := by decide +kernel
theorem dX8_fault_18 : decode cX8_fault 18 = .ok (.getfield 12, 3) := by decide +kernel
theorem dX8_fault_21 : decode cX8_fault 21 = .ok (.getfield 110, 3) := by decide +kernel
theorem dX8_fault_24 : decode cX8_fault 24 = .ok (.goto 4, 3) := by decide +kernel
theorem dX8_fault_27 : decode cX8_fault 27 = .ok (.iconst (-1), 1) := by decide +kernel
theorem dX8_fault_28 : decode cX8_fault 28 = .ok (.ireturn, 1) := by decide +kernel
theorem dX8_feed_0 : decode cX8_feed 0 = .ok (.aload_n 0, 1) := by decide +kernel
theorem dX8_feed_1 : decode cX8_feed 1 = .ok (.getfield 12, 3) := by decide +kernel
theorem dX8_feed_4 : decode cX8_feed 4 = .ok (.getfield 86, 3) := by decide +kernel
theorem dX8_feed_7 : decode cX8_feed 7 = .ok (.bipush 20, 2) := by decide +kernel
theorem dX8_feed_9 : decode cX8_feed 9 = .ok (.iadd, 1) := by decide +kernel
theorem dX8_feed_10 : decode cX8_feed 10 = .ok (.sipush 500, 3) := by decide +kernel
theorem dX8_feed_13 : decode cX8_feed 13 = .ok (.if_icmp .le 5, 3) := by decide +kernel
theorem dX8_feed_16 : decode cX8_feed 16 = .ok (.iconst (-1), 1) := by decide +kernel
theorem dX8_feed_17 : decode cX8_feed 17 = .ok (.ireturn, 1) := by decide +kernel
theorem dX8_feed_18 : decode cX8_feed 18 = .ok (.aload_n 0, 1) := by decide +kernel
theorem dX8_feed_19 : decode cX8_feed 19 = .ok (.getfield 12, 3) := by decide +kernel
theorem dX8_feed_22 : decode cX8_feed 22 = .ok (.iload_n 1, 1) := by decide +kernel
theorem dX8_feed_23 : decode cX8_feed 23 = .ok (.invokevirtual 89, 3) := by decide +kernel
theorem dX8_feed_26 : decode cX8_feed 26 = .ok (.aload_n 0, 1) := by decide +kernel
theorem dX8_feed_27 : decode cX8_feed 27 = .ok (.getfield 12, 3) := by decide +kernel
theorem dX8_feed_30 : decode cX8_feed 30 = .ok (.iload_n 2, 1) := by decide +kernel
theorem dX8_feed_31 : decode cX8_feed 31 = .ok (.invokevirtual 89, 3) := by decide +kernel
theorem dX8_feed_34 : decode cX8_feed 34 = .ok (.aload_n 0, 1) := by decide +kernel
theorem dX8_feed_35 : decode cX8_feed 35 = .ok (.getfield 12, 3) := by decide +kernel
theorem dX8_feed_38 : decode cX8_feed 38 = .ok (.iload_n 3, 1) := by decide +kernel
theorem dX8_feed_39 : decode cX8_feed 39 = .ok (.invokevirtual 89, 3) := by decide +kernel
theorem dX8_feed_42 : decode cX8_feed 42 = .ok (.aload_n 0, 1) := by decide +kernel
theorem dX8_feed_43 : decode cX8_feed 43 = .ok (.getfield 12, 3) := by decide +kernel
theorem dX8_feed_46 : decode cX8_feed 46 = .ok (.iload 4, 2) := by decide +kernel
theorem dX8_feed_48 : decode cX8_feed 48 = .ok (.invokevirtual 89, 3) := by decide +kernel
theorem dX8_feed_51 : decode cX8_feed 51 = .ok (.aload_n 0, 1) := by decide +kernel
theorem dX8_feed_52 : decode cX8_feed 52 = .ok (.getfield 12, 3) := by decide +kernel
theorem dX8_feed_55 : decode cX8_feed 55 = .ok (.iload 5, 2) := by decide +kernel
theorem dX8_feed_57 : decode cX8_feed 57 = .ok (.invokevirtual 89, 3) := by decide +kernel
theorem dX8_feed_60 : decode cX8_feed 60 = .ok (.aload_n 0, 1) := by decide +kernel
theorem dX8_feed_61 : decode cX8_feed 61 = .ok (.getfield 12, 3) := by decide +kernel
theorem dX8_feed_64 : decode cX8_feed 64 = .ok (.getfield 86, 3) := by decide +kernel
theorem dX8_feed_67 : decode cX8_feed 67 = .ok (.ireturn, 1) := by decide +kernel
theorem dX8_flip_0 : decode cX8_flip 0 = .ok (.aload_n 0, 1) := by decide +kernel
theorem dX8_flip_1 : decode cX8_flip 1 = .ok (.iload_n 1, 1) := by decide +kernel
theorem dX8_flip_2 : decode cX8_flip 2 = .ok (.invokevirtual 132, 3) := by decide +kernel
theorem dX8_flip_5 : decode cX8_flip 5 = .ok (.ifCond .eq 7, 3) := by decide +kernel
theorem dX8_flip_8 : decode cX8_flip 8 = .ok (.iload_n 2, 1) := by decide +kernel
theorem dX8_flip_9 : decode cX8_flip 9 = .ok (.ifCond .ge 6, 3) := by decide +kernel
theorem dX8_flip_12 : decode cX8_flip 12 = .ok (.bipush (-2), 2) := by decide +kernel
theorem dX8_flip_14 : decode cX8_flip 14 = .ok (.ireturn, 1) := by decide +kernel
theorem dX8_flip_15 : decode cX8_flip 15 = .ok (.aload_n 0, 1) := by decide +kernel
theorem dX8_flip_16 : decode cX8_flip 16 = .ok (.iload_n 1, 1) := by decide +kernel
theorem dX8_flip_17 : decode cX8_flip 17 = .ok (.invokevirtual 135, 3) := by decide +kernel
theorem dX8_flip_20 : decode cX8_flip 20 = .ok (.astore_n 3, 1) := by decide +kernel
theorem dX8_flip_21 : decode cX8_flip 21 = .ok (.iload_n 2, 1) := by decide +kernel
theorem dX8_flip_22 : decode cX8_flip 22 = .ok (.aload_n 3, 1) := by decide +kernel
theorem dX8_flip_23 : decode cX8_flip 23 = .ok (.invokevirtual 155, 3) := by decide +kernel
theorem dX8_flip_26 : decode cX8_flip 26 = .ok (.if_icmp .ge 13, 3) := by decide +kernel
theorem dX8_flip_29 : decode cX8_flip 29 = .ok (.aload_n 3, 1) := by decide +kernel
theorem dX8_flip_30 : decode cX8_flip 30 = .ok (.iload_n 2, 1) := by decide +kernel
theorem dX8_flip_31 : decode cX8_flip 31 = .ok (.iconst 1, 1) := by decide +kernel
theorem dX8_flip_32 : decode cX8_flip 32 = .ok (.iadd, 1) := by decide +kernel
theorem dX8_flip_33 : decode cX8_flip 33 = .ok (.invokevirtual 207, 3) := by decide +kernel
theorem dX8_flip_36 : decode cX8_flip 36 = .ok (.goto 4, 3) := by decide +kernel
theorem dX8_flip_39 : decode cX8_flip 39 = .ok (.iconst (-1), 1) := by decide +kernel
theorem dX8_flip_40 : decode cX8_flip 40 = .ok (.ireturn, 1) := by decide +kernel
theorem dX8_forget_0 : decode cX8_forget 0 = .ok (.aload_n 0, 1) := by decide +kernel
theorem dX8_forget_1 : decode cX8_forget 1 = .ok (.iconst 0, 1) := by decide +kernel
theorem dX8_forget_2 : decode cX8_forget 2 = .ok (.putfield 414, 3) := by decide +kernel
theorem dX8_forget_5 : decode cX8_forget 5 = .ok (.aload_n 0, 1) := by decide +kernel
theorem dX8_forget_6 : decode cX8_forget 6 = .ok (.iconst 0, 1) := by decide +kernel
theorem dX8_forget_7 : decode cX8_forget 7 = .ok (.putfield 417, 3) := by decide +kernel
theorem dX8_forget_10 : decode cX8_forget 10 = .ok (.aload_n 0, 1) := by decide +kernel
theorem dX8_forget_11 : decode cX8_forget 11 = .ok (.iconst (-1), 1) := by decide +kernel
theorem dX8_forget_12 : decode cX8_forget 12 = .ok (.putfield 81, 3) := by decide +kernel
theorem dX8_forget_15 : decode cX8_forget 15 = .ok (.return_, 1) := by decide +kernel
theorem dX8_from_0 : decode cX8_from 0 = .ok (.iload_n 2, 1) := by decide +kernel
theorem dX8_from_1 : decode cX8_from 1 = .ok (.ifCond .ge 8, 3) := by decide +kernel
theorem dX8_from_4 : decode cX8_from 4 = .ok (.bipush (-2), 2) := by decide +kernel
theorem dX8_from_6 : decode cX8_from 6 = .ok (.goto 8, 3) := by decide +kernel
theorem dX8_from_9 : decode cX8_from 9 = .ok (.aload_n 0, 1) := by decide +kernel
theorem dX8_from_10 : decode cX8_from 10 = .ok (.iload_n 1, 1) := by decide +kernel
theorem dX8_from_11 : decode cX8_from 11 = .ok (.invokevirtual 259, 3) := by decide +kernel
theorem dX8_from_14 : decode cX8_from 14 = .ok (.istore_n 3, 1) := by decide +kernel
theorem dX8_from_15 : decode cX8_from 15 = .ok (.iload_n 3, 1) := by decide +kernel
theorem dX8_from_16 : decode cX8_from 16 = .ok (.ifCond .eq 5, 3) := by decide +kernel
theorem dX8_from_19 : decode cX8_from 19 = .ok (.iload_n 3, 1) := by decide +kernel
theorem dX8_from_20 : decode cX8_from 20 = .ok (.ireturn, 1) := by decide +kernel
theorem dX8_from_21 : decode cX8_from 21 = .ok (.aload_n 0, 1) := by decide +kernel
theorem dX8_from_22 : decode cX8_from 22 = .ok (.aload_n 0, 1) := by decide +kernel
theorem dX8_from_23 : decode cX8_from 23 = .ok (.getfield 70, 3) := by decide +kernel
theorem dX8_from_26 : decode cX8_from 26 = .ok (.getfield 146, 3) := by decide +kernel
theorem dX8_from_29 : decode cX8_from 29 = .ok (.invokevirtual 242, 3) := by decide +kernel
theorem dX8_from_32 : decode cX8_from 32 = .ok (.aload_n 0, 1) := by decide +kernel
theorem dX8_from_33 : decode cX8_from 33 = .ok (.getfield 70, 3) := by decide +kernel
theorem dX8_from_36 : decode cX8_from 36 = .ok (.iload_n 2, 1) := by decide +kernel
theorem dX8_from_37 : decode cX8_from 37 = .ok (.invokevirtual 265, 3) := by decide +kernel
theorem dX8_from_40 : decode cX8_from 40 = .ok (.ireturn, 1) := by decide +kernel
theorem dX8_gardens_0 : decode cX8_gardens 0 = .ok (.aload_n 0, 1) := by decide +kernel
theorem dX8_gardens_1 : decode cX8_gardens 1 = .ok (.iload_n 1, 1) := by decide +kernel
theorem dX8_gardens_2 : decode cX8_gardens 2 = .ok (.invokevirtual 239, 3) := by decide +kernel
theorem dX8_gardens_5 : decode cX8_gardens 5 = .ok (.ifCond .eq 14, 3) := by decide +kernel
theorem dX8_gardens_8 : decode cX8_gardens 8 = .ok (.aload_n 0, 1) := by decide +kernel
theorem dX8_gardens_9 : decode cX8_gardens 9 = .ok (.iload_n 1, 1) := by decide +kernel
theorem dX8_gardens_10 : decode cX8_gardens 10 = .ok (.invokevirtual 242, 3) := by decide +kernel
theorem dX8_gardens_13 : decode cX8_gardens 13 = .ok (.getfield 253, 3) := by decide +kernel
theorem dX8_gardens_16 : decode cX8_gardens 16 = .ok (.goto 5, 3) := by decide +kernel
theorem dX8_gardens_19 : decode cX8_gardens 19 = .ok (.bipush (-2), 2) := by decide +kernel
theorem dX8_gardens_21 : decode cX8_gardens 21 = .ok (.ireturn, 1) := by decide +kernel
theorem dX8_gets_0 : decode cX8_gets 0 = .ok (.aload_n 0, 1) := by decide +kernel
theorem dX8_gets_1 : decode cX8_gets 1 = .ok (.iload_n 1, 1) := by decide +kernel
theorem dX8_gets_2 : decode cX8_gets 2 = .ok (.invokevirtual 120, 3) := by decide +kernel
theorem dX8_gets_5 : decode cX8_gets 5 = .ok (.ifCond .eq 20, 3) := by decide +kernel
theorem dX8_gets_8 : decode cX8_gets 8 = .ok (.aload_n 0, 1) := by decide +kernel
theorem dX8_gets_9 : decode cX8_gets 9 = .ok (.iload_n 2, 1) := by decide +kernel
theorem dX8_gets_10 : decode cX8_gets 10 = .ok (.invokevirtual 120, 3) := by decide +kernel
theorem dX8_gets_13 : decode cX8_gets 13 = .ok (.ifCond .eq 12, 3) := by decide +kernel
theorem dX8_gets_16 : decode cX8_gets 16 = .ok (.iload_n 1, 1) := by decide +kernel
theorem dX8_gets_17 : decode cX8_gets 17 = .ok (.iload_n 2, 1) := by decide +kernel
theorem dX8_gets_18 : decode cX8_gets 18 = .ok (.if_icmp .eq 7, 3) := by decide +kernel
theorem dX8_gets_21 : decode cX8_gets 21 = .ok (.iconst 1, 1) := by decide +kernel
theorem dX8_gets_22 : decode cX8_gets 22 = .ok (.goto 4, 3) := by decide +kernel
theorem dX8_gets_25 : decode cX8_gets 25 = .ok (.iconst 0, 1) := by decide +kernel
theorem dX8_gets_26 : decode cX8_gets 26 = .ok (.istore 6, 2) := by decide +kernel
theorem dX8_gets_28 : decode cX8_gets 28 = .ok (.iload 6, 2) := by decide +kernel
theorem dX8_gets_30 : decode cX8_gets 30 = .ok (.ifCond .eq 26, 3) := by decide +kernel
theorem dX8_gets_33 : decode cX8_gets 33 = .ok (.iload_n 3, 1) := by decide +kernel
theorem dX8_gets_34 : decode cX8_gets 34 = .ok (.invokestatic 123, 3) := by decide +kernel
theorem dX8_gets_37 : decode cX8_gets 37 = .ok (.ifCond .eq 19, 3) := by decide +kernel
theorem dX8_gets_40 : decode cX8_gets 40 = .ok (.iload 4, 2) := by decide +kernel
theorem dX8_gets_42 : decode cX8_gets 42 = .ok (.invokestatic 123, 3) := by decide +kernel
theorem dX8_gets_45 : decode cX8_gets 45 = .ok (.ifCond .eq 11, 3) := by decide +kernel
theorem dX8_gets_48 : decode cX8_gets 48 = .ok (.iload 5, 2) := by decide +kernel
theorem dX8_gets_50 : decode cX8_gets 50 = .ok (.invokestatic 123, 3) := by decide +kernel
theorem dX8_gets_53 : decode cX8_gets 53 = .ok (.ifCond .ne 7, 3) := by decide +kernel
theorem dX8_gets_56 : decode cX8_gets 56 = .ok (.sipush (-1000), 3) := by decide +kernel
theorem dX8_gets_59 : decode cX8_gets 59 = .ok (.ireturn, 1) := by decide +kernel
theorem dX8_gets_60 : decode cX8_gets 60 = .ok (.aload_n 0, 1) := by decide +kernel
theorem dX8_gets_61 : decode cX8_gets 61 = .ok (.iload_n 1, 1) := by decide +kernel
theorem dX8_gets_62 : decode cX8_gets 62 = .ok (.iload_n 2, 1) := by decide +kernel
theorem dX8_gets_63 : decode cX8_gets 63 = .ok (.iload_n 3, 1) := by decide +kernel
theorem dX8_gets_64 : decode cX8_gets 64 = .ok (.iload 4, 2) := by decide +kernel
theorem dX8_gets_66 : decode cX8_gets 66 = .ok (.invokevirtual 332, 3) := by decide +kernel
theorem dX8_gets_69 : decode cX8_gets 69 = .ok (.astore 7, 2) := by decide +kernel
theorem dX8_gets_71 : decode cX8_gets 71 = .ok (.iload 5, 2) := by decide +kernel
theorem dX8_gets_73 : decode cX8_gets 73 = .ok (.ifCond .ne 12, 3) := by decide +kernel
theorem dX8_gets_76 : decode cX8_gets 76 = .ok (.aload 7, 2) := by decide +kernel
theorem dX8_gets_78 : decode cX8_gets 78 = .ok (.iload_n 3, 1) := by decide +kernel
theorem dX8_gets_79 : decode cX8_gets 79 = .ok (.invokestatic 336, 3) := by decide +kernel
theorem dX8_gets_82 : decode cX8_gets 82 = .ok (.goto 10, 3) := by decide +kernel
theorem dX8_gets_85 : decode cX8_gets 85 = .ok (.aload 7, 2) := by decide +kernel
theorem dX8_gets_87 : decode cX8_gets 87 = .ok (.iload 4, 2) := by decide +kernel
theorem dX8_gets_89 : decode cX8_gets 89 = .ok (.invokestatic 339, 3) := by decide +kernel
theorem dX8_gets_92 : decode cX8_gets 92 = .ok (.ireturn, 1) := by decide +kernel
theorem dX8_gone_0 : decode cX8_gone 0 = .ok (.aload_n 0, 1) := by decide +kernel
theorem dX8_gone_1 : decode cX8_gone 1 = .ok (.iload_n 1, 1) := by decide +kernel
theorem dX8_gone_2 : decode cX8_gone 2 = .ok (.invokevirtual 165, 3) := by decide +kernel
theorem dX8_gone_5 : decode cX8_gone 5 = .ok (.ifCond .eq 21, 3) := by decide +kernel
theorem dX8_gone_8 : decode cX8_gone 8 = .ok (.aload_n 0, 1) := by decide +kernel
theorem dX8_gone_9 : decode cX8_gone 9 = .ok (.iload_n 1, 1) := by decide +kernel
theorem dX8_gone_10 : decode cX8_gone 10 = .ok (.invokevirtual 135, 3) := by decide +kernel
theorem dX8_gone_13 : decode cX8_gone 13 = .ok (.aload_n 0, 1) := by decide +kernel
theorem dX8_gone_14 : decode cX8_gone 14 = .ok (.getfield 19, 3) := by decide +kernel
theorem dX8_gone_17 : decode cX8_gone 17 = .ok (.getfield 168, 3) := by decide +kernel
theorem dX8_gone_20 : decode cX8_gone 20 = .ok (.invokevirtual 174, 3) := by decide +kernel
theorem dX8_gone_23 : decode cX8_gone 23 = .ok (.goto 5, 3) := by decide +kernel
theorem dX8_gone_26 : decode cX8_gone 26 = .ok (.bipush (-2), 2) := by decide +kernel
theorem dX8_gone_28 : decode cX8_gone 28 = .ok (.ireturn, 1) := by decide +kernel
theorem dX8_greatest_0 : decode cX8_greatest 0 = .ok (.aload_n 0, 1) := by decide +kernel
theorem dX8_greatest_1 : decode cX8_greatest 1 = .ok (.iload_n 1, 1) := by decide +kernel
theorem dX8_greatest_2 : decode cX8_greatest 2 = .ok (.aload_n 0, 1) := by decide +kernel
theorem dX8_greatest_3 : decode cX8_greatest 3 = .ok (.iload_n 2, 1) := by decide +kernel
theorem dX8_greatest_4 : decode cX8_greatest 4 = .ok (.invokevirtual 113, 3) := by decide +kernel
theorem dX8_greatest_7 : decode cX8_greatest 7 = .ok (.invokevirtual 284, 3) := by decide +kernel
theorem dX8_greatest_10 : decode cX8_greatest 10 = .ok (.istore_n 3, 1) := by decide +kernel
theorem dX8_greatest_11 : decode cX8_greatest 11 = .ok (.iload_n 3, 1) := by decide +kernel
theorem dX8_greatest_12 : decode cX8_greatest 12 = .ok (.ifCond .eq 7, 3) := by decide +kernel
theorem dX8_greatest_15 : decode cX8_greatest 15 = .ok (.iload_n 3, 1) := by decide +kernel
theorem dX8_greatest_16 : decode cX8_greatest 16 = .ok (.goto 12, 3) := by decide +kernel
theorem dX8_greatest_19 : decode cX8_greatest 19 = .ok (.aload_n 0, 1) := by decide +kernel
theorem dX8_greatest_20 : decode cX8_greatest 20 = .ok (.iload_n 1, 1) := by decide +kernel
theorem dX8_greatest_21 : decode cX8_greatest 21 = .ok (.iload_n 2, 1) := by decide +kernel
theorem dX8_greatest_22 : decode cX8_greatest 22 = .ok (.invokevirtual 288, 3) := by decide +kernel
theorem dX8_greatest_25 : decode cX8_greatest 25 = .ok (.invokevirtual 296, 3) := by decide +kernel
theorem dX8_greatest_28 : decode cX8_greatest 28 = .ok (.ireturn, 1) := by decide +kernel
theorem dX8_heap_0 : decode cX8_heap 0 = .ok (.aload_n 0, 1) := by decide +kernel
theorem dX8_heap_1 : decode cX8_heap 1 = .ok (.iload_n 1, 1) := by decide +kernel
theorem dX8_heap_2 : decode cX8_heap 2 = .ok (.invokevirtual 132, 3) := by decide +kernel
theorem dX8_heap_5 : decode cX8_heap 5 = .ok (.ifCond .eq 7, 3) := by decide +kernel
theorem dX8_heap_8 : decode cX8_heap 8 = .ok (.iload_n 2, 1) := by decide +kernel
theorem dX8_heap_9 : decode cX8_heap 9 = .ok (.ifCond .ge 6, 3) := by decide +kernel
theorem dX8_heap_12 : decode cX8_heap 12 = .ok (.bipush (-2), 2) := by decide +kernel
theorem dX8_heap_14 : decode cX8_heap 14 = .ok (.ireturn, 1) := by decide +kernel
theorem dX8_heap_15 : decode cX8_heap 15 = .ok (.aload_n 0, 1) := by decide +kernel
theorem dX8_heap_16 : decode cX8_heap 16 = .ok (.iload_n 1, 1) := by decide +kernel
theorem dX8_heap_17 : decode cX8_heap 17 = .ok (.invokevirtual 135, 3) := by decide +kernel
theorem dX8_heap_20 : decode cX8_heap 20 = .ok (.iload_n 2, 1) := by decide +kernel
theorem dX8_heap_21 : decode cX8_heap 21 = .ok (.invokevirtual 142, 3) := by decide +kernel
theorem dX8_heap_24 : decode cX8_heap 24 = .ok (.ireturn, 1) := by decide +kernel
theorem dX8_heaps_0 : decode cX8_heaps 0 = .ok (.aload_n 0, 1) := by decide +kernel
theorem dX8_heaps_1 : decode cX8_heaps 1 = .ok (.iload_n 1, 1) := by decide +kernel
theorem dX8_heaps_2 : decode cX8_heaps 2 = .ok (.invokevirtual 132, 3) := by decide +kernel
theorem dX8_heaps_5 : decode cX8_heaps 5 = .ok (.ifCond .eq 14, 3) := by decide +kernel
theorem dX8_heaps_8 : decode cX8_heaps 8 = .ok (.aload_n 0, 1) := by decide +kernel
theorem dX8_heaps_9 : decode cX8_heaps 9 = .ok (.iload_n 1, 1) := by decide +kernel
theorem dX8_heaps_10 : decode cX8_heaps 10 = .ok (.invokevirtual 135, 3) := by decide +kernel
theorem dX8_heaps_13 : decode cX8_heaps 13 = .ok (.getfield 139, 3) := by decide +kernel
theorem dX8_heaps_16 : decode cX8_heaps 16 = .ok (.goto 5, 3) := by decide +kernel
theorem dX8_heaps_19 : decode cX8_heaps 19 = .ok (.bipush (-2), 2) := by decide +kernel
theorem dX8_heaps_21 : decode cX8_heaps 21 = .ok (.ireturn, 1) := by decide +kernel
theorem dX8_heights_0 : decode cX8_heights 0 = .ok (.aload_n 0, 1) := by decide +kernel
theorem dX8_heights_1 : decode cX8_heights 1 = .ok (.iload_n 1, 1) := by decide +kernel
theorem dX8_heights_2 : decode cX8_heights 2 = .ok (.aload_n 0, 1) := by decide +kernel
theorem dX8_heights_3 : decode cX8_heights 3 = .ok (.iload_n 2, 1) := by decide +kernel
theorem dX8_heights_4 : decode cX8_heights 4 = .ok (.invokevirtual 113, 3) := by decide +kernel
theorem dX8_heights_7 : decode cX8_heights 7 = .ok (.invokevirtual 284, 3) := by decide +kernel
theorem dX8_heights_10 : decode cX8_heights 10 = .ok (.istore_n 3, 1) := by decide +kernel
theorem dX8_heights_11 : decode cX8_heights 11 = .ok (.iload_n 3, 1) := by decide +kernel
theorem dX8_heights_12 : decode cX8_heights 12 = .ok (.ifCond .eq 7, 3) := by decide +kernel
theorem dX8_heights_15 : decode cX8_heights 15 = .ok (.iload_n 3, 1) := by decide +kernel
theorem dX8_heights_16 : decode cX8_heights 16 = .ok (.goto 12, 3) := by decide +kernel
theorem dX8_heights_19 : decode cX8_heights 19 = .ok (.aload_n 0, 1) := by decide +kernel
theorem dX8_heights_20 : decode cX8_heights 20 = .ok (.iload_n 1, 1) := by decide +kernel
theorem dX8_heights_21 : decode cX8_heights 21 = .ok (.iload_n 2, 1) := by decide +kernel
theorem dX8_heights_22 : decode cX8_heights 22 = .ok (.invokevirtual 288, 3) := by decide +kernel
theorem dX8_heights_25 : decode cX8_heights 25 = .ok (.getfield 292, 3) := by decide +kernel
theorem dX8_heights_28 : decode cX8_heights 28 = .ok (.ireturn, 1) := by decide +kernel
theorem dX8_image_0 : decode cX8_image 0 = .ok (.iload_n 1, 1) := by decide +kernel
theorem dX8_image_1 : decode cX8_image 1 = .ok (.ifCond .lt 8, 3) := by decide +kernel
theorem dX8_image_4 : decode cX8_image 4 = .ok (.iload_n 1, 1) := by decide +kernel
theorem dX8_image_5 : decode cX8_image 5 = .ok (.iconst 3, 1) := by decide +kernel
theorem dX8_image_6 : decode cX8_image 6 = .ok (.if_icmp .lt 6, 3) := by decide +kernel
theorem dX8_image_9 : decode cX8_image 9 = .ok (.bipush (-2), 2) := by decide +kernel
theorem dX8_image_11 : decode cX8_image 11 = .ok (.ireturn, 1) := by decide +kernel
theorem dX8_image_12 : decode cX8_image 12 = .ok (.aload_n 0, 1) := by decide +kernel
theorem dX8_image_13 : decode cX8_image 13 = .ok (.getfield 26, 3) := by decide +kernel
theorem dX8_image_16 : decode cX8_image 16 = .ok (.iload_n 1, 1) := by decide +kernel
theorem dX8_image_17 : decode cX8_image 17 = .ok (.aaload, 1) := by decide +kernel
theorem dX8_image_18 : decode cX8_image 18 = .ok (.aload_n 0, 1) := by decide +kernel
theorem dX8_image_19 : decode cX8_image 19 = .ok (.getfield 19, 3) := by decide +kernel
theorem dX8_image_22 : decode cX8_image 22 = .ok (.invokevirtual 97, 3) := by decide +kernel
theorem dX8_image_25 : decode cX8_image 25 = .ok (.aload_n 0, 1) := by decide +kernel
theorem dX8_image_26 : decode cX8_image 26 = .ok (.getfield 26, 3) := by decide +kernel
theorem dX8_image_29 : decode cX8_image 29 = .ok (.iload_n 1, 1) := by decide +kernel
theorem dX8_image_30 : decode cX8_image 30 = .ok (.aaload, 1) := by decide +kernel
theorem dX8_image_31 : decode cX8_image 31 = .ok (.iconst 1, 1) := by decide +kernel
theorem dX8_image_32 : decode cX8_image 32 = .ok (.putfield 378, 3) := by decide +kernel
theorem dX8_image_35 : decode cX8_image 35 = .ok (.iconst 0, 1) := by decide +kernel
theorem dX8_image_36 : decode cX8_image 36 = .ok (.ireturn, 1) := by decide +kernel
theorem dX8_isCart_0 : decode cX8_isCart 0 = .ok (.iload_n 1, 1) := by decide +kernel
theorem dX8_isCart_1 : decode cX8_isCart 1 = .ok (.ifCond .lt 18, 3) := by decide +kernel
theorem dX8_isCart_4 : decode cX8_isCart 4 = .ok (.iload_n 1, 1) := by decide +kernel
theorem dX8_isCart_5 : decode cX8_isCart 5 = .ok (.aload_n 0, 1) := by decide +kernel
theorem dX8_isCart_6 : decode cX8_isCart 6 = .ok (.getfield 19, 3) := by decide +kernel
theorem dX8_isCart_9 : decode cX8_isCart 9 = .ok (.getfield 278, 3) := by decide +kernel
theorem dX8_isCart_12 : decode cX8_isCart 12 = .ok (.if_icmp .ge 7, 3) := by decide +kernel
theorem dX8_isCart_15 : decode cX8_isCart 15 = .ok (.iconst 1, 1) := by decide +kernel
theorem dX8_isCart_16 : decode cX8_isCart 16 = .ok (.goto 4, 3) := by decide +kernel
theorem dX8_isCart_19 : decode cX8_isCart 19 = .ok (.iconst 0, 1) := by decide +kernel
theorem dX8_isCart_20 : decode cX8_isCart 20 = .ok (.ireturn, 1) := by decide +kernel
theorem dX8_isChanceDay_0 : decode cX8_isChanceDay 0 = .ok (.aload_n 0, 1) := by decide +kernel
theorem dX8_isChanceDay_1 : decode cX8_isChanceDay 1 = .ok (.iload_n 1, 1) := by decide +kernel
theorem dX8_isChanceDay_2 : decode cX8_isChanceDay 2 = .ok (.invokevirtual 165, 3) := by decide +kernel
theorem dX8_isChanceDay_5 : decode cX8_isChanceDay 5 = .ok (.ifCond .eq 13, 3) := by decide +kernel
theorem dX8_isChanceDay_8 : decode cX8_isChanceDay 8 = .ok (.iload_n 1, 1) := by decide +kernel
theorem dX8_isChanceDay_9 : decode cX8_isChanceDay 9 = .ok (.bipush 7, 2) := by decide +kernel
theorem dX8_isChanceDay_11 : decode cX8_isChanceDay 11 = .ok (.if_icmp .gt 7, 3) := by decide +kernel
theorem dX8_isChanceDay_14 : decode cX8_isChanceDay 14 = .ok (.iconst 1, 1) := by decide +kernel
theorem dX8_isChanceDay_15 : decode cX8_isChanceDay 15 = .ok (.goto 4, 3) := by decide +kernel
theorem dX8_isChanceDay_18 : decode cX8_isChanceDay 18 = .ok (.iconst 0, 1) := by decide +kernel
theorem dX8_isChanceDay_19 : decode cX8_isChanceDay 19 = .ok (.ireturn, 1) := by decide +kernel
theorem dX8_isDay_0 : decode cX8_isDay 0 = .ok (.aload_n 0, 1) := by decide +kernel
theorem dX8_isDay_1 : decode cX8_isDay 1 = .ok (.invokevirtual 177, 3) := by decide +kernel
theorem dX8_isDay_4 : decode cX8_isDay 4 = .ok (.ifCond .ne 22, 3) := by decide +kernel
theorem dX8_isDay_7 : decode cX8_isDay 7 = .ok (.iload_n 1, 1) := by decide +kernel
theorem dX8_isDay_8 : decode cX8_isDay 8 = .ok (.ifCond .lt 18, 3) := by decide +kernel
theorem dX8_isDay_11 : decode cX8_isDay 11 = .ok (.iload_n 1, 1) := by decide +kernel
theorem dX8_isDay_12 : decode cX8_isDay 12 = .ok (.aload_n 0, 1) := by decide +kernel
theorem dX8_isDay_13 : decode cX8_isDay 13 = .ok (.getfield 19, 3) := by decide +kernel
theorem dX8_isDay_16 : decode cX8_isDay 16 = .ok (.getfield 181, 3) := by decide +kernel
theorem dX8_isDay_19 : decode cX8_isDay 19 = .ok (.if_icmp .gt 7, 3) := by decide +kernel
theorem dX8_isDay_22 : decode cX8_isDay 22 = .ok (.iconst 1, 1) := by decide +kernel
theorem dX8_isDay_23 : decode cX8_isDay 23 = .ok (.goto 4, 3) := by decide +kernel
theorem dX8_isDay_26 : decode cX8_isDay 26 = .ok (.iconst 0, 1) := by decide +kernel
theorem dX8_isDay_27 : decode cX8_isDay 27 = .ok (.ireturn, 1) := by decide +kernel
theorem dX8_isDayAheadOfLast_0 : decode cX8_isDayAheadOfLast 0 = .ok (.aload_n 0, 1) := by decide +kernel
theorem dX8_isDayAheadOfLast_1 : decode cX8_isDayAheadOfLast 1 = .ok (.iload_n 1, 1) := by decide +kernel
theorem dX8_isDayAheadOfLast_2 : decode cX8_isDayAheadOfLast 2 = .ok (.invokevirtual 132, 3) := by decide +kernel
theorem dX8_isDayAheadOfLast_5 : decode cX8_isDayAheadOfLast 5 = .ok (.ifCond .eq 18, 3) := by decide +kernel
theorem dX8_isDayAheadOfLast_8 : decode cX8_isDayAheadOfLast 8 = .ok (.iload_n 1, 1) := by decide +kernel
theorem dX8_isDayAheadOfLast_9 : decode cX8_isDayAheadOfLast 9 = .ok (.aload_n 0, 1) := by decide +kernel
theorem dX8_isDayAheadOfLast_10 : decode cX8_isDayAheadOfLast 10 = .ok (.getfield 19, 3) := by decide +kernel
theorem dX8_isDayAheadOfLast_13 : decode cX8_isDayAheadOfLast 13 = .ok (.getfield 181, 3) := by decide +kernel
theorem dX8_isDayAheadOfLast_16 : decode cX8_isDayAheadOfLast 16 = .ok (.if_icmp .ge 7, 3) := by decide +kernel
theorem dX8_isDayAheadOfLast_19 : decode cX8_isDayAheadOfLast 19 = .ok (.iconst 1, 1) := by decide +kernel
theorem dX8_isDayAheadOfLast_20 : decode cX8_isDayAheadOfLast 20 = .ok (.goto 4, 3) := by decide +kernel
theorem dX8_isDayAheadOfLast_23 : decode cX8_isDayAheadOfLast 23 = .ok (.iconst 0, 1) := by decide +kernel
theorem dX8_isDayAheadOfLast_24 : decode cX8_isDayAheadOfLast 24 = .ok (.ireturn, 1) := by decide +kernel
theorem dX8_isOfAll_0 : decode cX8_isOfAll 0 = .ok (.aload_n 0, 1) := by decide +kernel
theorem dX8_isOfAll_1 : decode cX8_isOfAll 1 = .ok (.invokevirtual 177, 3) := by decide +kernel
theorem dX8_isOfAll_4 : decode cX8_isOfAll 4 = .ok (.ifCond .ne 18, 3) := by decide +kernel
theorem dX8_isOfAll_7 : decode cX8_isOfAll 7 = .ok (.iload_n 1, 1) := by decide +kernel
theorem dX8_isOfAll_8 : decode cX8_isOfAll 8 = .ok (.iconst 1, 1) := by decide +kernel
theorem dX8_isOfAll_9 : decode cX8_isOfAll 9 = .ok (.if_icmp .lt 13, 3) := by decide +kernel
theorem dX8_isOfAll_12 : decode cX8_isOfAll 12 = .ok (.iload_n 1, 1) := by decide +kernel
theorem dX8_isOfAll_13 : decode cX8_isOfAll 13 = .ok (.bipush 14, 2) := by decide +kernel
theorem dX8_isOfAll_15 : decode cX8_isOfAll 15 = .ok (.if_icmp .gt 7, 3) := by decide +kernel
theorem dX8_isOfAll_18 : decode cX8_isOfAll 18 = .ok (.iconst 1, 1) := by decide +kernel
theorem dX8_isOfAll_19 : decode cX8_isOfAll 19 = .ok (.goto 4, 3) := by decide +kernel
theorem dX8_isOfAll_22 : decode cX8_isOfAll 22 = .ok (.iconst 0, 1) := by decide +kernel
theorem dX8_isOfAll_23 : decode cX8_isOfAll 23 = .ok (.ireturn, 1) := by decide +kernel
theorem dX8_isSlot_0 : decode cX8_isSlot 0 = .ok (.iload_n 0, 1) := by decide +kernel
theorem dX8_isSlot_1 : decode cX8_isSlot 1 = .ok (.ifCond .lt 12, 3) := by decide +kernel
theorem dX8_isSlot_4 : decode cX8_isSlot 4 = .ok (.iload_n 0, 1) := by decide +kernel
theorem dX8_isSlot_5 : decode cX8_isSlot 5 = .ok (.iconst 4, 1) := by decide +kernel
theorem dX8_isSlot_6 : decode cX8_isSlot 6 = .ok (.if_icmp .ge 7, 3) := by decide +kernel
theorem dX8_isSlot_9 : decode cX8_isSlot 9 = .ok (.iconst 1, 1) := by decide +kernel
theorem dX8_isSlot_10 : decode cX8_isSlot 10 = .ok (.goto 4, 3) := by decide +kernel
theorem dX8_isSlot_13 : decode cX8_isSlot 13 = .ok (.iconst 0, 1) := by decide +kernel
theorem dX8_isSlot_14 : decode cX8_isSlot 14 = .ok (.ireturn, 1) := by decide +kernel
theorem dX8_isTold_0 : decode cX8_isTold 0 = .ok (.iload_n 1, 1) := by decide +kernel
theorem dX8_isTold_1 : decode cX8_isTold 1 = .ok (.ifCond .lt 18, 3) := by decide +kernel
theorem dX8_isTold_4 : decode cX8_isTold 4 = .ok (.iload_n 1, 1) := by decide +kernel
theorem dX8_isTold_5 : decode cX8_isTold 5 = .ok (.aload_n 0, 1) := by decide +kernel
theorem dX8_isTold_6 : decode cX8_isTold 6 = .ok (.getfield 19, 3) := by decide +kernel
theorem dX8_isTold_9 : decode cX8_isTold 9 = .ok (.getfield 372, 3) := by decide +kernel
theorem dX8_isTold_12 : decode cX8_isTold 12 = .ok (.if_icmp .ge 7, 3) := by decide +kernel
theorem dX8_isTold_15 : decode cX8_isTold 15 = .ok (.iconst 1, 1) := by decide +kernel
theorem dX8_isTold_16 : decode cX8_isTold 16 = .ok (.goto 4, 3) := by decide +kernel
theorem dX8_isTold_19 : decode cX8_isTold 19 = .ok (.iconst 0, 1) := by decide +kernel
theorem dX8_isTold_20 : decode cX8_isTold 20 = .ok (.ireturn, 1) := by decide +kernel
theorem dX8_later_0 : decode cX8_later 0 = .ok (.aload_n 0, 1) := by decide +kernel
theorem dX8_later_1 : decode cX8_later 1 = .ok (.iload_n 1, 1) := by decide +kernel
theorem dX8_later_2 : decode cX8_later 2 = .ok (.invokevirtual 132, 3) := by decide +kernel
theorem dX8_later_5 : decode cX8_later 5 = .ok (.ifCond .eq 18, 3) := by decide +kernel
theorem dX8_later_8 : decode cX8_later 8 = .ok (.iload_n 2, 1) := by decide +kernel
theorem dX8_later_9 : decode cX8_later 9 = .ok (.ifCond .lt 14, 3) := by decide +kernel
theorem dX8_later_12 : decode cX8_later 12 = .ok (.iload_n 2, 1) := by decide +kernel
theorem dX8_later_13 : decode cX8_later 13 = .ok (.sipush 500, 3) := by decide +kernel
theorem dX8_later_16 : decode cX8_later 16 = .ok (.if_icmp .gt 7, 3) := by decide +kernel
theorem dX8_later_19 : decode cX8_later 19 = .ok (.iload_n 3, 1) := by decide +kernel
theorem dX8_later_20 : decode cX8_later 20 = .ok (.ifCond .ge 6, 3) := by decide +kernel
theorem dX8_later_23 : decode cX8_later 23 = .ok (.bipush (-2), 2) := by decide +kernel
theorem dX8_later_25 : decode cX8_later 25 = .ok (.ireturn, 1) := by decide +kernel
theorem dX8_later_26 : decode cX8_later 26 = .ok (.aload_n 0, 1) := by decide +kernel
theorem dX8_later_27 : decode cX8_later 27 = .ok (.getfield 70, 3) := by decide +kernel
theorem dX8_later_30 : decode cX8_later 30 = .ok (.aload_n 0, 1) := by decide +kernel
theorem dX8_later_31 : decode cX8_later 31 = .ok (.iload_n 1, 1) := by decide +kernel
theorem dX8_later_32 : decode cX8_later 32 = .ok (.invokevirtual 135, 3) := by decide +kernel
theorem dX8_later_35 : decode cX8_later 35 = .ok (.invokevirtual 230, 3) := by decide +kernel
theorem dX8_later_38 : decode cX8_later 38 = .ok (.iconst 0, 1) := by decide +kernel
theorem dX8_later_39 : decode cX8_later 39 = .ok (.istore 4, 2) := by decide +kernel
theorem dX8_later_41 : decode cX8_later 41 = .ok (.iload 4, 2) := by decide +kernel
theorem dX8_later_43 : decode cX8_later 43 = .ok (.iload_n 2, 1) := by decide +kernel
theorem dX8_later_44 : decode cX8_later 44 = .ok (.if_icmp .ge 23, 3) := by decide +kernel
theorem dX8_later_47 : decode cX8_later 47 = .ok (.aload_n 0, 1) := by decide +kernel
theorem dX8_later_48 : decode cX8_later 48 = .ok (.getfield 70, 3) := by decide +kernel
theorem dX8_later_51 : decode cX8_later 51 = .ok (.aload_n 0, 1) := by decide +kernel
theorem dX8_later_52 : decode cX8_later 52 = .ok (.getfield 19, 3) := by decide +kernel
theorem dX8_later_55 : decode cX8_later 55 = .ok (.getfield 168, 3) := by decide +kernel
theorem dX8_later_58 : decode cX8_later 58 = .ok (.invokevirtual 233, 3) := by decide +kernel
theorem dX8_later_61 : decode cX8_later 61 = .ok (.iinc 4 1, 3) := by decide +kernel
theorem dX8_later_64 : decode cX8_later 64 = .ok (.goto (-23), 3) := by decide +kernel
theorem dX8_later_67 : decode cX8_later 67 = .ok (.aload_n 0, 1) := by decide +kernel
theorem dX8_later_68 : decode cX8_later 68 = .ok (.getfield 70, 3) := by decide +kernel
theorem dX8_later_71 : decode cX8_later 71 = .ok (.iload_n 3, 1) := by decide +kernel
theorem dX8_later_72 : decode cX8_later 72 = .ok (.invokevirtual 142, 3) := by decide +kernel
theorem dX8_later_75 : decode cX8_later 75 = .ok (.ireturn, 1) := by decide +kernel
theorem dX8_latest_0 : decode cX8_latest 0 = .ok (.aload_n 0, 1) := by decide +kernel
theorem dX8_latest_1 : decode cX8_latest 1 = .ok (.invokevirtual 177, 3) := by decide +kernel
theorem dX8_latest_4 : decode cX8_latest 4 = .ok (.ifCond .ne 13, 3) := by decide +kernel
theorem dX8_latest_7 : decode cX8_latest 7 = .ok (.iload_n 1, 1) := by decide +kernel
theorem dX8_latest_8 : decode cX8_latest 8 = .ok (.ifCond .lt 9, 3) := by decide +kernel
theorem dX8_latest_11 : decode cX8_latest 11 = .ok (.iload_n 1, 1) := by decide +kernel
theorem dX8_latest_12 : decode cX8_latest 12 = .ok (.bipush 30, 2) := by decide +kernel
theorem dX8_latest_14 : decode cX8_latest 14 = .ok (.if_icmp .le 6, 3) := by decide +kernel
theorem dX8_latest_17 : decode cX8_latest 17 = .ok (.bipush (-2), 2) := by decide +kernel
theorem dX8_latest_19 : decode cX8_latest 19 = .ok (.ireturn, 1) := by decide +kernel
theorem dX8_latest_20 : decode cX8_latest 20 = .ok (.aload_n 0, 1) := by decide +kernel
theorem dX8_latest_21 : decode cX8_latest 21 = .ok (.invokevirtual 272, 3) := by decide +kernel
theorem dX8_latest_24 : decode cX8_latest 24 = .ok (.iload_n 1, 1) := by decide +kernel
theorem dX8_latest_25 : decode cX8_latest 25 = .ok (.if_icmp .lt 5, 3) := by decide +kernel
theorem dX8_latest_28 : decode cX8_latest 28 = .ok (.iconst (-1), 1) := by decide +kernel
theorem dX8_latest_29 : decode cX8_latest 29 = .ok (.ireturn, 1) := by decide +kernel
theorem dX8_latest_30 : decode cX8_latest 30 = .ok (.aload_n 0, 1) := by decide +kernel
theorem dX8_latest_31 : decode cX8_latest 31 = .ok (.getfield 19, 3) := by decide +kernel
theorem dX8_latest_34 : decode cX8_latest 34 = .ok (.getfield 181, 3) := by decide +kernel
theorem dX8_latest_37 : decode cX8_latest 37 = .ok (.iconst 1, 1) := by decide +kernel
theorem dX8_latest_38 : decode cX8_latest 38 = .ok (.isub, 1) := by decide +kernel
theorem dX8_latest_39 : decode cX8_latest 39 = .ok (.istore_n 2, 1) := by decide +kernel
theorem dX8_latest_40 : decode cX8_latest 40 = .ok (.iload_n 2, 1) := by decide +kernel
theorem dX8_latest_41 : decode cX8_latest 41 = .ok (.ifCond .lt 22, 3) := by decide +kernel
theorem dX8_latest_44 : decode cX8_latest 44 = .ok (.aload_n 0, 1) := by decide +kernel
theorem dX8_latest_45 : decode cX8_latest 45 = .ok (.iload_n 2, 1) := by decide +kernel
theorem dX8_latest_46 : decode cX8_latest 46 = .ok (.bipush 20, 2) := by decide +kernel
theorem dX8_latest_48 : decode cX8_latest 48 = .ok (.invokevirtual 275, 3) := by decide +kernel
theorem dX8_latest_51 : decode cX8_latest 51 = .ok (.iload_n 1, 1) := by decide +kernel
theorem dX8_latest_52 : decode cX8_latest 52 = .ok (.if_icmp .lt 5, 3) := by decide +kernel
theorem dX8_latest_55 : decode cX8_latest 55 = .ok (.iload_n 2, 1) := by decide +kernel
theorem dX8_latest_56 : decode cX8_latest 56 = .ok (.ireturn, 1) := by decide +kernel
theorem dX8_latest_57 : decode cX8_latest 57 = .ok (.iinc 2 (-1), 3) := by decide +kernel
theorem dX8_latest_60 : decode cX8_latest 60 = .ok (.goto (-20), 3) := by decide +kernel
theorem dX8_latest_63 : decode cX8_latest 63 = .ok (.iconst (-1), 1) := by decide +kernel
theorem dX8_latest_64 : decode cX8_latest 64 = .ok (.ireturn, 1) := by decide +kernel
theorem dX8_law_0 : decode cX8_law 0 = .ok (.aload_n 0, 1) := by decide +kernel
theorem dX8_law_1 : decode cX8_law 1 = .ok (.invokevirtual 177, 3) := by decide +kernel
theorem dX8_law_4 : decode cX8_law 4 = .ok (.ifCond .eq 6, 3) := by decide +kernel
theorem dX8_law_7 : decode cX8_law 7 = .ok (.bipush (-2), 2) := by decide +kernel
theorem dX8_law_9 : decode cX8_law 9 = .ok (.ireturn, 1) := by decide +kernel
theorem dX8_law_10 : decode cX8_law 10 = .ok (.iconst 0, 1) := by decide +kernel
theorem dX8_law_11 : decode cX8_law 11 = .ok (.istore_n 1, 1) := by decide +kernel
theorem dX8_law_12 : decode cX8_law 12 = .ok (.iconst (-1), 1) := by decide +kernel
theorem dX8_law_13 : decode cX8_law 13 = .ok (.istore_n 2, 1) := by decide +kernel
theorem dX8_law_14 : decode cX8_law 14 = .ok (.iconst 0, 1) := by decide +kernel
theorem dX8_law_15 : decode cX8_law 15 = .ok (.istore_n 3, 1) := by decide +kernel
theorem dX8_law_16 : decode cX8_law 16 = .ok (.iload_n 3, 1) := by decide +kernel
theorem dX8_law_17 : decode cX8_law 17 = .ok (.iconst 4, 1) := by decide +kernel
theorem dX8_law_18 : decode cX8_law 18 = .ok (.if_icmp .ge 30, 3) := by decide +kernel
theorem dX8_law_21 : decode cX8_law 21 = .ok (.aload_n 0, 1) := by decide +kernel
theorem dX8_law_22 : decode cX8_law 22 = .ok (.iload_n 3, 1) := by decide +kernel
theorem dX8_law_23 : decode cX8_law 23 = .ok (.invokevirtual 303, 3) := by decide +kernel
theorem dX8_law_26 : decode cX8_law 26 = .ok (.getfield 139, 3) := by decide +kernel
theorem dX8_law_29 : decode cX8_law 29 = .ok (.istore 4, 2) := by decide +kernel
theorem dX8_law_31 : decode cX8_law 31 = .ok (.iload 4, 2) := by decide +kernel
theorem dX8_law_33 : decode cX8_law 33 = .ok (.iload_n 2, 1) := by decide +kernel
theorem dX8_law_34 : decode cX8_law 34 = .ok (.if_icmp .le 8, 3) := by decide +kernel
theorem dX8_law_37 : decode cX8_law 37 = .ok (.iload_n 3, 1) := by decide +kernel
theorem dX8_law_38 : decode cX8_law 38 = .ok (.istore_n 1, 1) := by decide +kernel
theorem dX8_law_39 : decode cX8_law 39 = .ok (.iload 4, 2) := by decide +kernel
theorem dX8_law_41 : decode cX8_law 41 = .ok (.istore_n 2, 1) := by decide +kernel
theorem dX8_law_42 : decode cX8_law 42 = .ok (.iinc 3 1, 3) := by decide +kernel
theorem dX8_law_45 : decode cX8_law 45 = .ok (.goto (-29), 3) := by decide +kernel
theorem dX8_law_48 : decode cX8_law 48 = .ok (.iload_n 1, 1) := by decide +kernel
theorem dX8_law_49 : decode cX8_law 49 = .ok (.ireturn, 1) := by decide +kernel
theorem dX8_laws_0 : decode cX8_laws 0 = .ok (.aload_n 0, 1) := by decide +kernel
theorem dX8_laws_1 : decode cX8_laws 1 = .ok (.iload_n 1, 1) := by decide +kernel
theorem dX8_laws_2 : decode cX8_laws 2 = .ok (.aload_n 0, 1) := by decide +kernel
theorem dX8_laws_3 : decode cX8_laws 3 = .ok (.invokevirtual 177, 3) := by decide +kernel
theorem dX8_laws_6 : decode cX8_laws 6 = .ok (.ifCond .ne 7, 3) := by decide +kernel
theorem dX8_laws_9 : decode cX8_laws 9 = .ok (.iconst 1, 1) := by decide +kernel
theorem dX8_laws_10 : decode cX8_laws 10 = .ok (.goto 4, 3) := by decide +kernel
theorem dX8_laws_13 : decode cX8_laws 13 = .ok (.iconst 0, 1) := by decide +kernel
theorem dX8_laws_14 : decode cX8_laws 14 = .ok (.invokevirtual 284, 3) := by decide +kernel
theorem dX8_laws_17 : decode cX8_laws 17 = .ok (.istore_n 2, 1) := by decide +kernel
theorem dX8_laws_18 : decode cX8_laws 18 = .ok (.iload_n 2, 1) := by decide +kernel
theorem dX8_laws_19 : decode cX8_laws 19 = .ok (.ifCond .eq 5, 3) := by decide +kernel
theorem dX8_laws_22 : decode cX8_laws 22 = .ok (.iload_n 2, 1) := by decide +kernel
theorem dX8_laws_23 : decode cX8_laws 23 = .ok (.ireturn, 1) := by decide +kernel
theorem dX8_laws_24 : decode cX8_laws 24 = .ok (.iconst 0, 1) := by decide +kernel
theorem dX8_laws_25 : decode cX8_laws 25 = .ok (.istore_n 3, 1) := by decide +kernel
theorem dX8_laws_26 : decode cX8_laws 26 = .ok (.iconst 0, 1) := by decide +kernel
theorem dX8_laws_27 : decode cX8_laws 27 = .ok (.istore 4, 2) := by decide +kernel
theorem dX8_laws_29 : decode cX8_laws 29 = .ok (.iload 4, 2) := by decide +kernel
theorem dX8_laws_31 : decode cX8_laws 31 = .ok (.iconst 4, 1) := by decide +kernel
theorem dX8_laws_32 : decode cX8_laws 32 = .ok (.if_icmp .ge 39, 3) := by decide +kernel
theorem dX8_laws_35 : decode cX8_laws 35 = .ok (.aload_n 0, 1) := by decide +kernel
theorem dX8_laws_36 : decode cX8_laws 36 = .ok (.iload 4, 2) := by decide +kernel
theorem dX8_laws_38 : decode cX8_laws 38 = .ok (.invokevirtual 303, 3) := by decide +kernel
theorem dX8_laws_41 : decode cX8_laws 41 = .ok (.pop, 1) := by decide +kernel
theorem dX8_laws_42 : decode cX8_laws 42 = .ok (.aload_n 0, 1) := by decide +kernel
theorem dX8_laws_43 : decode cX8_laws 43 = .ok (.getfield 32, 3) := by decide +kernel
theorem dX8_laws_46 : decode cX8_laws 46 = .ok (.iload_n 1, 1) := by decide +kernel
theorem dX8_laws_47 : decode cX8_laws 47 = .ok (.aaload, 1) := by decide +kernel
theorem dX8_laws_48 : decode cX8_laws 48 = .ok (.aload_n 0, 1) := by decide +kernel
theorem dX8_laws_49 : decode cX8_laws 49 = .ok (.getfield 43, 3) := by decide +kernel
theorem dX8_laws_52 : decode cX8_laws 52 = .ok (.invokevirtual 306, 3) := by decide +kernel
theorem dX8_laws_55 : decode cX8_laws 55 = .ok (.ifCond .eq 10, 3) := by decide +kernel
theorem dX8_laws_58 : decode cX8_laws 58 = .ok (.iload_n 3, 1) := by decide +kernel
theorem dX8_laws_59 : decode cX8_laws 59 = .ok (.iconst 1, 1) := by decide +kernel
theorem dX8_laws_60 : decode cX8_laws 60 = .ok (.iload 4, 2) := by decide +kernel
theorem dX8_laws_62 : decode cX8_laws 62 = .ok (.ishl, 1) := by decide +kernel
theorem dX8_laws_63 : decode cX8_laws 63 = .ok (.ior, 1) := by decide +kernel
theorem dX8_laws_64 : decode cX8_laws 64 = .ok (.istore_n 3, 1) := by decide +kernel
theorem dX8_laws_65 : decode cX8_laws 65 = .ok (.iinc 4 1, 3) := by decide +kernel
theorem dX8_laws_68 : decode cX8_laws 68 = .ok (.goto (-39), 3) := by decide +kernel
theorem dX8_laws_71 : decode cX8_laws 71 = .ok (.iload_n 3, 1) := by decide +kernel
theorem dX8_laws_72 : decode cX8_laws 72 = .ok (.ireturn, 1) := by decide +kernel
theorem dX8_least_0 : decode cX8_least 0 = .ok (.aload_n 0, 1) := by decide +kernel
theorem dX8_least_1 : decode cX8_least 1 = .ok (.iload_n 1, 1) := by decide +kernel
theorem dX8_least_2 : decode cX8_least 2 = .ok (.aload_n 0, 1) := by decide +kernel
theorem dX8_least_3 : decode cX8_least 3 = .ok (.iload_n 2, 1) := by decide +kernel
theorem dX8_least_4 : decode cX8_least 4 = .ok (.invokevirtual 113, 3) := by decide +kernel
theorem dX8_least_7 : decode cX8_least 7 = .ok (.invokevirtual 284, 3) := by decide +kernel
theorem dX8_least_10 : decode cX8_least 10 = .ok (.istore_n 3, 1) := by decide +kernel
theorem dX8_least_11 : decode cX8_least 11 = .ok (.iload_n 3, 1) := by decide +kernel
theorem dX8_least_12 : decode cX8_least 12 = .ok (.ifCond .eq 7, 3) := by decide +kernel
theorem dX8_least_15 : decode cX8_least 15 = .ok (.iload_n 3, 1) := by decide +kernel
theorem dX8_least_16 : decode cX8_least 16 = .ok (.goto 12, 3) := by decide +kernel
theorem dX8_least_19 : decode cX8_least 19 = .ok (.aload_n 0, 1) := by decide +kernel
theorem dX8_least_20 : decode cX8_least 20 = .ok (.iload_n 1, 1) := by decide +kernel
theorem dX8_least_21 : decode cX8_least 21 = .ok (.iload_n 2, 1) := by decide +kernel
theorem dX8_least_22 : decode cX8_least 22 = .ok (.invokevirtual 288, 3) := by decide +kernel
theorem dX8_least_25 : decode cX8_least 25 = .ok (.invokevirtual 295, 3) := by decide +kernel
theorem dX8_least_28 : decode cX8_least 28 = .ok (.ireturn, 1) := by decide +kernel
theorem dX8_leaves_0 : decode cX8_leaves 0 = .ok (.aload_n 0, 1) := by decide +kernel
theorem dX8_leaves_1 : decode cX8_leaves 1 = .ok (.iload_n 1, 1) := by decide +kernel
theorem dX8_leaves_2 : decode cX8_leaves 2 = .ok (.aload_n 0, 1) := by decide +kernel
theorem dX8_leaves_3 : decode cX8_leaves 3 = .ok (.iload_n 2, 1) := by decide +kernel
theorem dX8_leaves_4 : decode cX8_leaves 4 = .ok (.invokevirtual 113, 3) := by decide +kernel
theorem dX8_leaves_7 : decode cX8_leaves 7 = .ok (.invokevirtual 284, 3) := by decide +kernel
theorem dX8_leaves_10 : decode cX8_leaves 10 = .ok (.istore_n 3, 1) := by decide +kernel
theorem dX8_leaves_11 : decode cX8_leaves 11 = .ok (.iload_n 3, 1) := by decide +kernel
theorem dX8_leaves_12 : decode cX8_leaves 12 = .ok (.ifCond .eq 7, 3) := by decide +kernel
theorem dX8_leaves_15 : decode cX8_leaves 15 = .ok (.iload_n 3, 1) := by decide +kernel
theorem dX8_leaves_16 : decode cX8_leaves 16 = .ok (.goto 19, 3) := by decide +kernel
theorem dX8_leaves_19 : decode cX8_leaves 19 = .ok (.aload_n 0, 1) := by decide +kernel
theorem dX8_leaves_20 : decode cX8_leaves 20 = .ok (.iload_n 1, 1) := by decide +kernel
theorem dX8_leaves_21 : decode cX8_leaves 21 = .ok (.iload_n 2, 1) := by decide +kernel
theorem dX8_leaves_22 : decode cX8_leaves 22 = .ok (.invokevirtual 288, 3) := by decide +kernel
theorem dX8_leaves_25 : decode cX8_leaves 25 = .ok (.aload_n 0, 1) := by decide +kernel
theorem dX8_leaves_26 : decode cX8_leaves 26 = .ok (.getfield 19, 3) := by decide +kernel
theorem dX8_leaves_29 : decode cX8_leaves 29 = .ok (.getfield 181, 3) := by decide +kernel
theorem dX8_leaves_32 : decode cX8_leaves 32 = .ok (.invokevirtual 300, 3) := by decide +kernel
theorem dX8_leaves_35 : decode cX8_leaves 35 = .ok (.ireturn, 1) := by decide +kernel
theorem dX8_length_0 : decode cX8_length 0 = .ok (.aload_n 0, 1) := by decide +kernel
theorem dX8_length_1 : decode cX8_length 1 = .ok (.iload_n 1, 1) := by decide +kernel
theorem dX8_length_2 : decode cX8_length 2 = .ok (.invokevirtual 132, 3) := by decide +kernel
theorem dX8_length_5 : decode cX8_length 5 = .ok (.ifCond .eq 14, 3) := by decide +kernel
theorem dX8_length_8 : decode cX8_length 8 = .ok (.aload_n 0, 1) := by decide +kernel
theorem dX8_length_9 : decode cX8_length 9 = .ok (.iload_n 1, 1) := by decide +kernel
theorem dX8_length_10 : decode cX8_length 10 = .ok (.invokevirtual 217, 3) := by decide +kernel
theorem dX8_length_13 : decode cX8_length 13 = .ok (.getfield 224, 3) := by decide +kernel
theorem dX8_length_16 : decode cX8_length 16 = .ok (.goto 5, 3) := by decide +kernel
theorem dX8_length_19 : decode cX8_length 19 = .ok (.bipush (-2), 2) := by decide +kernel
theorem dX8_length_21 : decode cX8_length 21 = .ok (.ireturn, 1) := by decide +kernel
theorem dX8_longest_0 : decode cX8_longest 0 = .ok (.aload_n 0, 1) := by decide +kernel
theorem dX8_longest_1 : decode cX8_longest 1 = .ok (.iload_n 1, 1) := by decide +kernel
theorem dX8_longest_2 : decode cX8_longest 2 = .ok (.invokevirtual 239, 3) := by decide +kernel
theorem dX8_longest_5 : decode cX8_longest 5 = .ok (.ifCond .eq 14, 3) := by decide +kernel
theorem dX8_longest_8 : decode cX8_longest 8 = .ok (.aload_n 0, 1) := by decide +kernel
theorem dX8_longest_9 : decode cX8_longest 9 = .ok (.iload_n 1, 1) := by decide +kernel
theorem dX8_longest_10 : decode cX8_longest 10 = .ok (.invokevirtual 242, 3) := by decide +kernel
theorem dX8_longest_13 : decode cX8_longest 13 = .ok (.getfield 256, 3) := by decide +kernel
theorem dX8_longest_16 : decode cX8_longest 16 = .ok (.goto 5, 3) := by decide +kernel
theorem dX8_longest_19 : decode cX8_longest 19 = .ok (.bipush (-2), 2) := by decide +kernel
theorem dX8_longest_21 : decode cX8_longest 21 = .ok (.ireturn, 1) := by decide +kernel
theorem dX8_luck_0 : decode cX8_luck 0 = .ok (.iload_n 1, 1) := by decide +kernel
theorem dX8_luck_1 : decode cX8_luck 1 = .ok (.ifCond .lt 25, 3) := by decide +kernel
theorem dX8_luck_4 : decode cX8_luck 4 = .ok (.iload_n 1, 1) := by decide +kernel
theorem dX8_luck_5 : decode cX8_luck 5 = .ok (.ldc_w 361, 3) := by decide +kernel
theorem dX8_luck_8 : decode cX8_luck 8 = .ok (.if_icmp .gt 18, 3) := by decide +kernel
theorem dX8_luck_11 : decode cX8_luck 11 = .ok (.iload_n 2, 1) := by decide +kernel
theorem dX8_luck_12 : decode cX8_luck 12 = .ok (.iconst 1, 1) := by decide +kernel
theorem dX8_luck_13 : decode cX8_luck 13 = .ok (.if_icmp .lt 13, 3) := by decide +kernel
theorem dX8_luck_16 : decode cX8_luck 16 = .ok (.iload_n 2, 1) := by decide +kernel
theorem dX8_luck_17 : decode cX8_luck 17 = .ok (.bipush 20, 2) := by decide +kernel
theorem dX8_luck_19 : decode cX8_luck 19 = .ok (.if_icmp .gt 7, 3) := by decide +kernel
theorem dX8_luck_22 : decode cX8_luck 22 = .ok (.iconst 1, 1) := by decide +kernel
theorem dX8_luck_23 : decode cX8_luck 23 = .ok (.goto 4, 3) := by decide +kernel
theorem dX8_luck_26 : decode cX8_luck 26 = .ok (.iconst 0, 1) := by decide +kernel
theorem dX8_luck_27 : decode cX8_luck 27 = .ok (.istore 4, 2) := by decide +kernel
theorem dX8_luck_29 : decode cX8_luck 29 = .ok (.aload_n 0, 1) := by decide +kernel
theorem dX8_luck_30 : decode cX8_luck 30 = .ok (.invokevirtual 177, 3) := by decide +kernel
theorem dX8_luck_33 : decode cX8_luck 33 = .ok (.ifCond .ne 19, 3) := by decide +kernel
theorem dX8_luck_36 : decode cX8_luck 36 = .ok (.iload 4, 2) := by decide +kernel
theorem dX8_luck_38 : decode cX8_luck 38 = .ok (.ifCond .eq 14, 3) := by decide +kernel
theorem dX8_luck_41 : decode cX8_luck 41 = .ok (.iload_n 3, 1) := by decide +kernel
theorem dX8_luck_42 : decode cX8_luck 42 = .ok (.ifCond .lt 10, 3) := by decide +kernel
theorem dX8_luck_45 : decode cX8_luck 45 = .ok (.iload_n 3, 1) := by decide +kernel
theorem dX8_luck_46 : decode cX8_luck 46 = .ok (.sipush 700, 3) := by decide +kernel
theorem dX8_luck_49 : decode cX8_luck 49 = .ok (.if_icmp .le 6, 3) := by decide +kernel
theorem dX8_luck_52 : decode cX8_luck 52 = .ok (.bipush (-2), 2) := by decide +kernel
theorem dX8_luck_54 : decode cX8_luck 54 = .ok (.ireturn, 1) := by decide +kernel
theorem dX8_luck_55 : decode cX8_luck 55 = .ok (.iconst 0, 1) := by decide +kernel
theorem dX8_luck_56 : decode cX8_luck 56 = .ok (.istore 5, 2) := by decide +kernel
theorem dX8_luck_58 : decode cX8_luck 58 = .ok (.iconst 0, 1) := by decide +kernel
theorem dX8_luck_59 : decode cX8_luck 59 = .ok (.istore 6, 2) := by decide +kernel
theorem dX8_luck_61 : decode cX8_luck 61 = .ok (.iload 6, 2) := by decide +kernel
theorem dX8_luck_63 : decode cX8_luck 63 = .ok (.iload_n 2, 1) := by decide +kernel
theorem dX8_luck_64 : decode cX8_luck 64 = .ok (.if_icmp .ge 30, 3) := by decide +kernel
theorem dX8_luck_67 : decode cX8_luck 67 = .ok (.aload_n 0, 1) := by decide +kernel
theorem dX8_luck_68 : decode cX8_luck 68 = .ok (.aload_n 0, 1) := by decide +kernel
theorem dX8_luck_69 : decode cX8_luck 69 = .ok (.iload_n 1, 1) := by decide +kernel
theorem dX8_luck_70 : decode cX8_luck 70 = .ok (.i2l, 1) := by decide +kernel
theorem dX8_luck_71 : decode cX8_luck 71 = .ok (.iload 6, 2) := by decide +kernel
theorem dX8_luck_73 : decode cX8_luck 73 = .ok (.i2l, 1) := by decide +kernel
theorem dX8_luck_74 : decode cX8_luck 74 = .ok (.ladd, 1) := by decide +kernel
theorem dX8_luck_75 : decode cX8_luck 75 = .ok (.invokevirtual 362, 3) := by decide +kernel
theorem dX8_luck_78 : decode cX8_luck 78 = .ok (.invokevirtual 366, 3) := by decide +kernel
theorem dX8_luck_81 : decode cX8_luck 81 = .ok (.iload_n 3, 1) := by decide +kernel
theorem dX8_luck_82 : decode cX8_luck 82 = .ok (.if_icmp .lt 6, 3) := by decide +kernel
theorem dX8_luck_85 : decode cX8_luck 85 = .ok (.iinc 5 1, 3) := by decide +kernel
theorem dX8_luck_88 : decode cX8_luck 88 = .ok (.iinc 6 1, 3) := by decide +kernel
theorem dX8_luck_91 : decode cX8_luck 91 = .ok (.goto (-30), 3) := by decide +kernel
theorem dX8_luck_94 : decode cX8_luck 94 = .ok (.iload 5, 2) := by decide +kernel
theorem dX8_luck_96 : decode cX8_luck 96 = .ok (.ireturn, 1) := by decide +kernel
theorem dX8_many_0 : decode cX8_many 0 = .ok (.aload_n 0, 1) := by decide +kernel
theorem dX8_many_1 : decode cX8_many 1 = .ok (.iload_n 1, 1) := by decide +kernel
theorem dX8_many_2 : decode cX8_many 2 = .ok (.invokevirtual 132, 3) := by decide +kernel
theorem dX8_many_5 : decode cX8_many 5 = .ok (.ifCond .eq 15, 3) := by decide +kernel
theorem dX8_many_8 : decode cX8_many 8 = .ok (.iload_n 2, 1) := by decide +kernel
theorem dX8_many_9 : decode cX8_many 9 = .ok (.iconst 1, 1) := by decide +kernel
theorem dX8_many_10 : decode cX8_many 10 = .ok (.if_icmp .lt 10, 3) := by decide +kernel
theorem dX8_many_13 : decode cX8_many 13 = .ok (.iload_n 2, 1) := by decide +kernel
theorem dX8_many_14 : decode cX8_many 14 = .ok (.sipush 700, 3) := by decide +kernel
theorem dX8_many_17 : decode cX8_many 17 = .ok (.if_icmp .le 6, 3) := by decide +kernel
theorem dX8_many_20 : decode cX8_many 20 = .ok (.bipush (-2), 2) := by decide +kernel
theorem dX8_many_22 : decode cX8_many 22 = .ok (.ireturn, 1) := by decide +kernel
theorem dX8_many_23 : decode cX8_many 23 = .ok (.aload_n 0, 1) := by decide +kernel
theorem dX8_many_24 : decode cX8_many 24 = .ok (.iload_n 1, 1) := by decide +kernel
theorem dX8_many_25 : decode cX8_many 25 = .ok (.invokevirtual 135, 3) := by decide +kernel
theorem dX8_many_28 : decode cX8_many 28 = .ok (.iload_n 2, 1) := by decide +kernel
theorem dX8_many_29 : decode cX8_many 29 = .ok (.invokevirtual 149, 3) := by decide +kernel
theorem dX8_many_32 : decode cX8_many 32 = .ok (.ireturn, 1) := by decide +kernel
theorem dX8_mean_0 : decode cX8_mean 0 = .ok (.aload_n 0, 1) := by decide +kernel
theorem dX8_mean_1 : decode cX8_mean 1 = .ok (.iload_n 1, 1) := by decide +kernel
theorem dX8_mean_2 : decode cX8_mean 2 = .ok (.invokevirtual 342, 3) := by decide +kernel
theorem dX8_mean_5 : decode cX8_mean 5 = .ok (.ifCond .eq 10, 3) := by decide +kernel
theorem dX8_mean_8 : decode cX8_mean 8 = .ok (.iload_n 2, 1) := by decide +kernel
theorem dX8_mean_9 : decode cX8_mean 9 = .ok (.invokestatic 123, 3) := by decide +kernel
theorem dX8_mean_12 : decode cX8_mean 12 = .ok (.ifCond .ne 7, 3) := by decide +kernel
theorem dX8_mean_15 : decode cX8_mean 15 = .ok (.ldc2_w 345, 3) := by decide +kernel
theorem dX8_mean_18 : decode cX8_mean 18 = .ok (.lreturn, 1) := by decide +kernel
theorem dX8_mean_19 : decode cX8_mean 19 = .ok (.aload_n 0, 1) := by decide +kernel
theorem dX8_mean_20 : decode cX8_mean 20 = .ok (.iload_n 1, 1) := by decide +kernel
theorem dX8_mean_21 : decode cX8_mean 21 = .ok (.iconst (-1), 1) := by decide +kernel
theorem dX8_mean_22 : decode cX8_mean 22 = .ok (.invokevirtual 347, 3) := by decide +kernel
theorem dX8_mean_25 : decode cX8_mean 25 = .ok (.iload_n 1, 1) := by decide +kernel
theorem dX8_mean_26 : decode cX8_mean 26 = .ok (.iconst 1, 1) := by decide +kernel
theorem dX8_mean_27 : decode cX8_mean 27 = .ok (.iadd, 1) := by decide +kernel
theorem dX8_mean_28 : decode cX8_mean 28 = .ok (.invokestatic 351, 3) := by decide +kernel
theorem dX8_mean_31 : decode cX8_mean 31 = .ok (.iload_n 2, 1) := by decide +kernel
theorem dX8_mean_32 : decode cX8_mean 32 = .ok (.invokestatic 319, 3) := by decide +kernel
theorem dX8_mean_35 : decode cX8_mean 35 = .ok (.lreturn, 1) := by decide +kernel
theorem dX8_moor_0 : decode cX8_moor 0 = .ok (.aload_n 0, 1) := by decide +kernel
theorem dX8_moor_1 : decode cX8_moor 1 = .ok (.getfield 12, 3) := by decide +kernel
theorem dX8_moor_4 : decode cX8_moor 4 = .ok (.aload_n 0, 1) := by decide +kernel
theorem dX8_moor_5 : decode cX8_moor 5 = .ok (.getfield 23, 3) := by decide +kernel
theorem dX8_moor_8 : decode cX8_moor 8 = .ok (.invokevirtual 93, 3) := by decide +kernel
theorem dX8_moor_11 : decode cX8_moor 11 = .ok (.ifCond .ne 6, 3) := by decide +kernel
theorem dX8_moor_14 : decode cX8_moor 14 = .ok (.bipush (-4), 2) := by decide +kernel
theorem dX8_moor_16 : decode cX8_moor 16 = .ok (.ireturn, 1) := by decide +kernel
theorem dX8_moor_17 : decode cX8_moor 17 = .ok (.aload_n 0, 1) := by decide +kernel
theorem dX8_moor_18 : decode cX8_moor 18 = .ok (.getfield 12, 3) := by decide +kernel
theorem dX8_moor_21 : decode cX8_moor 21 = .ok (.iconst 0, 1) := by decide +kernel
theorem dX8_moor_22 : decode cX8_moor 22 = .ok (.putfield 86, 3) := by decide +kernel
theorem dX8_moor_25 : decode cX8_moor 25 = .ok (.aload_n 0, 1) := by decide +kernel
theorem dX8_moor_26 : decode cX8_moor 26 = .ok (.getfield 19, 3) := by decide +kernel
theorem dX8_moor_29 : decode cX8_moor 29 = .ok (.aload_n 0, 1) := by decide +kernel
theorem dX8_moor_30 : decode cX8_moor 30 = .ok (.getfield 23, 3) := by decide +kernel
theorem dX8_moor_33 : decode cX8_moor 33 = .ok (.invokevirtual 97, 3) := by decide +kernel
theorem dX8_moor_36 : decode cX8_moor 36 = .ok (.aload_n 0, 1) := by decide +kernel
theorem dX8_moor_37 : decode cX8_moor 37 = .ok (.invokevirtual 101, 3) := by decide +kernel
theorem dX8_moor_40 : decode cX8_moor 40 = .ok (.aload_n 0, 1) := by decide +kernel
theorem dX8_moor_41 : decode cX8_moor 41 = .ok (.getfield 19, 3) := by decide +kernel
theorem dX8_moor_44 : decode cX8_moor 44 = .ok (.getfield 104, 3) := by decide +kernel
theorem dX8_moor_47 : decode cX8_moor 47 = .ok (.ireturn, 1) := by decide +kernel
theorem dX8_most_0 : decode cX8_most 0 = .ok (.aload_n 0, 1) := by decide +kernel
theorem dX8_most_1 : decode cX8_most 1 = .ok (.invokevirtual 177, 3) := by decide +kernel
theorem dX8_most_4 : decode cX8_most 4 = .ok (.ifCond .eq 6, 3) := by decide +kernel
theorem dX8_most_7 : decode cX8_most 7 = .ok (.bipush (-2), 2) := by decide +kernel
theorem dX8_most_9 : decode cX8_most 9 = .ok (.ireturn, 1) := by decide +kernel
theorem dX8_most_10 : decode cX8_most 10 = .ok (.iconst 0, 1) := by decide +kernel
theorem dX8_most_11 : decode cX8_most 11 = .ok (.istore_n 1, 1) := by decide +kernel
theorem dX8_most_12 : decode cX8_most 12 = .ok (.iconst 0, 1) := by decide +kernel
theorem dX8_most_13 : decode cX8_most 13 = .ok (.istore_n 2, 1) := by decide +kernel
theorem dX8_most_14 : decode cX8_most 14 = .ok (.iload_n 2, 1) := by decide +kernel
theorem dX8_most_15 : decode cX8_most 15 = .ok (.aload_n 0, 1) := by decide +kernel
theorem dX8_most_16 : decode cX8_most 16 = .ok (.getfield 19, 3) := by decide +kernel
theorem dX8_most_19 : decode cX8_most 19 = .ok (.getfield 181, 3) := by decide +kernel
theorem dX8_most_22 : decode cX8_most 22 = .ok (.if_icmp .gt 22, 3) := by decide +kernel
theorem dX8_most_25 : decode cX8_most 25 = .ok (.iload_n 1, 1) := by decide +kernel
theorem dX8_most_26 : decode cX8_most 26 = .ok (.aload_n 0, 1) := by decide +kernel
theorem dX8_most_27 : decode cX8_most 27 = .ok (.iload_n 2, 1) := by decide +kernel
theorem dX8_most_28 : decode cX8_most 28 = .ok (.invokevirtual 135, 3) := by decide +kernel
theorem dX8_most_31 : decode cX8_most 31 = .ok (.getfield 139, 3) := by decide +kernel
theorem dX8_most_34 : decode cX8_most 34 = .ok (.invokestatic 184, 3) := by decide +kernel
theorem dX8_most_37 : decode cX8_most 37 = .ok (.istore_n 1, 1) := by decide +kernel
theorem dX8_most_38 : decode cX8_most 38 = .ok (.iinc 2 1, 3) := by decide +kernel
theorem dX8_most_41 : decode cX8_most 41 = .ok (.goto (-27), 3) := by decide +kernel
theorem dX8_most_44 : decode cX8_most 44 = .ok (.iload_n 1, 1) := by decide +kernel
theorem dX8_most_45 : decode cX8_most 45 = .ok (.ireturn, 1) := by decide +kernel
theorem dX8_move_0 : decode cX8_move 0 = .ok (.aload_n 0, 1) := by decide +kernel
theorem dX8_move_1 : decode cX8_move 1 = .ok (.iload_n 1, 1) := by decide +kernel
theorem dX8_move_2 : decode cX8_move 2 = .ok (.invokevirtual 132, 3) := by decide +kernel
theorem dX8_move_5 : decode cX8_move 5 = .ok (.ifCond .eq 15, 3) := by decide +kernel
theorem dX8_move_8 : decode cX8_move 8 = .ok (.iload_n 2, 1) := by decide +kernel
theorem dX8_move_9 : decode cX8_move 9 = .ok (.iconst 1, 1) := by decide +kernel
theorem dX8_move_10 : decode cX8_move 10 = .ok (.if_icmp .lt 10, 3) := by decide +kernel
theorem dX8_move_13 : decode cX8_move 13 = .ok (.iload_n 2, 1) := by decide +kernel
theorem dX8_move_14 : decode cX8_move 14 = .ok (.sipush 700, 3) := by decide +kernel
theorem dX8_move_17 : decode cX8_move 17 = .ok (.if_icmp .le 6, 3) := by decide +kernel
theorem dX8_move_20 : decode cX8_move 20 = .ok (.bipush (-2), 2) := by decide +kernel
theorem dX8_move_22 : decode cX8_move 22 = .ok (.ireturn, 1) := by decide +kernel
theorem dX8_move_23 : decode cX8_move 23 = .ok (.aload_n 0, 1) := by decide +kernel
theorem dX8_move_24 : decode cX8_move 24 = .ok (.iload_n 1, 1) := by decide +kernel
theorem dX8_move_25 : decode cX8_move 25 = .ok (.invokevirtual 135, 3) := by decide +kernel
theorem dX8_move_28 : decode cX8_move 28 = .ok (.astore_n 3, 1) := by decide +kernel
theorem dX8_move_29 : decode cX8_move 29 = .ok (.iconst 0, 1) := by decide +kernel
theorem dX8_move_30 : decode cX8_move 30 = .ok (.istore 4, 2) := by decide +kernel
theorem dX8_move_32 : decode cX8_move 32 = .ok (.iload 4, 2) := by decide +kernel
theorem dX8_move_34 : decode cX8_move 34 = .ok (.aload_n 3, 1) := by decide +kernel
theorem dX8_move_35 : decode cX8_move 35 = .ok (.getfield 152, 3) := by decide +kernel
theorem dX8_move_38 : decode cX8_move 38 = .ok (.if_icmp .ge 40, 3) := by decide +kernel
theorem dX8_move_41 : decode cX8_move 41 = .ok (.aload_n 3, 1) := by decide +kernel
theorem dX8_move_42 : decode cX8_move 42 = .ok (.iload 4, 2) := by decide +kernel
theorem dX8_move_44 : decode cX8_move 44 = .ok (.iload_n 2, 1) := by decide +kernel
theorem dX8_move_45 : decode cX8_move 45 = .ok (.iconst 1, 1) := by decide +kernel
theorem dX8_move_46 : decode cX8_move 46 = .ok (.iadd, 1) := by decide +kernel
theorem dX8_move_47 : decode cX8_move 47 = .ok (.invokevirtual 326, 3) := by decide +kernel
theorem dX8_move_50 : decode cX8_move 50 = .ok (.istore 5, 2) := by decide +kernel
theorem dX8_move_52 : decode cX8_move 52 = .ok (.iload 5, 2) := by decide +kernel
theorem dX8_move_54 : decode cX8_move 54 = .ok (.ifCond .le 18, 3) := by decide +kernel
theorem dX8_move_57 : decode cX8_move 57 = .ok (.sipush 1000, 3) := by decide +kernel
theorem dX8_move_60 : decode cX8_move 60 = .ok (.aload_n 3, 1) := by decide +kernel
theorem dX8_move_61 : decode cX8_move 61 = .ok (.getfield 329, 3) := by decide +kernel
theorem dX8_move_64 : decode cX8_move 64 = .ok (.iload 4, 2) := by decide +kernel
theorem dX8_move_66 : decode cX8_move 66 = .ok (.iaload, 1) := by decide +kernel
theorem dX8_move_67 : decode cX8_move 67 = .ok (.imul, 1) := by decide +kernel
theorem dX8_move_68 : decode cX8_move 68 = .ok (.iload 5, 2) := by decide +kernel
theorem dX8_move_70 : decode cX8_move 70 = .ok (.iadd, 1) := by decide +kernel
theorem dX8_move_71 : decode cX8_move 71 = .ok (.ireturn, 1) := by decide +kernel
theorem dX8_move_72 : decode cX8_move 72 = .ok (.iinc 4 1, 3) := by decide +kernel
theorem dX8_move_75 : decode cX8_move 75 = .ok (.goto (-43), 3) := by decide +kernel
theorem dX8_move_78 : decode cX8_move 78 = .ok (.iconst (-1), 1) := by decide +kernel
theorem dX8_move_79 : decode cX8_move 79 = .ok (.ireturn, 1) := by decide +kernel
theorem dX8_moves_0 : decode cX8_moves 0 = .ok (.aload_n 0, 1) := by decide +kernel
theorem dX8_moves_1 : decode cX8_moves 1 = .ok (.iload_n 1, 1) := by decide +kernel
theorem dX8_moves_2 : decode cX8_moves 2 = .ok (.invokevirtual 132, 3) := by decide +kernel
theorem dX8_moves_5 : decode cX8_moves 5 = .ok (.ifCond .eq 15, 3) := by decide +kernel
theorem dX8_moves_8 : decode cX8_moves 8 = .ok (.iload_n 2, 1) := by decide +kernel
theorem dX8_moves_9 : decode cX8_moves 9 = .ok (.iconst 1, 1) := by decide +kernel
theorem dX8_moves_10 : decode cX8_moves 10 = .ok (.if_icmp .lt 10, 3) := by decide +kernel
theorem dX8_moves_13 : decode cX8_moves 13 = .ok (.iload_n 2, 1) := by decide +kernel
theorem dX8_moves_14 : decode cX8_moves 14 = .ok (.sipush 700, 3) := by decide +kernel
theorem dX8_moves_17 : decode cX8_moves 17 = .ok (.if_icmp .le 6, 3) := by decide +kernel
theorem dX8_moves_20 : decode cX8_moves 20 = .ok (.bipush (-2), 2) := by decide +kernel
theorem dX8_moves_22 : decode cX8_moves 22 = .ok (.ireturn, 1) := by decide +kernel
theorem dX8_moves_23 : decode cX8_moves 23 = .ok (.aload_n 0, 1) := by decide +kernel
theorem dX8_moves_24 : decode cX8_moves 24 = .ok (.iload_n 1, 1) := by decide +kernel
theorem dX8_moves_25 : decode cX8_moves 25 = .ok (.invokevirtual 135, 3) := by decide +kernel
theorem dX8_moves_28 : decode cX8_moves 28 = .ok (.astore_n 3, 1) := by decide +kernel
theorem dX8_moves_29 : decode cX8_moves 29 = .ok (.iconst 0, 1) := by decide +kernel
theorem dX8_moves_30 : decode cX8_moves 30 = .ok (.istore 4, 2) := by decide +kernel
theorem dX8_moves_32 : decode cX8_moves 32 = .ok (.iconst 0, 1) := by decide +kernel
theorem dX8_moves_33 : decode cX8_moves 33 = .ok (.istore 5, 2) := by decide +kernel
theorem dX8_moves_35 : decode cX8_moves 35 = .ok (.iload 5, 2) := by decide +kernel
theorem dX8_moves_37 : decode cX8_moves 37 = .ok (.aload_n 3, 1) := by decide +kernel
theorem dX8_moves_38 : decode cX8_moves 38 = .ok (.getfield 152, 3) := by decide +kernel
theorem dX8_moves_41 : decode cX8_moves 41 = .ok (.if_icmp .ge 24, 3) := by decide +kernel
theorem dX8_moves_44 : decode cX8_moves 44 = .ok (.aload_n 3, 1) := by decide +kernel
theorem dX8_moves_45 : decode cX8_moves 45 = .ok (.iload 5, 2) := by decide +kernel
theorem dX8_moves_47 : decode cX8_moves 47 = .ok (.iload_n 2, 1) := by decide +kernel
theorem dX8_moves_48 : decode cX8_moves 48 = .ok (.iconst 1, 1) := by decide +kernel
theorem dX8_moves_49 : decode cX8_moves 49 = .ok (.iadd, 1) := by decide +kernel
theorem dX8_moves_50 : decode cX8_moves 50 = .ok (.invokevirtual 326, 3) := by decide +kernel
theorem dX8_moves_53 : decode cX8_moves 53 = .ok (.ifCond .le 6, 3) := by decide +kernel
theorem dX8_moves_56 : decode cX8_moves 56 = .ok (.iinc 4 1, 3) := by decide +kernel
theorem dX8_moves_59 : decode cX8_moves 59 = .ok (.iinc 5 1, 3) := by decide +kernel
theorem dX8_moves_62 : decode cX8_moves 62 = .ok (.goto (-27), 3) := by decide +kernel
theorem dX8_moves_65 : decode cX8_moves 65 = .ok (.iload 4, 2) := by decide +kernel
theorem dX8_moves_67 : decode cX8_moves 67 = .ok (.ireturn, 1) := by decide +kernel
theorem dX8_noMoor_0 : decode cX8_noMoor 0 = .ok (.aload_n 0, 1) := by decide +kernel
theorem dX8_noMoor_1 : decode cX8_noMoor 1 = .ok (.getfield 19, 3) := by decide +kernel
theorem dX8_noMoor_4 : decode cX8_noMoor 4 = .ok (.getfield 104, 3) := by decide +kernel
theorem dX8_noMoor_7 : decode cX8_noMoor 7 = .ok (.ifCond .ne 7, 3) := by decide +kernel
theorem dX8_noMoor_10 : decode cX8_noMoor 10 = .ok (.iconst 1, 1) := by decide +kernel
theorem dX8_noMoor_11 : decode cX8_noMoor 11 = .ok (.goto 4, 3) := by decide +kernel
theorem dX8_noMoor_14 : decode cX8_noMoor 14 = .ok (.iconst 0, 1) := by decide +kernel
theorem dX8_noMoor_15 : decode cX8_noMoor 15 = .ok (.ireturn, 1) := by decide +kernel
theorem dX8_odd_0 : decode cX8_odd 0 = .ok (.aload_n 0, 1) := by decide +kernel
theorem dX8_odd_1 : decode cX8_odd 1 = .ok (.iload_n 1, 1) := by decide +kernel
theorem dX8_odd_2 : decode cX8_odd 2 = .ok (.invokevirtual 132, 3) := by decide +kernel
theorem dX8_odd_5 : decode cX8_odd 5 = .ok (.ifCond .eq 14, 3) := by decide +kernel
theorem dX8_odd_8 : decode cX8_odd 8 = .ok (.aload_n 0, 1) := by decide +kernel
theorem dX8_odd_9 : decode cX8_odd 9 = .ok (.iload_n 1, 1) := by decide +kernel
theorem dX8_odd_10 : decode cX8_odd 10 = .ok (.invokevirtual 135, 3) := by decide +kernel
theorem dX8_odd_13 : decode cX8_odd 13 = .ok (.invokevirtual 162, 3) := by decide +kernel
theorem dX8_odd_16 : decode cX8_odd 16 = .ok (.goto 5, 3) := by decide +kernel
theorem dX8_odd_19 : decode cX8_odd 19 = .ok (.bipush (-2), 2) := by decide +kernel
theorem dX8_odd_21 : decode cX8_odd 21 = .ok (.ireturn, 1) := by decide +kernel
theorem dX8_paste_0 : decode cX8_paste 0 = .ok (.iload_n 1, 1) := by decide +kernel
theorem dX8_paste_1 : decode cX8_paste 1 = .ok (.invokestatic 382, 3) := by decide +kernel
theorem dX8_paste_4 : decode cX8_paste 4 = .ok (.ifCond .eq 10, 3) := by decide +kernel
theorem dX8_paste_7 : decode cX8_paste 7 = .ok (.iload_n 3, 1) := by decide +kernel
theorem dX8_paste_8 : decode cX8_paste 8 = .ok (.invokestatic 382, 3) := by decide +kernel
theorem dX8_paste_11 : decode cX8_paste 11 = .ok (.ifCond .ne 6, 3) := by decide +kernel
theorem dX8_paste_14 : decode cX8_paste 14 = .ok (.bipush (-2), 2) := by decide +kernel
theorem dX8_paste_16 : decode cX8_paste 16 = .ok (.ireturn, 1) := by decide +kernel
theorem dX8_paste_17 : decode cX8_paste 17 = .ok (.aload_n 0, 1) := by decide +kernel
theorem dX8_paste_18 : decode cX8_paste 18 = .ok (.getfield 32, 3) := by decide +kernel
theorem dX8_paste_21 : decode cX8_paste 21 = .ok (.iload_n 1, 1) := by decide +kernel
theorem dX8_paste_22 : decode cX8_paste 22 = .ok (.aaload, 1) := by decide +kernel
theorem dX8_paste_23 : decode cX8_paste 23 = .ok (.astore 6, 2) := by decide +kernel
theorem dX8_paste_25 : decode cX8_paste 25 = .ok (.aload_n 0, 1) := by decide +kernel
theorem dX8_paste_26 : decode cX8_paste 26 = .ok (.getfield 32, 3) := by decide +kernel
theorem dX8_paste_29 : decode cX8_paste 29 = .ok (.iload_n 3, 1) := by decide +kernel
theorem dX8_paste_30 : decode cX8_paste 30 = .ok (.aaload, 1) := by decide +kernel
theorem dX8_paste_31 : decode cX8_paste 31 = .ok (.astore 7, 2) := by decide +kernel
theorem dX8_paste_33 : decode cX8_paste 33 = .ok (.aload 6, 2) := by decide +kernel
theorem dX8_paste_35 : decode cX8_paste 35 = .ok (.getfield 389, 3) := by decide +kernel
theorem dX8_paste_38 : decode cX8_paste 38 = .ok (.ifCond .eq 11, 3) := by decide +kernel
theorem dX8_paste_41 : decode cX8_paste 41 = .ok (.aload 7, 2) := by decide +kernel
theorem dX8_paste_43 : decode cX8_paste 43 = .ok (.getfield 389, 3) := by decide +kernel
theorem dX8_paste_46 : decode cX8_paste 46 = .ok (.ifCond .ne 6, 3) := by decide +kernel
theorem dX8_paste_49 : decode cX8_paste 49 = .ok (.bipush (-6), 2) := by decide +kernel
theorem dX8_paste_51 : decode cX8_paste 51 = .ok (.ireturn, 1) := by decide +kernel
theorem dX8_paste_52 : decode cX8_paste 52 = .ok (.aload 6, 2) := by decide +kernel
theorem dX8_paste_54 : decode cX8_paste 54 = .ok (.getfield 397, 3) := by decide +kernel
theorem dX8_paste_57 : decode cX8_paste 57 = .ok (.aload 7, 2) := by decide +kernel
theorem dX8_paste_59 : decode cX8_paste 59 = .ok (.getfield 397, 3) := by decide +kernel
theorem dX8_paste_62 : decode cX8_paste 62 = .ok (.if_icmp .eq 6, 3) := by decide +kernel
theorem dX8_paste_65 : decode cX8_paste 65 = .ok (.bipush (-8), 2) := by decide +kernel
theorem dX8_paste_67 : decode cX8_paste 67 = .ok (.ireturn, 1) := by decide +kernel
theorem dX8_paste_68 : decode cX8_paste 68 = .ok (.aload 6, 2) := by decide +kernel
theorem dX8_paste_70 : decode cX8_paste 70 = .ok (.iload_n 2, 1) := by decide +kernel
theorem dX8_paste_71 : decode cX8_paste 71 = .ok (.iload 5, 2) := by decide +kernel
theorem dX8_paste_73 : decode cX8_paste 73 = .ok (.invokevirtual 404, 3) := by decide +kernel
theorem dX8_paste_76 : decode cX8_paste 76 = .ok (.ifCond .eq 15, 3) := by decide +kernel
theorem dX8_paste_79 : decode cX8_paste 79 = .ok (.aload 7, 2) := by decide +kernel
theorem dX8_paste_81 : decode cX8_paste 81 = .ok (.iload 4, 2) := by decide +kernel
theorem dX8_paste_83 : decode cX8_paste 83 = .ok (.iload 5, 2) := by decide +kernel
theorem dX8_paste_85 : decode cX8_paste 85 = .ok (.invokevirtual 404, 3) := by decide +kernel
theorem dX8_paste_88 : decode cX8_paste 88 = .ok (.ifCond .ne 6, 3) := by decide +kernel
theorem dX8_paste_91 : decode cX8_paste 91 = .ok (.bipush (-7), 2) := by decide +kernel
theorem dX8_paste_93 : decode cX8_paste 93 = .ok (.ireturn, 1) := by decide +kernel
theorem dX8_paste_94 : decode cX8_paste 94 = .ok (.aload 6, 2) := by decide +kernel
theorem dX8_paste_96 : decode cX8_paste 96 = .ok (.getfield 393, 3) := by decide +kernel
theorem dX8_paste_99 : decode cX8_paste 99 = .ok (.iload_n 2, 1) := by decide +kernel
theorem dX8_paste_100 : decode cX8_paste 100 = .ok (.aload 7, 2) := by decide +kernel
theorem dX8_paste_102 : decode cX8_paste 102 = .ok (.getfield 393, 3) := by decide +kernel
theorem dX8_paste_105 : decode cX8_paste 105 = .ok (.iload 4, 2) := by decide +kernel
theorem dX8_paste_107 : decode cX8_paste 107 = .ok (.iload 5, 2) := by decide +kernel
theorem dX8_paste_109 : decode cX8_paste 109 = .ok (.invokestatic 408, 3) := by decide +kernel
theorem dX8_paste_112 : decode cX8_paste 112 = .ok (.iconst 0, 1) := by decide +kernel
theorem dX8_paste_113 : decode cX8_paste 113 = .ok (.ireturn, 1) := by decide +kernel
theorem dX8_peak_0 : decode cX8_peak 0 = .ok (.aload_n 0, 1) := by decide +kernel
theorem dX8_peak_1 : decode cX8_peak 1 = .ok (.invokevirtual 177, 3) := by decide +kernel
theorem dX8_peak_4 : decode cX8_peak 4 = .ok (.ifCond .eq 6, 3) := by decide +kernel
theorem dX8_peak_7 : decode cX8_peak 7 = .ok (.bipush (-2), 2) := by decide +kernel
theorem dX8_peak_9 : decode cX8_peak 9 = .ok (.ireturn, 1) := by decide +kernel
theorem dX8_peak_10 : decode cX8_peak 10 = .ok (.iconst 0, 1) := by decide +kernel
theorem dX8_peak_11 : decode cX8_peak 11 = .ok (.istore_n 1, 1) := by decide +kernel
theorem dX8_peak_12 : decode cX8_peak 12 = .ok (.iconst 1, 1) := by decide +kernel
theorem dX8_peak_13 : decode cX8_peak 13 = .ok (.istore_n 2, 1) := by decide +kernel
theorem dX8_peak_14 : decode cX8_peak 14 = .ok (.iload_n 2, 1) := by decide +kernel
theorem dX8_peak_15 : decode cX8_peak 15 = .ok (.aload_n 0, 1) := by decide +kernel
theorem dX8_peak_16 : decode cX8_peak 16 = .ok (.getfield 19, 3) := by decide +kernel
theorem dX8_peak_19 : decode cX8_peak 19 = .ok (.getfield 181, 3) := by decide +kernel
theorem dX8_peak_22 : decode cX8_peak 22 = .ok (.if_icmp .gt 30, 3) := by decide +kernel
theorem dX8_peak_25 : decode cX8_peak 25 = .ok (.aload_n 0, 1) := by decide +kernel
theorem dX8_peak_26 : decode cX8_peak 26 = .ok (.iload_n 2, 1) := by decide +kernel
theorem dX8_peak_27 : decode cX8_peak 27 = .ok (.invokevirtual 135, 3) := by decide +kernel
theorem dX8_peak_30 : decode cX8_peak 30 = .ok (.invokevirtual 155, 3) := by decide +kernel
theorem dX8_peak_33 : decode cX8_peak 33 = .ok (.aload_n 0, 1) := by decide +kernel
theorem dX8_peak_34 : decode cX8_peak 34 = .ok (.iload_n 1, 1) := by decide +kernel
theorem dX8_peak_35 : decode cX8_peak 35 = .ok (.invokevirtual 135, 3) := by decide +kernel
theorem dX8_peak_38 : decode cX8_peak 38 = .ok (.invokevirtual 155, 3) := by decide +kernel
theorem dX8_peak_41 : decode cX8_peak 41 = .ok (.if_icmp .le 5, 3) := by decide +kernel
theorem dX8_peak_44 : decode cX8_peak 44 = .ok (.iload_n 2, 1) := by decide +kernel
theorem dX8_peak_45 : decode cX8_peak 45 = .ok (.istore_n 1, 1) := by decide +kernel
theorem dX8_peak_46 : decode cX8_peak 46 = .ok (.iinc 2 1, 3) := by decide +kernel
theorem dX8_peak_49 : decode cX8_peak 49 = .ok (.goto (-35), 3) := by decide +kernel
theorem dX8_peak_52 : decode cX8_peak 52 = .ok (.iload_n 1, 1) := by decide +kernel
theorem dX8_peak_53 : decode cX8_peak 53 = .ok (.ireturn, 1) := by decide +kernel
theorem dX8_rate_0 : decode cX8_rate 0 = .ok (.aload_n 0, 1) := by decide +kernel
theorem dX8_rate_1 : decode cX8_rate 1 = .ok (.iload_n 1, 1) := by decide +kernel
theorem dX8_rate_2 : decode cX8_rate 2 = .ok (.invokevirtual 113, 3) := by decide +kernel
theorem dX8_rate_5 : decode cX8_rate 5 = .ok (.ifCond .eq 14, 3) := by decide +kernel
theorem dX8_rate_8 : decode cX8_rate 8 = .ok (.iload_n 2, 1) := by decide +kernel
theorem dX8_rate_9 : decode cX8_rate 9 = .ok (.iconst 1, 1) := by decide +kernel
theorem dX8_rate_10 : decode cX8_rate 10 = .ok (.if_icmp .lt 9, 3) := by decide +kernel
theorem dX8_rate_13 : decode cX8_rate 13 = .ok (.iload_n 2, 1) := by decide +kernel
theorem dX8_rate_14 : decode cX8_rate 14 = .ok (.bipush 20, 2) := by decide +kernel
theorem dX8_rate_16 : decode cX8_rate 16 = .ok (.if_icmp .le 6, 3) := by decide +kernel
theorem dX8_rate_19 : decode cX8_rate 19 = .ok (.bipush (-2), 2) := by decide +kernel
theorem dX8_rate_21 : decode cX8_rate 21 = .ok (.ireturn, 1) := by decide +kernel
theorem dX8_rate_22 : decode cX8_rate 22 = .ok (.aload_n 0, 1) := by decide +kernel
theorem dX8_rate_23 : decode cX8_rate 23 = .ok (.getfield 19, 3) := by decide +kernel
theorem dX8_rate_26 : decode cX8_rate 26 = .ok (.getfield 358, 3) := by decide +kernel
theorem dX8_rate_29 : decode cX8_rate 29 = .ok (.ifCond .le 6, 3) := by decide +kernel
theorem dX8_rate_32 : decode cX8_rate 32 = .ok (.bipush (-5), 2) := by decide +kernel
theorem dX8_rate_34 : decode cX8_rate 34 = .ok (.ireturn, 1) := by decide +kernel
theorem dX8_rate_35 : decode cX8_rate 35 = .ok (.aload_n 0, 1) := by decide +kernel
theorem dX8_rate_36 : decode cX8_rate 36 = .ok (.getfield 19, 3) := by decide +kernel
theorem dX8_rate_39 : decode cX8_rate 39 = .ok (.getfield 117, 3) := by decide +kernel
theorem dX8_rate_42 : decode cX8_rate 42 = .ok (.iload_n 1, 1) := by decide +kernel
theorem dX8_rate_43 : decode cX8_rate 43 = .ok (.iaload, 1) := by decide +kernel
theorem dX8_rate_44 : decode cX8_rate 44 = .ok (.istore_n 3, 1) := by decide +kernel
theorem dX8_rate_45 : decode cX8_rate 45 = .ok (.aload_n 0, 1) := by decide +kernel
theorem dX8_rate_46 : decode cX8_rate 46 = .ok (.getfield 19, 3) := by decide +kernel
theorem dX8_rate_49 : decode cX8_rate 49 = .ok (.getfield 117, 3) := by decide +kernel
theorem dX8_rate_52 : decode cX8_rate 52 = .ok (.iload_n 1, 1) := by decide +kernel
theorem dX8_rate_53 : decode cX8_rate 53 = .ok (.iload_n 2, 1) := by decide +kernel
theorem dX8_rate_54 : decode cX8_rate 54 = .ok (.iastore, 1) := by decide +kernel
theorem dX8_rate_55 : decode cX8_rate 55 = .ok (.aload_n 0, 1) := by decide +kernel
theorem dX8_rate_56 : decode cX8_rate 56 = .ok (.invokevirtual 101, 3) := by decide +kernel
theorem dX8_rate_59 : decode cX8_rate 59 = .ok (.iload_n 3, 1) := by decide +kernel
theorem dX8_rate_60 : decode cX8_rate 60 = .ok (.ireturn, 1) := by decide +kernel
theorem dX8_rests_0 : decode cX8_rests 0 = .ok (.aload_n 0, 1) := by decide +kernel
theorem dX8_rests_1 : decode cX8_rests 1 = .ok (.iload_n 1, 1) := by decide +kernel
theorem dX8_rests_2 : decode cX8_rests 2 = .ok (.invokevirtual 120, 3) := by decide +kernel
theorem dX8_rests_5 : decode cX8_rests 5 = .ok (.ifCond .eq 16, 3) := by decide +kernel
theorem dX8_rests_8 : decode cX8_rests 8 = .ok (.aload_n 0, 1) := by decide +kernel
theorem dX8_rests_9 : decode cX8_rests 9 = .ok (.iload_n 2, 1) := by decide +kernel
theorem dX8_rests_10 : decode cX8_rests 10 = .ok (.invokevirtual 120, 3) := by decide +kernel
theorem dX8_rests_13 : decode cX8_rests 13 = .ok (.ifCond .eq 8, 3) := by decide +kernel
theorem dX8_rests_16 : decode cX8_rests 16 = .ok (.iload_n 1, 1) := by decide +kernel
theorem dX8_rests_17 : decode cX8_rests 17 = .ok (.iload_n 2, 1) := by decide +kernel
theorem dX8_rests_18 : decode cX8_rests 18 = .ok (.if_icmp .ne 6, 3) := by decide +kernel
theorem dX8_rests_21 : decode cX8_rests 21 = .ok (.bipush (-2), 2) := by decide +kernel
theorem dX8_rests_23 : decode cX8_rests 23 = .ok (.ireturn, 1) := by decide +kernel
theorem dX8_rests_24 : decode cX8_rests 24 = .ok (.iconst 0, 1) := by decide +kernel
theorem dX8_rests_25 : decode cX8_rests 25 = .ok (.istore_n 3, 1) := by decide +kernel
theorem dX8_rests_26 : decode cX8_rests 26 = .ok (.iload_n 3, 1) := by decide +kernel
theorem dX8_rests_27 : decode cX8_rests 27 = .ok (.iconst 4, 1) := by decide +kernel
theorem dX8_rests_28 : decode cX8_rests 28 = .ok (.if_icmp .ge 53, 3) := by decide +kernel
theorem dX8_rests_31 : decode cX8_rests 31 = .ok (.aload_n 0, 1) := by decide +kernel
theorem dX8_rests_32 : decode cX8_rests 32 = .ok (.iload_n 1, 1) := by decide +kernel
theorem dX8_rests_33 : decode cX8_rests 33 = .ok (.iload_n 2, 1) := by decide +kernel
theorem dX8_rests_34 : decode cX8_rests 34 = .ok (.iload_n 3, 1) := by decide +kernel
theorem dX8_rests_35 : decode cX8_rests 35 = .ok (.iconst 1, 1) := by decide +kernel
theorem dX8_rests_36 : decode cX8_rests 36 = .ok (.iand, 1) := by decide +kernel
theorem dX8_rests_37 : decode cX8_rests 37 = .ok (.iload_n 3, 1) := by decide +kernel
theorem dX8_rests_38 : decode cX8_rests 38 = .ok (.iconst 1, 1) := by decide +kernel
theorem dX8_rests_39 : decode cX8_rests 39 = .ok (.ishr, 1) := by decide +kernel
theorem dX8_rests_40 : decode cX8_rests 40 = .ok (.invokevirtual 332, 3) := by decide +kernel
theorem dX8_rests_43 : decode cX8_rests 43 = .ok (.astore 4, 2) := by decide +kernel
theorem dX8_rests_45 : decode cX8_rests 45 = .ok (.aload_n 0, 1) := by decide +kernel
theorem dX8_rests_46 : decode cX8_rests 46 = .ok (.getfield 78, 3) := by decide +kernel
theorem dX8_rests_49 : decode cX8_rests 49 = .ok (.iload_n 3, 1) := by decide +kernel
theorem dX8_rests_50 : decode cX8_rests 50 = .ok (.aload 4, 2) := by decide +kernel
theorem dX8_rests_52 : decode cX8_rests 52 = .ok (.iload_n 3, 1) := by decide +kernel
theorem dX8_rests_53 : decode cX8_rests 53 = .ok (.iconst 1, 1) := by decide +kernel
theorem dX8_rests_54 : decode cX8_rests 54 = .ok (.iand, 1) := by decide +kernel
theorem dX8_rests_55 : decode cX8_rests 55 = .ok (.invokestatic 336, 3) := by decide +kernel
theorem dX8_rests_58 : decode cX8_rests 58 = .ok (.iastore, 1) := by decide +kernel
theorem dX8_rests_59 : decode cX8_rests 59 = .ok (.aload_n 0, 1) := by decide +kernel
theorem dX8_rests_60 : decode cX8_rests 60 = .ok (.getfield 78, 3) := by decide +kernel
theorem dX8_rests_63 : decode cX8_rests 63 = .ok (.iconst 4, 1) := by decide +kernel
theorem dX8_rests_64 : decode cX8_rests 64 = .ok (.iload_n 3, 1) := by decide +kernel
theorem dX8_rests_65 : decode cX8_rests 65 = .ok (.iadd, 1) := by decide +kernel
theorem dX8_rests_66 : decode cX8_rests 66 = .ok (.aload 4, 2) := by decide +kernel
theorem dX8_rests_68 : decode cX8_rests 68 = .ok (.iload_n 3, 1) := by decide +kernel
theorem dX8_rests_69 : decode cX8_rests 69 = .ok (.iconst 1, 1) := by decide +kernel
theorem dX8_rests_70 : decode cX8_rests 70 = .ok (.ishr, 1) := by decide +kernel
theorem dX8_rests_71 : decode cX8_rests 71 = .ok (.invokestatic 339, 3) := by decide +kernel
theorem dX8_rests_74 : decode cX8_rests 74 = .ok (.iastore, 1) := by decide +kernel
theorem dX8_rests_75 : decode cX8_rests 75 = .ok (.iinc 3 1, 3) := by decide +kernel
theorem dX8_rests_78 : decode cX8_rests 78 = .ok (.goto (-52), 3) := by decide +kernel
theorem dX8_rests_81 : decode cX8_rests 81 = .ok (.iconst 0, 1) := by decide +kernel
theorem dX8_rests_82 : decode cX8_rests 82 = .ok (.istore_n 3, 1) := by decide +kernel
theorem dX8_rests_83 : decode cX8_rests 83 = .ok (.iconst 0, 1) := by decide +kernel
theorem dX8_rests_84 : decode cX8_rests 84 = .ok (.istore 4, 2) := by decide +kernel
theorem dX8_rests_86 : decode cX8_rests 86 = .ok (.iload 4, 2) := by decide +kernel
theorem dX8_rests_88 : decode cX8_rests 88 = .ok (.iconst 4, 1) := by decide +kernel
theorem dX8_rests_89 : decode cX8_rests 89 = .ok (.if_icmp .ge 58, 3) := by decide +kernel
theorem dX8_rests_92 : decode cX8_rests 92 = .ok (.aload_n 0, 1) := by decide +kernel
theorem dX8_rests_93 : decode cX8_rests 93 = .ok (.getfield 78, 3) := by decide +kernel
theorem dX8_rests_96 : decode cX8_rests 96 = .ok (.iload 4, 2) := by decide +kernel
theorem dX8_rests_98 : decode cX8_rests 98 = .ok (.iaload, 1) := by decide +kernel
theorem dX8_rests_99 : decode cX8_rests 99 = .ok (.aload_n 0, 1) := by decide +kernel
theorem dX8_rests_100 : decode cX8_rests 100 = .ok (.getfield 78, 3) := by decide +kernel
theorem dX8_rests_103 : decode cX8_rests 103 = .ok (.iload 4, 2) := by decide +kernel
theorem dX8_rests_105 : decode cX8_rests 105 = .ok (.iconst 1, 1) := by decide +kernel
theorem dX8_rests_106 : decode cX8_rests 106 = .ok (.ixor, 1) := by decide +kernel
theorem dX8_rests_107 : decode cX8_rests 107 = .ok (.iaload, 1) := by decide +kernel
theorem dX8_rests_108 : decode cX8_rests 108 = .ok (.if_icmp .lt 33, 3) := by decide +kernel
theorem dX8_rests_111 : decode cX8_rests 111 = .ok (.aload_n 0, 1) := by decide +kernel
theorem dX8_rests_112 : decode cX8_rests 112 = .ok (.getfield 78, 3) := by decide +kernel
theorem dX8_rests_115 : decode cX8_rests 115 = .ok (.iconst 4, 1) := by decide +kernel
theorem dX8_rests_116 : decode cX8_rests 116 = .ok (.iload 4, 2) := by decide +kernel
theorem dX8_rests_118 : decode cX8_rests 118 = .ok (.iadd, 1) := by decide +kernel
theorem dX8_rests_119 : decode cX8_rests 119 = .ok (.iaload, 1) := by decide +kernel
theorem dX8_rests_120 : decode cX8_rests 120 = .ok (.aload_n 0, 1) := by decide +kernel
theorem dX8_rests_121 : decode cX8_rests 121 = .ok (.getfield 78, 3) := by decide +kernel
theorem dX8_rests_124 : decode cX8_rests 124 = .ok (.iconst 4, 1) := by decide +kernel
theorem dX8_rests_125 : decode cX8_rests 125 = .ok (.iload 4, 2) := by decide +kernel
theorem dX8_rests_127 : decode cX8_rests 127 = .ok (.iconst 2, 1) := by decide +kernel
theorem dX8_rests_128 : decode cX8_rests 128 = .ok (.ixor, 1) := by decide +kernel
theorem dX8_rests_129 : decode cX8_rests 129 = .ok (.iadd, 1) := by decide +kernel
theorem dX8_rests_130 : decode cX8_rests 130 = .ok (.iaload, 1) := by decide +kernel
theorem dX8_rests_131 : decode cX8_rests 131 = .ok (.if_icmp .lt 10, 3) := by decide +kernel
theorem dX8_rests_134 : decode cX8_rests 134 = .ok (.iload_n 3, 1) := by decide +kernel
theorem dX8_rests_135 : decode cX8_rests 135 = .ok (.iconst 1, 1) := by decide +kernel
theorem dX8_rests_136 : decode cX8_rests 136 = .ok (.iload 4, 2) := by decide +kernel
theorem dX8_rests_138 : decode cX8_rests 138 = .ok (.ishl, 1) := by decide +kernel
theorem dX8_rests_139 : decode cX8_rests 139 = .ok (.ior, 1) := by decide +kernel
theorem dX8_rests_140 : decode cX8_rests 140 = .ok (.istore_n 3, 1) := by decide +kernel
theorem dX8_rests_141 : decode cX8_rests 141 = .ok (.iinc 4 1, 3) := by decide +kernel
theorem dX8_rests_144 : decode cX8_rests 144 = .ok (.goto (-58), 3) := by decide +kernel
theorem dX8_rests_147 : decode cX8_rests 147 = .ok (.iload_n 3, 1) := by decide +kernel
theorem dX8_rests_148 : decode cX8_rests 148 = .ok (.ireturn, 1) := by decide +kernel
theorem dX8_ring_0 : decode cX8_ring 0 = .ok (.aload_n 0, 1) := by decide +kernel
theorem dX8_ring_1 : decode cX8_ring 1 = .ok (.iload_n 1, 1) := by decide +kernel
theorem dX8_ring_2 : decode cX8_ring 2 = .ok (.invokevirtual 132, 3) := by decide +kernel
theorem dX8_ring_5 : decode cX8_ring 5 = .ok (.ifCond .eq 14, 3) := by decide +kernel
theorem dX8_ring_8 : decode cX8_ring 8 = .ok (.aload_n 0, 1) := by decide +kernel
theorem dX8_ring_9 : decode cX8_ring 9 = .ok (.iload_n 1, 1) := by decide +kernel
theorem dX8_ring_10 : decode cX8_ring 10 = .ok (.invokevirtual 217, 3) := by decide +kernel
theorem dX8_ring_13 : decode cX8_ring 13 = .ok (.getfield 227, 3) := by decide +kernel
theorem dX8_ring_16 : decode cX8_ring 16 = .ok (.goto 5, 3) := by decide +kernel
theorem dX8_ring_19 : decode cX8_ring 19 = .ok (.bipush (-2), 2) := by decide +kernel
theorem dX8_ring_21 : decode cX8_ring 21 = .ok (.ireturn, 1) := by decide +kernel
theorem dX8_ringed_0 : decode cX8_ringed 0 = .ok (.aload_n 0, 1) := by decide +kernel
theorem dX8_ringed_1 : decode cX8_ringed 1 = .ok (.iload_n 1, 1) := by decide +kernel
theorem dX8_ringed_2 : decode cX8_ringed 2 = .ok (.invokevirtual 239, 3) := by decide +kernel
theorem dX8_ringed_5 : decode cX8_ringed 5 = .ok (.ifCond .eq 14, 3) := by decide +kernel
theorem dX8_ringed_8 : decode cX8_ringed 8 = .ok (.aload_n 0, 1) := by decide +kernel
theorem dX8_ringed_9 : decode cX8_ringed 9 = .ok (.iload_n 1, 1) := by decide +kernel
theorem dX8_ringed_10 : decode cX8_ringed 10 = .ok (.invokevirtual 242, 3) := by decide +kernel
theorem dX8_ringed_13 : decode cX8_ringed 13 = .ok (.getfield 247, 3) := by decide +kernel
theorem dX8_ringed_16 : decode cX8_ringed 16 = .ok (.goto 5, 3) := by decide +kernel
theorem dX8_ringed_19 : decode cX8_ringed 19 = .ok (.bipush (-2), 2) := by decide +kernel
theorem dX8_ringed_21 : decode cX8_ringed 21 = .ok (.ireturn, 1) := by decide +kernel
theorem dX8_rings_0 : decode cX8_rings 0 = .ok (.aload_n 0, 1) := by decide +kernel
theorem dX8_rings_1 : decode cX8_rings 1 = .ok (.iload_n 1, 1) := by decide +kernel
theorem dX8_rings_2 : decode cX8_rings 2 = .ok (.invokevirtual 239, 3) := by decide +kernel
theorem dX8_rings_5 : decode cX8_rings 5 = .ok (.ifCond .eq 14, 3) := by decide +kernel
theorem dX8_rings_8 : decode cX8_rings 8 = .ok (.aload_n 0, 1) := by decide +kernel
theorem dX8_rings_9 : decode cX8_rings 9 = .ok (.iload_n 1, 1) := by decide +kernel
theorem dX8_rings_10 : decode cX8_rings 10 = .ok (.invokevirtual 242, 3) := by decide +kernel
theorem dX8_rings_13 : decode cX8_rings 13 = .ok (.getfield 250, 3) := by decide +kernel
theorem dX8_rings_16 : decode cX8_rings 16 = .ok (.goto 5, 3) := by decide +kernel
theorem dX8_rings_19 : decode cX8_rings 19 = .ok (.bipush (-2), 2) := by decide +kernel
theorem dX8_rings_21 : decode cX8_rings 21 = .ok (.ireturn, 1) := by decide +kernel
theorem dX8_row_0 : decode cX8_row 0 = .ok (.iload_n 1, 1) := by decide +kernel
theorem dX8_row_1 : decode cX8_row 1 = .ok (.invokestatic 382, 3) := by decide +kernel
theorem dX8_row_4 : decode cX8_row 4 = .ok (.ifCond .eq 18, 3) := by decide +kernel
theorem dX8_row_7 : decode cX8_row 7 = .ok (.iload_n 2, 1) := by decide +kernel
theorem dX8_row_8 : decode cX8_row 8 = .ok (.ifCond .lt 14, 3) := by decide +kernel
theorem dX8_row_11 : decode cX8_row 11 = .ok (.iload_n 2, 1) := by decide +kernel
theorem dX8_row_12 : decode cX8_row 12 = .ok (.iconst 4, 1) := by decide +kernel
theorem dX8_row_13 : decode cX8_row 13 = .ok (.if_icmp .ge 9, 3) := by decide +kernel
theorem dX8_row_16 : decode cX8_row 16 = .ok (.iload_n 3, 1) := by decide +kernel
theorem dX8_row_17 : decode cX8_row 17 = .ok (.bipush 60, 2) := by decide +kernel
theorem dX8_row_19 : decode cX8_row 19 = .ok (.if_icmp .le 6, 3) := by decide +kernel
theorem dX8_row_22 : decode cX8_row 22 = .ok (.bipush (-2), 2) := by decide +kernel
theorem dX8_row_24 : decode cX8_row 24 = .ok (.ireturn, 1) := by decide +kernel
theorem dX8_row_25 : decode cX8_row 25 = .ok (.iload_n 3, 1) := by decide +kernel
theorem dX8_row_26 : decode cX8_row 26 = .ok (.ifCond .ge 6, 3) := by decide +kernel
theorem dX8_row_29 : decode cX8_row 29 = .ok (.bipush (-3), 2) := by decide +kernel
theorem dX8_row_31 : decode cX8_row 31 = .ok (.ireturn, 1) := by decide +kernel
theorem dX8_row_32 : decode cX8_row 32 = .ok (.aload_n 0, 1) := by decide +kernel
theorem dX8_row_33 : decode cX8_row 33 = .ok (.getfield 32, 3) := by decide +kernel
theorem dX8_row_36 : decode cX8_row 36 = .ok (.iload_n 1, 1) := by decide +kernel
theorem dX8_row_37 : decode cX8_row 37 = .ok (.aaload, 1) := by decide +kernel
theorem dX8_row_38 : decode cX8_row 38 = .ok (.iload_n 2, 1) := by decide +kernel
theorem dX8_row_39 : decode cX8_row 39 = .ok (.iload_n 3, 1) := by decide +kernel
theorem dX8_row_40 : decode cX8_row 40 = .ok (.invokevirtual 385, 3) := by decide +kernel
theorem dX8_row_43 : decode cX8_row 43 = .ok (.iconst 0, 1) := by decide +kernel
theorem dX8_row_44 : decode cX8_row 44 = .ok (.ireturn, 1) := by decide +kernel
theorem dX8_rows_0 : decode cX8_rows 0 = .ok (.aload_n 0, 1) := by decide +kernel
theorem dX8_rows_1 : decode cX8_rows 1 = .ok (.invokevirtual 177, 3) := by decide +kernel
theorem dX8_rows_4 : decode cX8_rows 4 = .ok (.ifCond .eq 6, 3) := by decide +kernel
theorem dX8_rows_7 : decode cX8_rows 7 = .ok (.bipush (-2), 2) := by decide +kernel
theorem dX8_rows_9 : decode cX8_rows 9 = .ok (.ireturn, 1) := by decide +kernel
theorem dX8_rows_10 : decode cX8_rows 10 = .ok (.iconst 0, 1) := by decide +kernel
theorem dX8_rows_11 : decode cX8_rows 11 = .ok (.istore_n 1, 1) := by decide +kernel
theorem dX8_rows_12 : decode cX8_rows 12 = .ok (.iconst 0, 1) := by decide +kernel
theorem dX8_rows_13 : decode cX8_rows 13 = .ok (.istore_n 2, 1) := by decide +kernel
theorem dX8_rows_14 : decode cX8_rows 14 = .ok (.iload_n 2, 1) := by decide +kernel
theorem dX8_rows_15 : decode cX8_rows 15 = .ok (.aload_n 0, 1) := by decide +kernel
theorem dX8_rows_16 : decode cX8_rows 16 = .ok (.getfield 19, 3) := by decide +kernel
theorem dX8_rows_19 : decode cX8_rows 19 = .ok (.getfield 181, 3) := by decide +kernel
theorem dX8_rows_22 : decode cX8_rows 22 = .ok (.if_icmp .gt 21, 3) := by decide +kernel
theorem dX8_rows_25 : decode cX8_rows 25 = .ok (.aload_n 0, 1) := by decide +kernel
theorem dX8_rows_26 : decode cX8_rows 26 = .ok (.iload_n 2, 1) := by decide +kernel
theorem dX8_rows_27 : decode cX8_rows 27 = .ok (.invokevirtual 190, 3) := by decide +kernel
theorem dX8_rows_30 : decode cX8_rows 30 = .ok (.iload_n 2, 1) := by decide +kernel
theorem dX8_rows_31 : decode cX8_rows 31 = .ok (.if_icmp .ne 6, 3) := by decide +kernel
theorem dX8_rows_34 : decode cX8_rows 34 = .ok (.iinc 1 1, 3) := by decide +kernel
theorem dX8_rows_37 : decode cX8_rows 37 = .ok (.iinc 2 1, 3) := by decide +kernel
theorem dX8_rows_40 : decode cX8_rows 40 = .ok (.goto (-26), 3) := by decide +kernel
theorem dX8_rows_43 : decode cX8_rows 43 = .ok (.iload_n 1, 1) := by decide +kernel
theorem dX8_rows_44 : decode cX8_rows 44 = .ok (.ireturn, 1) := by decide +kernel
theorem dX8_rowsOf_0 : decode cX8_rowsOf 0 = .ok (.aload_n 0, 1) := by decide +kernel
theorem dX8_rowsOf_1 : decode cX8_rowsOf 1 = .ok (.iload_n 1, 1) := by decide +kernel
theorem dX8_rowsOf_2 : decode cX8_rowsOf 2 = .ok (.invokevirtual 239, 3) := by decide +kernel
theorem dX8_rowsOf_5 : decode cX8_rowsOf 5 = .ok (.ifCond .eq 14, 3) := by decide +kernel
theorem dX8_rowsOf_8 : decode cX8_rowsOf 8 = .ok (.aload_n 0, 1) := by decide +kernel
theorem dX8_rowsOf_9 : decode cX8_rowsOf 9 = .ok (.iload_n 1, 1) := by decide +kernel
theorem dX8_rowsOf_10 : decode cX8_rowsOf 10 = .ok (.invokevirtual 242, 3) := by decide +kernel
theorem dX8_rowsOf_13 : decode cX8_rowsOf 13 = .ok (.getfield 246, 3) := by decide +kernel
theorem dX8_rowsOf_16 : decode cX8_rowsOf 16 = .ok (.goto 5, 3) := by decide +kernel
theorem dX8_rowsOf_19 : decode cX8_rowsOf 19 = .ok (.bipush (-2), 2) := by decide +kernel
theorem dX8_rowsOf_21 : decode cX8_rowsOf 21 = .ok (.ireturn, 1) := by decide +kernel
theorem dX8_same_0 : decode cX8_same 0 = .ok (.aload_n 0, 1) := by decide +kernel
theorem dX8_same_1 : decode cX8_same 1 = .ok (.iload_n 1, 1) := by decide +kernel
theorem dX8_same_2 : decode cX8_same 2 = .ok (.invokevirtual 132, 3) := by decide +kernel
theorem dX8_same_5 : decode cX8_same 5 = .ok (.ifCond .eq 11, 3) := by decide +kernel
theorem dX8_same_8 : decode cX8_same 8 = .ok (.aload_n 0, 1) := by decide +kernel
theorem dX8_same_9 : decode cX8_same 9 = .ok (.iload_n 1, 1) := by decide +kernel
theorem dX8_same_10 : decode cX8_same 10 = .ok (.invokevirtual 190, 3) := by decide +kernel
theorem dX8_same_13 : decode cX8_same 13 = .ok (.goto 5, 3) := by decide +kernel
theorem dX8_same_16 : decode cX8_same 16 = .ok (.bipush (-2), 2) := by decide +kernel
theorem dX8_same_18 : decode cX8_same 18 = .ok (.ireturn, 1) := by decide +kernel
theorem dX8_seenFault_0 : decode cX8_seenFault 0 = .ok (.iload_n 1, 1) := by decide +kernel
theorem dX8_seenFault_1 : decode cX8_seenFault 1 = .ok (.invokestatic 382, 3) := by decide +kernel
theorem dX8_seenFault_4 : decode cX8_seenFault 4 = .ok (.ifCond .eq 7, 3) := by decide +kernel
theorem dX8_seenFault_7 : decode cX8_seenFault 7 = .ok (.iload_n 2, 1) := by decide +kernel
theorem dX8_seenFault_8 : decode cX8_seenFault 8 = .ok (.ifCond .ne 6, 3) := by decide +kernel
theorem dX8_seenFault_11 : decode cX8_seenFault 11 = .ok (.bipush (-2), 2) := by decide +kernel
theorem dX8_seenFault_13 : decode cX8_seenFault 13 = .ok (.ireturn, 1) := by decide +kernel
theorem dX8_seenFault_14 : decode cX8_seenFault 14 = .ok (.aload_n 0, 1) := by decide +kernel
theorem dX8_seenFault_15 : decode cX8_seenFault 15 = .ok (.getfield 32, 3) := by decide +kernel
theorem dX8_seenFault_18 : decode cX8_seenFault 18 = .ok (.iload_n 1, 1) := by decide +kernel
theorem dX8_seenFault_19 : decode cX8_seenFault 19 = .ok (.aaload, 1) := by decide +kernel
theorem dX8_seenFault_20 : decode cX8_seenFault 20 = .ok (.getfield 389, 3) := by decide +kernel
theorem dX8_seenFault_23 : decode cX8_seenFault 23 = .ok (.ifCond .ne 6, 3) := by decide +kernel
theorem dX8_seenFault_26 : decode cX8_seenFault 26 = .ok (.bipush (-6), 2) := by decide +kernel
theorem dX8_seenFault_28 : decode cX8_seenFault 28 = .ok (.ireturn, 1) := by decide +kernel
theorem dX8_seenFault_29 : decode cX8_seenFault 29 = .ok (.aload_n 0, 1) := by decide +kernel
theorem dX8_seenFault_30 : decode cX8_seenFault 30 = .ok (.getfield 32, 3) := by decide +kernel
theorem dX8_seenFault_33 : decode cX8_seenFault 33 = .ok (.iload_n 1, 1) := by decide +kernel
theorem dX8_seenFault_34 : decode cX8_seenFault 34 = .ok (.aaload, 1) := by decide +kernel
theorem dX8_seenFault_35 : decode cX8_seenFault 35 = .ok (.aload_n 0, 1) := by decide +kernel
theorem dX8_seenFault_36 : decode cX8_seenFault 36 = .ok (.getfield 19, 3) := by decide +kernel
theorem dX8_seenFault_39 : decode cX8_seenFault 39 = .ok (.getfield 181, 3) := by decide +kernel
theorem dX8_seenFault_42 : decode cX8_seenFault 42 = .ok (.invokevirtual 504, 3) := by decide +kernel
theorem dX8_seenFault_45 : decode cX8_seenFault 45 = .ok (.ifCond .eq 7, 3) := by decide +kernel
theorem dX8_seenFault_48 : decode cX8_seenFault 48 = .ok (.iconst 0, 1) := by decide +kernel
theorem dX8_seenFault_49 : decode cX8_seenFault 49 = .ok (.goto 5, 3) := by decide +kernel
theorem dX8_seenFault_52 : decode cX8_seenFault 52 = .ok (.bipush (-2), 2) := by decide +kernel
theorem dX8_seenFault_54 : decode cX8_seenFault 54 = .ok (.ireturn, 1) := by decide +kernel
theorem dX8_share_0 : decode cX8_share 0 = .ok (.aload_n 0, 1) := by decide +kernel
theorem dX8_share_1 : decode cX8_share 1 = .ok (.iload_n 1, 1) := by decide +kernel
theorem dX8_share_2 : decode cX8_share 2 = .ok (.invokevirtual 120, 3) := by decide +kernel
theorem dX8_share_5 : decode cX8_share 5 = .ok (.ifCond .eq 10, 3) := by decide +kernel
theorem dX8_share_8 : decode cX8_share 8 = .ok (.iload_n 2, 1) := by decide +kernel
theorem dX8_share_9 : decode cX8_share 9 = .ok (.invokestatic 123, 3) := by decide +kernel
theorem dX8_share_12 : decode cX8_share 12 = .ok (.ifCond .ne 7, 3) := by decide +kernel
theorem dX8_share_15 : decode cX8_share 15 = .ok (.sipush (-1000), 3) := by decide +kernel
theorem dX8_share_18 : decode cX8_share 18 = .ok (.ireturn, 1) := by decide +kernel
theorem dX8_share_19 : decode cX8_share 19 = .ok (.aload_n 0, 1) := by decide +kernel
theorem dX8_share_20 : decode cX8_share 20 = .ok (.invokevirtual 310, 3) := by decide +kernel
theorem dX8_share_23 : decode cX8_share 23 = .ok (.aload_n 0, 1) := by decide +kernel
theorem dX8_share_24 : decode cX8_share 24 = .ok (.iload_n 1, 1) := by decide +kernel
theorem dX8_share_25 : decode cX8_share 25 = .ok (.invokevirtual 313, 3) := by decide +kernel
theorem dX8_share_28 : decode cX8_share 28 = .ok (.i2l, 1) := by decide +kernel
theorem dX8_share_29 : decode cX8_share 29 = .ok (.aload_n 0, 1) := by decide +kernel
theorem dX8_share_30 : decode cX8_share 30 = .ok (.getfield 19, 3) := by decide +kernel
theorem dX8_share_33 : decode cX8_share 33 = .ok (.getfield 278, 3) := by decide +kernel
theorem dX8_share_36 : decode cX8_share 36 = .ok (.invokestatic 316, 3) := by decide +kernel
theorem dX8_share_39 : decode cX8_share 39 = .ok (.i2l, 1) := by decide +kernel
theorem dX8_share_40 : decode cX8_share 40 = .ok (.iload_n 2, 1) := by decide +kernel
theorem dX8_share_41 : decode cX8_share 41 = .ok (.invokestatic 319, 3) := by decide +kernel
theorem dX8_share_44 : decode cX8_share 44 = .ok (.l2i, 1) := by decide +kernel
theorem dX8_share_45 : decode cX8_share 45 = .ok (.ireturn, 1) := by decide +kernel
theorem dX8_slotsWithRow_0 : decode cX8_slotsWithRow 0 = .ok (.iconst 0, 1) := by decide +kernel
theorem dX8_slotsWithRow_1 : decode cX8_slotsWithRow 1 = .ok (.istore_n 1, 1) := by decide +kernel
theorem dX8_slotsWithRow_2 : decode cX8_slotsWithRow 2 = .ok (.iconst 0, 1) := by decide +kernel
theorem dX8_slotsWithRow_3 : decode cX8_slotsWithRow 3 = .ok (.istore_n 2, 1) := by decide +kernel
theorem dX8_slotsWithRow_4 : decode cX8_slotsWithRow 4 = .ok (.iload_n 2, 1) := by decide +kernel
theorem dX8_slotsWithRow_5 : decode cX8_slotsWithRow 5 = .ok (.iconst 4, 1) := by decide +kernel
theorem dX8_slotsWithRow_6 : decode cX8_slotsWithRow 6 = .ok (.if_icmp .ge 24, 3) := by decide +kernel
theorem dX8_slotsWithRow_9 : decode cX8_slotsWithRow 9 = .ok (.iload_n 1, 1) := by decide +kernel
theorem dX8_slotsWithRow_10 : decode cX8_slotsWithRow 10 = .ok (.aload_n 0, 1) := by decide +kernel
theorem dX8_slotsWithRow_11 : decode cX8_slotsWithRow 11 = .ok (.getfield 32, 3) := by decide +kernel
theorem dX8_slotsWithRow_14 : decode cX8_slotsWithRow 14 = .ok (.iload_n 2, 1) := by decide +kernel
theorem dX8_slotsWithRow_15 : decode cX8_slotsWithRow 15 = .ok (.aaload, 1) := by decide +kernel
theorem dX8_slotsWithRow_16 : decode cX8_slotsWithRow 16 = .ok (.getfield 389, 3) := by decide +kernel
theorem dX8_slotsWithRow_19 : decode cX8_slotsWithRow 19 = .ok (.invokestatic 200, 3) := by decide +kernel
theorem dX8_slotsWithRow_22 : decode cX8_slotsWithRow 22 = .ok (.iadd, 1) := by decide +kernel
theorem dX8_slotsWithRow_23 : decode cX8_slotsWithRow 23 = .ok (.istore_n 1, 1) := by decide +kernel
theorem dX8_slotsWithRow_24 : decode cX8_slotsWithRow 24 = .ok (.iinc 2 1, 3) := by decide +kernel
theorem dX8_slotsWithRow_27 : decode cX8_slotsWithRow 27 = .ok (.goto (-23), 3) := by decide +kernel
theorem dX8_slotsWithRow_30 : decode cX8_slotsWithRow 30 = .ok (.iload_n 1, 1) := by decide +kernel
theorem dX8_slotsWithRow_31 : decode cX8_slotsWithRow 31 = .ok (.ireturn, 1) := by decide +kernel
theorem dX8_smallRowFault_0 : decode cX8_smallRowFault 0 = .ok (.iload_n 1, 1) := by decide +kernel
theorem dX8_smallRowFault_1 : decode cX8_smallRowFault 1 = .ok (.invokestatic 382, 3) := by decide +kernel
theorem dX8_smallRowFault_4 : decode cX8_smallRowFault 4 = .ok (.ifCond .eq 10, 3) := by decide +kernel
theorem dX8_smallRowFault_7 : decode cX8_smallRowFault 7 = .ok (.aload_n 0, 1) := by decide +kernel
theorem dX8_smallRowFault_8 : decode cX8_smallRowFault 8 = .ok (.invokevirtual 177, 3) := by decide +kernel
theorem dX8_smallRowFault_11 : decode cX8_smallRowFault 11 = .ok (.ifCond .eq 6, 3) := by decide +kernel
theorem dX8_smallRowFault_14 : decode cX8_smallRowFault 14 = .ok (.bipush (-2), 2) := by decide +kernel
theorem dX8_smallRowFault_16 : decode cX8_smallRowFault 16 = .ok (.ireturn, 1) := by decide +kernel
theorem dX8_smallRowFault_17 : decode cX8_smallRowFault 17 = .ok (.aload_n 0, 1) := by decide +kernel
theorem dX8_smallRowFault_18 : decode cX8_smallRowFault 18 = .ok (.getfield 32, 3) := by decide +kernel
theorem dX8_smallRowFault_21 : decode cX8_smallRowFault 21 = .ok (.iload_n 1, 1) := by decide +kernel
theorem dX8_smallRowFault_22 : decode cX8_smallRowFault 22 = .ok (.aaload, 1) := by decide +kernel
theorem dX8_smallRowFault_23 : decode cX8_smallRowFault 23 = .ok (.getfield 389, 3) := by decide +kernel
theorem dX8_smallRowFault_26 : decode cX8_smallRowFault 26 = .ok (.ifCond .ne 6, 3) := by decide +kernel
theorem dX8_smallRowFault_29 : decode cX8_smallRowFault 29 = .ok (.bipush (-6), 2) := by decide +kernel
theorem dX8_smallRowFault_31 : decode cX8_smallRowFault 31 = .ok (.ireturn, 1) := by decide +kernel
theorem dX8_smallRowFault_32 : decode cX8_smallRowFault 32 = .ok (.aload_n 0, 1) := by decide +kernel
theorem dX8_smallRowFault_33 : decode cX8_smallRowFault 33 = .ok (.getfield 32, 3) := by decide +kernel
theorem dX8_smallRowFault_36 : decode cX8_smallRowFault 36 = .ok (.iload_n 1, 1) := by decide +kernel
theorem dX8_smallRowFault_37 : decode cX8_smallRowFault 37 = .ok (.aaload, 1) := by decide +kernel
theorem dX8_smallRowFault_38 : decode cX8_smallRowFault 38 = .ok (.aload_n 0, 1) := by decide +kernel
theorem dX8_smallRowFault_39 : decode cX8_smallRowFault 39 = .ok (.getfield 70, 3) := by decide +kernel
theorem dX8_smallRowFault_42 : decode cX8_smallRowFault 42 = .ok (.invokevirtual 501, 3) := by decide +kernel
theorem dX8_smallRowFault_45 : decode cX8_smallRowFault 45 = .ok (.ifCond .eq 7, 3) := by decide +kernel
theorem dX8_smallRowFault_48 : decode cX8_smallRowFault 48 = .ok (.iconst 0, 1) := by decide +kernel
theorem dX8_smallRowFault_49 : decode cX8_smallRowFault 49 = .ok (.goto 5, 3) := by decide +kernel
theorem dX8_smallRowFault_52 : decode cX8_smallRowFault 52 = .ok (.bipush (-2), 2) := by decide +kernel
theorem dX8_smallRowFault_54 : decode cX8_smallRowFault 54 = .ok (.ireturn, 1) := by decide +kernel
theorem dX8_soon_0 : decode cX8_soon 0 = .ok (.aload_n 0, 1) := by decide +kernel
theorem dX8_soon_1 : decode cX8_soon 1 = .ok (.iload_n 1, 1) := by decide +kernel
theorem dX8_soon_2 : decode cX8_soon 2 = .ok (.invokevirtual 132, 3) := by decide +kernel
theorem dX8_soon_5 : decode cX8_soon 5 = .ok (.ifCond .eq 14, 3) := by decide +kernel
theorem dX8_soon_8 : decode cX8_soon 8 = .ok (.aload_n 0, 1) := by decide +kernel
theorem dX8_soon_9 : decode cX8_soon 9 = .ok (.iload_n 1, 1) := by decide +kernel
theorem dX8_soon_10 : decode cX8_soon 10 = .ok (.invokevirtual 217, 3) := by decide +kernel
theorem dX8_soon_13 : decode cX8_soon 13 = .ok (.getfield 236, 3) := by decide +kernel
theorem dX8_soon_16 : decode cX8_soon 16 = .ok (.goto 5, 3) := by decide +kernel
theorem dX8_soon_19 : decode cX8_soon 19 = .ok (.bipush (-2), 2) := by decide +kernel
theorem dX8_soon_21 : decode cX8_soon 21 = .ok (.ireturn, 1) := by decide +kernel
theorem dX8_sorts_0 : decode cX8_sorts 0 = .ok (.aload_n 0, 1) := by decide +kernel
theorem dX8_sorts_1 : decode cX8_sorts 1 = .ok (.iload_n 1, 1) := by decide +kernel
theorem dX8_sorts_2 : decode cX8_sorts 2 = .ok (.invokevirtual 132, 3) := by decide +kernel
theorem dX8_sorts_5 : decode cX8_sorts 5 = .ok (.ifCond .eq 14, 3) := by decide +kernel
theorem dX8_sorts_8 : decode cX8_sorts 8 = .ok (.aload_n 0, 1) := by decide +kernel
theorem dX8_sorts_9 : decode cX8_sorts 9 = .ok (.iload_n 1, 1) := by decide +kernel
theorem dX8_sorts_10 : decode cX8_sorts 10 = .ok (.invokevirtual 135, 3) := by decide +kernel
theorem dX8_sorts_13 : decode cX8_sorts 13 = .ok (.getfield 152, 3) := by decide +kernel
theorem dX8_sorts_16 : decode cX8_sorts 16 = .ok (.goto 5, 3) := by decide +kernel
theorem dX8_sorts_19 : decode cX8_sorts 19 = .ok (.bipush (-2), 2) := by decide +kernel
theorem dX8_sorts_21 : decode cX8_sorts 21 = .ok (.ireturn, 1) := by decide +kernel
theorem dX8_spare_0 : decode cX8_spare 0 = .ok (.aload_n 0, 1) := by decide +kernel
theorem dX8_spare_1 : decode cX8_spare 1 = .ok (.invokevirtual 177, 3) := by decide +kernel
theorem dX8_spare_4 : decode cX8_spare 4 = .ok (.ifCond .eq 6, 3) := by decide +kernel
theorem dX8_spare_7 : decode cX8_spare 7 = .ok (.bipush (-2), 2) := by decide +kernel
theorem dX8_spare_9 : decode cX8_spare 9 = .ok (.ireturn, 1) := by decide +kernel
theorem dX8_spare_10 : decode cX8_spare 10 = .ok (.iconst (-1), 1) := by decide +kernel
theorem dX8_spare_11 : decode cX8_spare 11 = .ok (.istore_n 1, 1) := by decide +kernel
theorem dX8_spare_12 : decode cX8_spare 12 = .ok (.aload_n 0, 1) := by decide +kernel
theorem dX8_spare_13 : decode cX8_spare 13 = .ok (.invokevirtual 272, 3) := by decide +kernel
theorem dX8_spare_16 : decode cX8_spare 16 = .ok (.istore_n 2, 1) := by decide +kernel
theorem dX8_spare_17 : decode cX8_spare 17 = .ok (.iconst 0, 1) := by decide +kernel
theorem dX8_spare_18 : decode cX8_spare 18 = .ok (.istore_n 3, 1) := by decide +kernel
theorem dX8_spare_19 : decode cX8_spare 19 = .ok (.iload_n 3, 1) := by decide +kernel
theorem dX8_spare_20 : decode cX8_spare 20 = .ok (.aload_n 0, 1) := by decide +kernel
theorem dX8_spare_21 : decode cX8_spare 21 = .ok (.getfield 19, 3) := by decide +kernel
theorem dX8_spare_24 : decode cX8_spare 24 = .ok (.getfield 278, 3) := by decide +kernel
theorem dX8_spare_27 : decode cX8_spare 27 = .ok (.if_icmp .ge 34, 3) := by decide +kernel
theorem dX8_spare_30 : decode cX8_spare 30 = .ok (.aload_n 0, 1) := by decide +kernel
theorem dX8_spare_31 : decode cX8_spare 31 = .ok (.bipush 63, 2) := by decide +kernel
theorem dX8_spare_33 : decode cX8_spare 33 = .ok (.iconst 1, 1) := by decide +kernel
theorem dX8_spare_34 : decode cX8_spare 34 = .ok (.iload_n 3, 1) := by decide +kernel
theorem dX8_spare_35 : decode cX8_spare 35 = .ok (.ishl, 1) := by decide +kernel
theorem dX8_spare_36 : decode cX8_spare 36 = .ok (.iconst (-1), 1) := by decide +kernel
theorem dX8_spare_37 : decode cX8_spare 37 = .ok (.ixor, 1) := by decide +kernel
theorem dX8_spare_38 : decode cX8_spare 38 = .ok (.iand, 1) := by decide +kernel
theorem dX8_spare_39 : decode cX8_spare 39 = .ok (.invokevirtual 281, 3) := by decide +kernel
theorem dX8_spare_42 : decode cX8_spare 42 = .ok (.istore 4, 2) := by decide +kernel
theorem dX8_spare_44 : decode cX8_spare 44 = .ok (.iload 4, 2) := by decide +kernel
theorem dX8_spare_46 : decode cX8_spare 46 = .ok (.iload_n 2, 1) := by decide +kernel
theorem dX8_spare_47 : decode cX8_spare 47 = .ok (.if_icmp .le 8, 3) := by decide +kernel
theorem dX8_spare_50 : decode cX8_spare 50 = .ok (.iload_n 3, 1) := by decide +kernel
theorem dX8_spare_51 : decode cX8_spare 51 = .ok (.istore_n 1, 1) := by decide +kernel
theorem dX8_spare_52 : decode cX8_spare 52 = .ok (.iload 4, 2) := by decide +kernel
theorem dX8_spare_54 : decode cX8_spare 54 = .ok (.istore_n 2, 1) := by decide +kernel
theorem dX8_spare_55 : decode cX8_spare 55 = .ok (.iinc 3 1, 3) := by decide +kernel
theorem dX8_spare_58 : decode cX8_spare 58 = .ok (.goto (-39), 3) := by decide +kernel
theorem dX8_spare_61 : decode cX8_spare 61 = .ok (.iload_n 1, 1) := by decide +kernel
theorem dX8_spare_62 : decode cX8_spare 62 = .ok (.ireturn, 1) := by decide +kernel
theorem dX8_spread_0 : decode cX8_spread 0 = .ok (.aload_n 0, 1) := by decide +kernel
theorem dX8_spread_1 : decode cX8_spread 1 = .ok (.iload_n 1, 1) := by decide +kernel
theorem dX8_spread_2 : decode cX8_spread 2 = .ok (.invokevirtual 132, 3) := by decide +kernel
theorem dX8_spread_5 : decode cX8_spread 5 = .ok (.ifCond .eq 23, 3) := by decide +kernel
theorem dX8_spread_8 : decode cX8_spread 8 = .ok (.aload_n 0, 1) := by decide +kernel
theorem dX8_spread_9 : decode cX8_spread 9 = .ok (.iload_n 1, 1) := by decide +kernel
theorem dX8_spread_10 : decode cX8_spread 10 = .ok (.invokevirtual 135, 3) := by decide +kernel
theorem dX8_spread_13 : decode cX8_spread 13 = .ok (.invokevirtual 155, 3) := by decide +kernel
theorem dX8_spread_16 : decode cX8_spread 16 = .ok (.aload_n 0, 1) := by decide +kernel
theorem dX8_spread_17 : decode cX8_spread 17 = .ok (.iload_n 1, 1) := by decide +kernel
theorem dX8_spread_18 : decode cX8_spread 18 = .ok (.invokevirtual 135, 3) := by decide +kernel
theorem dX8_spread_21 : decode cX8_spread 21 = .ok (.invokevirtual 159, 3) := by decide +kernel
theorem dX8_spread_24 : decode cX8_spread 24 = .ok (.isub, 1) := by decide +kernel
theorem dX8_spread_25 : decode cX8_spread 25 = .ok (.goto 5, 3) := by decide +kernel
theorem dX8_spread_28 : decode cX8_spread 28 = .ok (.bipush (-2), 2) := by decide +kernel
theorem dX8_spread_30 : decode cX8_spread 30 = .ok (.ireturn, 1) := by decide +kernel
theorem dX8_square_0 : decode cX8_square 0 = .ok (.aload_n 0, 1) := by decide +kernel
theorem dX8_square_1 : decode cX8_square 1 = .ok (.iload_n 1, 1) := by decide +kernel
theorem dX8_square_2 : decode cX8_square 2 = .ok (.invokevirtual 132, 3) := by decide +kernel
theorem dX8_square_5 : decode cX8_square 5 = .ok (.ifCond .eq 14, 3) := by decide +kernel
theorem dX8_square_8 : decode cX8_square 8 = .ok (.aload_n 0, 1) := by decide +kernel
theorem dX8_square_9 : decode cX8_square 9 = .ok (.iload_n 1, 1) := by decide +kernel
theorem dX8_square_10 : decode cX8_square 10 = .ok (.invokevirtual 135, 3) := by decide +kernel
theorem dX8_square_13 : decode cX8_square 13 = .ok (.invokevirtual 204, 3) := by decide +kernel
theorem dX8_square_16 : decode cX8_square 16 = .ok (.goto 5, 3) := by decide +kernel
theorem dX8_square_19 : decode cX8_square 19 = .ok (.bipush (-2), 2) := by decide +kernel
theorem dX8_square_21 : decode cX8_square 21 = .ok (.ireturn, 1) := by decide +kernel
theorem dX8_stair_0 : decode cX8_stair 0 = .ok (.aload_n 0, 1) := by decide +kernel
theorem dX8_stair_1 : decode cX8_stair 1 = .ok (.iload_n 1, 1) := by decide +kernel
theorem dX8_stair_2 : decode cX8_stair 2 = .ok (.invokevirtual 132, 3) := by decide +kernel
theorem dX8_stair_5 : decode cX8_stair 5 = .ok (.ifCond .eq 17, 3) := by decide +kernel
theorem dX8_stair_8 : decode cX8_stair 8 = .ok (.aload_n 0, 1) := by decide +kernel
theorem dX8_stair_9 : decode cX8_stair 9 = .ok (.iload_n 1, 1) := by decide +kernel
theorem dX8_stair_10 : decode cX8_stair 10 = .ok (.invokevirtual 135, 3) := by decide +kernel
theorem dX8_stair_13 : decode cX8_stair 13 = .ok (.invokevirtual 197, 3) := by decide +kernel
theorem dX8_stair_16 : decode cX8_stair 16 = .ok (.invokestatic 200, 3) := by decide +kernel
theorem dX8_stair_19 : decode cX8_stair 19 = .ok (.goto 5, 3) := by decide +kernel
theorem dX8_stair_22 : decode cX8_stair 22 = .ok (.bipush (-2), 2) := by decide +kernel
theorem dX8_stair_24 : decode cX8_stair 24 = .ok (.ireturn, 1) := by decide +kernel
theorem dX8_stairs_0 : decode cX8_stairs 0 = .ok (.aload_n 0, 1) := by decide +kernel
theorem dX8_stairs_1 : decode cX8_stairs 1 = .ok (.invokevirtual 177, 3) := by decide +kernel
theorem dX8_stairs_4 : decode cX8_stairs 4 = .ok (.ifCond .eq 6, 3) := by decide +kernel
theorem dX8_stairs_7 : decode cX8_stairs 7 = .ok (.bipush (-2), 2) := by decide +kernel
theorem dX8_stairs_9 : decode cX8_stairs 9 = .ok (.ireturn, 1) := by decide +kernel
theorem dX8_stairs_10 : decode cX8_stairs 10 = .ok (.iconst 0, 1) := by decide +kernel
theorem dX8_stairs_11 : decode cX8_stairs 11 = .ok (.istore_n 1, 1) := by decide +kernel
theorem dX8_stairs_12 : decode cX8_stairs 12 = .ok (.iload_n 1, 1) := by decide +kernel
theorem dX8_stairs_13 : decode cX8_stairs 13 = .ok (.aload_n 0, 1) := by decide +kernel
theorem dX8_stairs_14 : decode cX8_stairs 14 = .ok (.getfield 19, 3) := by decide +kernel
theorem dX8_stairs_17 : decode cX8_stairs 17 = .ok (.getfield 181, 3) := by decide +kernel
theorem dX8_stairs_20 : decode cX8_stairs 20 = .ok (.if_icmp .gt 22, 3) := by decide +kernel
theorem dX8_stairs_23 : decode cX8_stairs 23 = .ok (.aload_n 0, 1) := by decide +kernel
theorem dX8_stairs_24 : decode cX8_stairs 24 = .ok (.iload_n 1, 1) := by decide +kernel
theorem dX8_stairs_25 : decode cX8_stairs 25 = .ok (.invokevirtual 135, 3) := by decide +kernel
theorem dX8_stairs_28 : decode cX8_stairs 28 = .ok (.invokevirtual 197, 3) := by decide +kernel
theorem dX8_stairs_31 : decode cX8_stairs 31 = .ok (.ifCond .eq 5, 3) := by decide +kernel
theorem dX8_stairs_34 : decode cX8_stairs 34 = .ok (.iload_n 1, 1) := by decide +kernel
theorem dX8_stairs_35 : decode cX8_stairs 35 = .ok (.ireturn, 1) := by decide +kernel
theorem dX8_stairs_36 : decode cX8_stairs 36 = .ok (.iinc 1 1, 3) := by decide +kernel
theorem dX8_stairs_39 : decode cX8_stairs 39 = .ok (.goto (-27), 3) := by decide +kernel
theorem dX8_stairs_42 : decode cX8_stairs 42 = .ok (.iconst (-1), 1) := by decide +kernel
theorem dX8_stairs_43 : decode cX8_stairs 43 = .ok (.ireturn, 1) := by decide +kernel
theorem dX8_still_0 : decode cX8_still 0 = .ok (.aload_n 0, 1) := by decide +kernel
theorem dX8_still_1 : decode cX8_still 1 = .ok (.invokevirtual 177, 3) := by decide +kernel
theorem dX8_still_4 : decode cX8_still 4 = .ok (.ifCond .eq 6, 3) := by decide +kernel
theorem dX8_still_7 : decode cX8_still 7 = .ok (.bipush (-2), 2) := by decide +kernel
theorem dX8_still_9 : decode cX8_still 9 = .ok (.ireturn, 1) := by decide +kernel
theorem dX8_still_10 : decode cX8_still 10 = .ok (.aload_n 0, 1) := by decide +kernel
theorem dX8_still_11 : decode cX8_still 11 = .ok (.getfield 19, 3) := by decide +kernel
theorem dX8_still_14 : decode cX8_still 14 = .ok (.getfield 181, 3) := by decide +kernel
theorem dX8_still_17 : decode cX8_still 17 = .ok (.istore_n 1, 1) := by decide +kernel
theorem dX8_still_18 : decode cX8_still 18 = .ok (.iload_n 1, 1) := by decide +kernel
theorem dX8_still_19 : decode cX8_still 19 = .ok (.ifCond .le 33, 3) := by decide +kernel
theorem dX8_still_22 : decode cX8_still 22 = .ok (.aload_n 0, 1) := by decide +kernel
theorem dX8_still_23 : decode cX8_still 23 = .ok (.iload_n 1, 1) := by decide +kernel
theorem dX8_still_24 : decode cX8_still 24 = .ok (.iconst 1, 1) := by decide +kernel
theorem dX8_still_25 : decode cX8_still 25 = .ok (.isub, 1) := by decide +kernel
theorem dX8_still_26 : decode cX8_still 26 = .ok (.invokevirtual 135, 3) := by decide +kernel
theorem dX8_still_29 : decode cX8_still 29 = .ok (.aload_n 0, 1) := by decide +kernel
theorem dX8_still_30 : decode cX8_still 30 = .ok (.aload_n 0, 1) := by decide +kernel
theorem dX8_still_31 : decode cX8_still 31 = .ok (.getfield 19, 3) := by decide +kernel
theorem dX8_still_34 : decode cX8_still 34 = .ok (.getfield 181, 3) := by decide +kernel
theorem dX8_still_37 : decode cX8_still 37 = .ok (.invokevirtual 135, 3) := by decide +kernel
theorem dX8_still_40 : decode cX8_still 40 = .ok (.invokevirtual 193, 3) := by decide +kernel
theorem dX8_still_43 : decode cX8_still 43 = .ok (.ifCond .eq 9, 3) := by decide +kernel
theorem dX8_still_46 : decode cX8_still 46 = .ok (.iinc 1 (-1), 3) := by decide +kernel
theorem dX8_still_49 : decode cX8_still 49 = .ok (.goto (-31), 3) := by decide +kernel
theorem dX8_still_52 : decode cX8_still 52 = .ok (.iload_n 1, 1) := by decide +kernel
theorem dX8_still_53 : decode cX8_still 53 = .ok (.ireturn, 1) := by decide +kernel
theorem dX8_tail_0 : decode cX8_tail 0 = .ok (.aload_n 0, 1) := by decide +kernel
theorem dX8_tail_1 : decode cX8_tail 1 = .ok (.iload_n 1, 1) := by decide +kernel
theorem dX8_tail_2 : decode cX8_tail 2 = .ok (.invokevirtual 132, 3) := by decide +kernel
theorem dX8_tail_5 : decode cX8_tail 5 = .ok (.ifCond .eq 14, 3) := by decide +kernel
theorem dX8_tail_8 : decode cX8_tail 8 = .ok (.aload_n 0, 1) := by decide +kernel
theorem dX8_tail_9 : decode cX8_tail 9 = .ok (.iload_n 1, 1) := by decide +kernel
theorem dX8_tail_10 : decode cX8_tail 10 = .ok (.invokevirtual 217, 3) := by decide +kernel
theorem dX8_tail_13 : decode cX8_tail 13 = .ok (.getfield 221, 3) := by decide +kernel
theorem dX8_tail_16 : decode cX8_tail 16 = .ok (.goto 5, 3) := by decide +kernel
theorem dX8_tail_19 : decode cX8_tail 19 = .ok (.bipush (-2), 2) := by decide +kernel
theorem dX8_tail_21 : decode cX8_tail 21 = .ok (.ireturn, 1) := by decide +kernel
theorem dX8_taken_0 : decode cX8_taken 0 = .ok (.aload_n 0, 1) := by decide +kernel
theorem dX8_taken_1 : decode cX8_taken 1 = .ok (.iload_n 1, 1) := by decide +kernel
theorem dX8_taken_2 : decode cX8_taken 2 = .ok (.invokevirtual 165, 3) := by decide +kernel
theorem dX8_taken_5 : decode cX8_taken 5 = .ok (.ifCond .eq 21, 3) := by decide +kernel
theorem dX8_taken_8 : decode cX8_taken 8 = .ok (.aload_n 0, 1) := by decide +kernel
theorem dX8_taken_9 : decode cX8_taken 9 = .ok (.iload_n 1, 1) := by decide +kernel
theorem dX8_taken_10 : decode cX8_taken 10 = .ok (.invokevirtual 135, 3) := by decide +kernel
theorem dX8_taken_13 : decode cX8_taken 13 = .ok (.aload_n 0, 1) := by decide +kernel
theorem dX8_taken_14 : decode cX8_taken 14 = .ok (.getfield 19, 3) := by decide +kernel
theorem dX8_taken_17 : decode cX8_taken 17 = .ok (.getfield 168, 3) := by decide +kernel
theorem dX8_taken_20 : decode cX8_taken 20 = .ok (.invokevirtual 171, 3) := by decide +kernel
theorem dX8_taken_23 : decode cX8_taken 23 = .ok (.goto 5, 3) := by decide +kernel
theorem dX8_taken_26 : decode cX8_taken 26 = .ok (.bipush (-2), 2) := by decide +kernel
theorem dX8_taken_28 : decode cX8_taken 28 = .ok (.ireturn, 1) := by decide +kernel
theorem dX8_told_0 : decode cX8_told 0 = .ok (.aload_n 0, 1) := by decide +kernel
theorem dX8_told_1 : decode cX8_told 1 = .ok (.iload_n 1, 1) := by decide +kernel
theorem dX8_told_2 : decode cX8_told 2 = .ok (.invokevirtual 113, 3) := by decide +kernel
theorem dX8_told_5 : decode cX8_told 5 = .ok (.ifCond .eq 15, 3) := by decide +kernel
theorem dX8_told_8 : decode cX8_told 8 = .ok (.aload_n 0, 1) := by decide +kernel
theorem dX8_told_9 : decode cX8_told 9 = .ok (.getfield 19, 3) := by decide +kernel
theorem dX8_told_12 : decode cX8_told 12 = .ok (.getfield 117, 3) := by decide +kernel
theorem dX8_told_15 : decode cX8_told 15 = .ok (.iload_n 1, 1) := by decide +kernel
theorem dX8_told_16 : decode cX8_told 16 = .ok (.iaload, 1) := by decide +kernel
theorem dX8_told_17 : decode cX8_told 17 = .ok (.goto 5, 3) := by decide +kernel
theorem dX8_told_20 : decode cX8_told 20 = .ok (.bipush (-2), 2) := by decide +kernel
theorem dX8_told_22 : decode cX8_told 22 = .ok (.ireturn, 1) := by decide +kernel
theorem dX8_undo_0 : decode cX8_undo 0 = .ok (.aload_n 0, 1) := by decide +kernel
theorem dX8_undo_1 : decode cX8_undo 1 = .ok (.invokevirtual 177, 3) := by decide +kernel
theorem dX8_undo_4 : decode cX8_undo 4 = .ok (.ifCond .eq 6, 3) := by decide +kernel
theorem dX8_undo_7 : decode cX8_undo 7 = .ok (.bipush (-2), 2) := by decide +kernel
theorem dX8_undo_9 : decode cX8_undo 9 = .ok (.ireturn, 1) := by decide +kernel
theorem dX8_undo_10 : decode cX8_undo 10 = .ok (.aload_n 0, 1) := by decide +kernel
theorem dX8_undo_11 : decode cX8_undo 11 = .ok (.getfield 19, 3) := by decide +kernel
theorem dX8_undo_14 : decode cX8_undo 14 = .ok (.getfield 358, 3) := by decide +kernel
theorem dX8_undo_17 : decode cX8_undo 17 = .ok (.iconst 1, 1) := by decide +kernel
theorem dX8_undo_18 : decode cX8_undo 18 = .ok (.if_icmp .ge 6, 3) := by decide +kernel
theorem dX8_undo_21 : decode cX8_undo 21 = .ok (.bipush (-5), 2) := by decide +kernel
theorem dX8_undo_23 : decode cX8_undo 23 = .ok (.ireturn, 1) := by decide +kernel
theorem dX8_undo_24 : decode cX8_undo 24 = .ok (.aload_n 0, 1) := by decide +kernel
theorem dX8_undo_25 : decode cX8_undo 25 = .ok (.getfield 19, 3) := by decide +kernel
theorem dX8_undo_28 : decode cX8_undo 28 = .ok (.dup, 1) := by decide +kernel
theorem dX8_undo_29 : decode cX8_undo 29 = .ok (.getfield 358, 3) := by decide +kernel
theorem dX8_undo_32 : decode cX8_undo 32 = .ok (.iconst 1, 1) := by decide +kernel
theorem dX8_undo_33 : decode cX8_undo 33 = .ok (.isub, 1) := by decide +kernel
theorem dX8_undo_34 : decode cX8_undo 34 = .ok (.putfield 358, 3) := by decide +kernel
theorem dX8_undo_37 : decode cX8_undo 37 = .ok (.aload_n 0, 1) := by decide +kernel
theorem dX8_undo_38 : decode cX8_undo 38 = .ok (.invokevirtual 101, 3) := by decide +kernel
theorem dX8_undo_41 : decode cX8_undo 41 = .ok (.aload_n 0, 1) := by decide +kernel
theorem dX8_undo_42 : decode cX8_undo 42 = .ok (.getfield 19, 3) := by decide +kernel
theorem dX8_undo_45 : decode cX8_undo 45 = .ok (.getfield 358, 3) := by decide +kernel
theorem dX8_undo_48 : decode cX8_undo 48 = .ok (.ireturn, 1) := by decide +kernel
theorem dX8_way_0 : decode cX8_way 0 = .ok (.aload_n 0, 1) := by decide +kernel
theorem dX8_way_1 : decode cX8_way 1 = .ok (.iload_n 1, 1) := by decide +kernel
theorem dX8_way_2 : decode cX8_way 2 = .ok (.invokevirtual 259, 3) := by decide +kernel
theorem dX8_way_5 : decode cX8_way 5 = .ok (.istore_n 2, 1) := by decide +kernel
theorem dX8_way_6 : decode cX8_way 6 = .ok (.iload_n 2, 1) := by decide +kernel
theorem dX8_way_7 : decode cX8_way 7 = .ok (.ifCond .eq 5, 3) := by decide +kernel
theorem dX8_way_10 : decode cX8_way 10 = .ok (.iload_n 2, 1) := by decide +kernel
theorem dX8_way_11 : decode cX8_way 11 = .ok (.ireturn, 1) := by decide +kernel
theorem dX8_way_12 : decode cX8_way 12 = .ok (.aload_n 0, 1) := by decide +kernel
theorem dX8_way_13 : decode cX8_way 13 = .ok (.aload_n 0, 1) := by decide +kernel
theorem dX8_way_14 : decode cX8_way 14 = .ok (.getfield 70, 3) := by decide +kernel
theorem dX8_way_17 : decode cX8_way 17 = .ok (.getfield 146, 3) := by decide +kernel
theorem dX8_way_20 : decode cX8_way 20 = .ok (.invokevirtual 242, 3) := by decide +kernel
theorem dX8_way_23 : decode cX8_way 23 = .ok (.aload_n 0, 1) := by decide +kernel
theorem dX8_way_24 : decode cX8_way 24 = .ok (.getfield 70, 3) := by decide +kernel
theorem dX8_way_27 : decode cX8_way 27 = .ok (.invokevirtual 269, 3) := by decide +kernel
theorem dX8_way_30 : decode cX8_way 30 = .ok (.ireturn, 1) := by decide +kernel
theorem dX8_wins_0 : decode cX8_wins 0 = .ok (.aload_n 0, 1) := by decide +kernel
theorem dX8_wins_1 : decode cX8_wins 1 = .ok (.iload_n 1, 1) := by decide +kernel
theorem dX8_wins_2 : decode cX8_wins 2 = .ok (.invokevirtual 132, 3) := by decide +kernel
theorem dX8_wins_5 : decode cX8_wins 5 = .ok (.ifCond .eq 15, 3) := by decide +kernel
theorem dX8_wins_8 : decode cX8_wins 8 = .ok (.iload_n 2, 1) := by decide +kernel
theorem dX8_wins_9 : decode cX8_wins 9 = .ok (.iconst 1, 1) := by decide +kernel
theorem dX8_wins_10 : decode cX8_wins 10 = .ok (.if_icmp .lt 10, 3) := by decide +kernel
theorem dX8_wins_13 : decode cX8_wins 13 = .ok (.iload_n 2, 1) := by decide +kernel
theorem dX8_wins_14 : decode cX8_wins 14 = .ok (.sipush 700, 3) := by decide +kernel
theorem dX8_wins_17 : decode cX8_wins 17 = .ok (.if_icmp .le 6, 3) := by decide +kernel
theorem dX8_wins_20 : decode cX8_wins 20 = .ok (.bipush (-2), 2) := by decide +kernel
theorem dX8_wins_22 : decode cX8_wins 22 = .ok (.ireturn, 1) := by decide +kernel
theorem dX8_wins_23 : decode cX8_wins 23 = .ok (.aload_n 0, 1) := by decide +kernel
theorem dX8_wins_24 : decode cX8_wins 24 = .ok (.iload_n 1, 1) := by decide +kernel
theorem dX8_wins_25 : decode cX8_wins 25 = .ok (.invokevirtual 135, 3) := by decide +kernel
theorem dX8_wins_28 : decode cX8_wins 28 = .ok (.iload_n 2, 1) := by decide +kernel
theorem dX8_wins_29 : decode cX8_wins 29 = .ok (.iconst 1, 1) := by decide +kernel
theorem dX8_wins_30 : decode cX8_wins 30 = .ok (.iadd, 1) := by decide +kernel
theorem dX8_wins_31 : decode cX8_wins 31 = .ok (.invokevirtual 323, 3) := by decide +kernel
theorem dX8_wins_34 : decode cX8_wins 34 = .ok (.ifCond .eq 7, 3) := by decide +kernel
theorem dX8_wins_37 : decode cX8_wins 37 = .ok (.iconst 1, 1) := by decide +kernel
theorem dX8_wins_38 : decode cX8_wins 38 = .ok (.goto 4, 3) := by decide +kernel
theorem dX8_wins_41 : decode cX8_wins 41 = .ok (.iconst 0, 1) := by decide +kernel
theorem dX8_wins_42 : decode cX8_wins 42 = .ok (.invokestatic 200, 3) := by decide +kernel
theorem dX8_wins_45 : decode cX8_wins 45 = .ok (.ireturn, 1) := by decide +kernel
theorem dX8_worth_0 : decode cX8_worth 0 = .ok (.aload_n 0, 1) := by decide +kernel
theorem dX8_worth_1 : decode cX8_worth 1 = .ok (.invokevirtual 177, 3) := by decide +kernel
theorem dX8_worth_4 : decode cX8_worth 4 = .ok (.ifCond .ne 20, 3) := by decide +kernel
theorem dX8_worth_7 : decode cX8_worth 7 = .ok (.iload_n 1, 1) := by decide +kernel
theorem dX8_worth_8 : decode cX8_worth 8 = .ok (.ifCond .lt 16, 3) := by decide +kernel
theorem dX8_worth_11 : decode cX8_worth 11 = .ok (.iload_n 1, 1) := by decide +kernel
theorem dX8_worth_12 : decode cX8_worth 12 = .ok (.iconst 1, 1) := by decide +kernel
theorem dX8_worth_13 : decode cX8_worth 13 = .ok (.aload_n 0, 1) := by decide +kernel
theorem dX8_worth_14 : decode cX8_worth 14 = .ok (.getfield 19, 3) := by decide +kernel
theorem dX8_worth_17 : decode cX8_worth 17 = .ok (.getfield 278, 3) := by decide +kernel
theorem dX8_worth_20 : decode cX8_worth 20 = .ok (.ishl, 1) := by decide +kernel
theorem dX8_worth_21 : decode cX8_worth 21 = .ok (.if_icmp .lt 6, 3) := by decide +kernel
theorem dX8_worth_24 : decode cX8_worth 24 = .ok (.bipush (-2), 2) := by decide +kernel
theorem dX8_worth_26 : decode cX8_worth 26 = .ok (.ireturn, 1) := by decide +kernel
theorem dX8_worth_27 : decode cX8_worth 27 = .ok (.aload_n 0, 1) := by decide +kernel
theorem dX8_worth_28 : decode cX8_worth 28 = .ok (.iload_n 1, 1) := by decide +kernel
theorem dX8_worth_29 : decode cX8_worth 29 = .ok (.invokevirtual 281, 3) := by decide +kernel
theorem dX8_worth_32 : decode cX8_worth 32 = .ok (.ireturn, 1) := by decide +kernel
theorem dX8_write_0 : decode cX8_write 0 = .ok (.iload_n 1, 1) := by decide +kernel
theorem dX8_write_1 : decode cX8_write 1 = .ok (.invokestatic 382, 3) := by decide +kernel
theorem dX8_write_4 : decode cX8_write 4 = .ok (.ifCond .ne 6, 3) := by decide +kernel
theorem dX8_write_7 : decode cX8_write 7 = .ok (.bipush (-2), 2) := by decide +kernel
theorem dX8_write_9 : decode cX8_write 9 = .ok (.ireturn, 1) := by decide +kernel
theorem dX8_write_10 : decode cX8_write 10 = .ok (.aload_n 0, 1) := by decide +kernel
theorem dX8_write_11 : decode cX8_write 11 = .ok (.getfield 32, 3) := by decide +kernel
theorem dX8_write_14 : decode cX8_write 14 = .ok (.iload_n 1, 1) := by decide +kernel
theorem dX8_write_15 : decode cX8_write 15 = .ok (.aaload, 1) := by decide +kernel
theorem dX8_write_16 : decode cX8_write 16 = .ok (.astore 5, 2) := by decide +kernel
theorem dX8_write_18 : decode cX8_write 18 = .ok (.aload 5, 2) := by decide +kernel
theorem dX8_write_20 : decode cX8_write 20 = .ok (.getfield 389, 3) := by decide +kernel
theorem dX8_write_23 : decode cX8_write 23 = .ok (.ifCond .ne 6, 3) := by decide +kernel
theorem dX8_write_26 : decode cX8_write 26 = .ok (.bipush (-6), 2) := by decide +kernel
theorem dX8_write_28 : decode cX8_write 28 = .ok (.ireturn, 1) := by decide +kernel
theorem dX8_write_29 : decode cX8_write 29 = .ok (.iload_n 2, 1) := by decide +kernel
theorem dX8_write_30 : decode cX8_write 30 = .ok (.ifCond .lt 12, 3) := by decide +kernel
theorem dX8_write_33 : decode cX8_write 33 = .ok (.iload_n 2, 1) := by decide +kernel
theorem dX8_write_34 : decode cX8_write 34 = .ok (.aload 5, 2) := by decide +kernel
theorem dX8_write_36 : decode cX8_write 36 = .ok (.getfield 392, 3) := by decide +kernel
theorem dX8_write_39 : decode cX8_write 39 = .ok (.if_icmp .lt 6, 3) := by decide +kernel
theorem dX8_write_42 : decode cX8_write 42 = .ok (.bipush (-7), 2) := by decide +kernel
theorem dX8_write_44 : decode cX8_write 44 = .ok (.ireturn, 1) := by decide +kernel
theorem dX8_write_45 : decode cX8_write 45 = .ok (.aload 5, 2) := by decide +kernel
theorem dX8_write_47 : decode cX8_write 47 = .ok (.getfield 393, 3) := by decide +kernel
theorem dX8_write_50 : decode cX8_write 50 = .ok (.iload_n 2, 1) := by decide +kernel
theorem dX8_write_51 : decode cX8_write 51 = .ok (.lload_n 3, 1) := by decide +kernel
theorem dX8_write_52 : decode cX8_write 52 = .ok (.aload 5, 2) := by decide +kernel
theorem dX8_write_54 : decode cX8_write 54 = .ok (.getfield 397, 3) := by decide +kernel
theorem dX8_write_57 : decode cX8_write 57 = .ok (.invokestatic 400, 3) := by decide +kernel
theorem dX8_write_60 : decode cX8_write 60 = .ok (.lastore, 1) := by decide +kernel
theorem dX8_write_61 : decode cX8_write 61 = .ok (.iconst 0, 1) := by decide +kernel
theorem dX8_write_62 : decode cX8_write 62 = .ok (.ireturn, 1) := by decide +kernel
end
section
theorem dX9_above_0 : decode cX9_above 0 = .ok (.aload_n 0, 1) := by decide +kernel
theorem dX9_above_1 : decode cX9_above 1 = .ok (.invokevirtual 265, 3) := by decide +kernel
theorem dX9_above_4 : decode cX9_above 4 = .ok (.pop, 1) := by decide +kernel
theorem dX9_above_5 : decode cX9_above 5 = .ok (.aload_n 0, 1) := by decide +kernel
theorem dX9_above_6 : decode cX9_above 6 = .ok (.iload_n 1, 1) := by decide +kernel
theorem dX9_above_7 : decode cX9_above 7 = .ok (.i2l, 1) := by decide +kernel
theorem dX9_above_8 : decode cX9_above 8 = .ok (.invokevirtual 268, 3) := by decide +kernel
theorem dX9_above_11 : decode cX9_above 11 = .ok (.ifCond .eq 12, 3) := by decide +kernel
theorem dX9_above_14 : decode cX9_above 14 = .ok (.aload_n 0, 1) := by decide +kernel
theorem dX9_above_15 : decode cX9_above 15 = .ok (.iload_n 2, 1) := by decide +kernel
theorem dX9_above_16 : decode cX9_above 16 = .ok (.i2l, 1) := by decide +kernel
theorem dX9_above_17 : decode cX9_above 17 = .ok (.invokevirtual 268, 3) := by decide +kernel
theorem dX9_above_20 : decode cX9_above 20 = .ok (.ifCond .ne 6, 3) := by decide +kernel
theorem dX9_above_23 : decode cX9_above 23 = .ok (.bipush (-2), 2) := by decide +kernel
theorem dX9_above_25 : decode cX9_above 25 = .ok (.ireturn, 1) := by decide +kernel
theorem dX9_above_26 : decode cX9_above 26 = .ok (.aload_n 0, 1) := by decide +kernel
theorem dX9_above_27 : decode cX9_above 27 = .ok (.iload_n 1, 1) := by decide +kernel
theorem dX9_above_28 : decode cX9_above 28 = .ok (.invokevirtual 275, 3) := by decide +kernel
theorem dX9_above_31 : decode cX9_above 31 = .ok (.aload_n 0, 1) := by decide +kernel
theorem dX9_above_32 : decode cX9_above 32 = .ok (.iload_n 2, 1) := by decide +kernel
theorem dX9_above_33 : decode cX9_above 33 = .ok (.invokevirtual 275, 3) := by decide +kernel
theorem dX9_above_36 : decode cX9_above 36 = .ok (.if_icmp .eq 5, 3) := by decide +kernel
theorem dX9_above_39 : decode cX9_above 39 = .ok (.iconst (-1), 1) := by decide +kernel
theorem dX9_above_40 : decode cX9_above 40 = .ok (.ireturn, 1) := by decide +kernel
theorem dX9_above_41 : decode cX9_above 41 = .ok (.aload_n 0, 1) := by decide +kernel
theorem dX9_above_42 : decode cX9_above 42 = .ok (.iload_n 1, 1) := by decide +kernel
theorem dX9_above_43 : decode cX9_above 43 = .ok (.iload_n 2, 1) := by decide +kernel
theorem dX9_above_44 : decode cX9_above 44 = .ok (.invokevirtual 289, 3) := by decide +kernel
theorem dX9_above_47 : decode cX9_above 47 = .ok (.ifCond .eq 5, 3) := by decide +kernel
theorem dX9_above_50 : decode cX9_above 50 = .ok (.iconst 0, 1) := by decide +kernel
theorem dX9_above_51 : decode cX9_above 51 = .ok (.ireturn, 1) := by decide +kernel
theorem dX9_above_52 : decode cX9_above 52 = .ok (.aload_n 0, 1) := by decide +kernel
theorem dX9_above_53 : decode cX9_above 53 = .ok (.iload_n 1, 1) := by decide +kernel
theorem dX9_above_54 : decode cX9_above 54 = .ok (.iload_n 2, 1) := by decide +kernel
theorem dX9_above_55 : decode cX9_above 55 = .ok (.invokevirtual 302, 3) := by decide +kernel
theorem dX9_above_58 : decode cX9_above 58 = .ok (.ifCond .eq 7, 3) := by decide +kernel
theorem dX9_above_61 : decode cX9_above 61 = .ok (.iconst 1, 1) := by decide +kernel
theorem dX9_above_62 : decode cX9_above 62 = .ok (.goto 17, 3) := by decide +kernel
theorem dX9_above_65 : decode cX9_above 65 = .ok (.aload_n 0, 1) := by decide +kernel
theorem dX9_above_66 : decode cX9_above 66 = .ok (.iload_n 2, 1) := by decide +kernel
theorem dX9_above_67 : decode cX9_above 67 = .ok (.iload_n 1, 1) := by decide +kernel
theorem dX9_above_68 : decode cX9_above 68 = .ok (.invokevirtual 302, 3) := by decide +kernel
theorem dX9_above_71 : decode cX9_above 71 = .ok (.ifCond .eq 7, 3) := by decide +kernel
theorem dX9_above_74 : decode cX9_above 74 = .ok (.iconst 2, 1) := by decide +kernel
theorem dX9_above_75 : decode cX9_above 75 = .ok (.goto 4, 3) := by decide +kernel
theorem dX9_above_78 : decode cX9_above 78 = .ok (.iconst 3, 1) := by decide +kernel
theorem dX9_above_79 : decode cX9_above 79 = .ok (.ireturn, 1) := by decide +kernel
theorem dX9_advance_0 : decode cX9_advance 0 = .ok (.aload_n 0, 1) := by decide +kernel
theorem dX9_advance_1 : decode cX9_advance 1 = .ok (.aload_n 0, 1) := by decide +kernel
theorem dX9_advance_2 : decode cX9_advance 2 = .ok (.getfield 106, 3) := by decide +kernel
theorem dX9_advance_5 : decode cX9_advance 5 = .ok (.invokevirtual 109, 3) := by decide +kernel
theorem dX9_advance_8 : decode cX9_advance 8 = .ok (.bipush 32, 2) := by decide +kernel
theorem dX9_advance_10 : decode cX9_advance 10 = .ok (.if_icmp .eq 16, 3) := by decide +kernel
theorem dX9_advance_13 : decode cX9_advance 13 = .ok (.aload_n 0, 1) := by decide +kernel
theorem dX9_advance_14 : decode cX9_advance 14 = .ok (.aload_n 0, 1) := by decide +kernel
theorem dX9_advance_15 : decode cX9_advance 15 = .ok (.getfield 106, 3) := by decide +kernel
theorem dX9_advance_18 : decode cX9_advance 18 = .ok (.invokevirtual 109, 3) := by decide +kernel
theorem dX9_advance_21 : decode cX9_advance 21 = .ok (.bipush 10, 2) := by decide +kernel
theorem dX9_advance_23 : decode cX9_advance 23 = .ok (.if_icmp .ne 16, 3) := by decide +kernel
theorem dX9_advance_26 : decode cX9_advance 26 = .ok (.aload_n 0, 1) := by decide +kernel
theorem dX9_advance_27 : decode cX9_advance 27 = .ok (.dup, 1) := by decide +kernel
theorem dX9_advance_28 : decode cX9_advance 28 = .ok (.getfield 106, 3) := by decide +kernel
theorem dX9_advance_31 : decode cX9_advance 31 = .ok (.iconst 1, 1) := by decide +kernel
theorem dX9_advance_32 : decode cX9_advance 32 = .ok (.iadd, 1) := by decide +kernel
theorem dX9_advance_33 : decode cX9_advance 33 = .ok (.putfield 106, 3) := by decide +kernel
theorem dX9_advance_36 : decode cX9_advance 36 = .ok (.goto (-36), 3) := by decide +kernel
theorem dX9_advance_39 : decode cX9_advance 39 = .ok (.aload_n 0, 1) := by decide +kernel
theorem dX9_advance_40 : decode cX9_advance 40 = .ok (.aload_n 0, 1) := by decide +kernel
theorem dX9_advance_41 : decode cX9_advance 41 = .ok (.getfield 106, 3) := by decide +kernel
theorem dX9_advance_44 : decode cX9_advance 44 = .ok (.putfield 113, 3) := by decide +kernel
theorem dX9_advance_47 : decode cX9_advance 47 = .ok (.aload_n 0, 1) := by decide +kernel
theorem dX9_advance_48 : decode cX9_advance 48 = .ok (.aload_n 0, 1) := by decide +kernel
theorem dX9_advance_49 : decode cX9_advance 49 = .ok (.getfield 106, 3) := by decide +kernel
theorem dX9_advance_52 : decode cX9_advance 52 = .ok (.invokevirtual 109, 3) := by decide +kernel
theorem dX9_advance_55 : decode cX9_advance 55 = .ok (.istore_n 1, 1) := by decide +kernel
theorem dX9_advance_56 : decode cX9_advance 56 = .ok (.iload_n 1, 1) := by decide +kernel
theorem dX9_advance_57 : decode cX9_advance 57 = .ok (.iconst (-1), 1) := by decide +kernel
theorem dX9_advance_58 : decode cX9_advance 58 = .ok (.if_icmp .ne 11, 3) := by decide +kernel
theorem dX9_advance_61 : decode cX9_advance 61 = .ok (.aload_n 0, 1) := by decide +kernel
theorem dX9_advance_62 : decode cX9_advance 62 = .ok (.iconst 0, 1) := by decide +kernel
theorem dX9_advance_63 : decode cX9_advance 63 = .ok (.putfield 116, 3) := by decide +kernel
theorem dX9_advance_66 : decode cX9_advance 66 = .ok (.goto 173, 3) := by decide +kernel
theorem dX9_advance_69 : decode cX9_advance 69 = .ok (.iload_n 1, 1) := by decide +kernel
theorem dX9_advance_70 : decode cX9_advance 70 = .ok (.i2l, 1) := by decide +kernel
theorem dX9_advance_71 : decode cX9_advance 71 = .ok (.ldc2_w 119, 3) := by decide +kernel
theorem dX9_advance_74 : decode cX9_advance 74 = .ok (.ldc2_w 121, 3) := by decide +kernel
theorem dX9_advance_77 : decode cX9_advance 77 = .ok (.invokestatic 85, 3) := by decide +kernel
theorem dX9_advance_80 : decode cX9_advance 80 = .ok (.ifCond .eq 45, 3) := by decide +kernel
theorem dX9_advance_83 : decode cX9_advance 83 = .ok (.aload_n 0, 1) := by decide +kernel
theorem dX9_advance_84 : decode cX9_advance 84 = .ok (.aload_n 0, 1) := by decide +kernel
theorem dX9_advance_85 : decode cX9_advance 85 = .ok (.getfield 106, 3) := by decide +kernel
theorem dX9_advance_88 : decode cX9_advance 88 = .ok (.invokevirtual 109, 3) := by decide +kernel
theorem dX9_advance_91 : decode cX9_advance 91 = .ok (.i2l, 1) := by decide +kernel
theorem dX9_advance_92 : decode cX9_advance 92 = .ok (.ldc2_w 119, 3) := by decide +kernel
theorem dX9_advance_95 : decode cX9_advance 95 = .ok (.ldc2_w 121, 3) := by decide +kernel
theorem dX9_advance_98 : decode cX9_advance 98 = .ok (.invokestatic 85, 3) := by decide +kernel
theorem dX9_advance_101 : decode cX9_advance 101 = .ok (.ifCond .eq 16, 3) := by decide +kernel
theorem dX9_advance_104 : decode cX9_advance 104 = .ok (.aload_n 0, 1) := by decide +kernel
theorem dX9_advance_105 : decode cX9_advance 105 = .ok (.dup, 1) := by decide +kernel
theorem dX9_advance_106 : decode cX9_advance 106 = .ok (.getfield 106, 3) := by decide +kernel
theorem dX9_advance_109 : decode cX9_advance 109 = .ok (.iconst 1, 1) := by decide +kernel
theorem dX9_advance_110 : decode cX9_advance 110 = .ok (.iadd, 1) := by decide +kernel
theorem dX9_advance_111 : decode cX9_advance 111 = .ok (.putfield 106, 3) := by decide +kernel
theorem dX9_advance_114 : decode cX9_advance 114 = .ok (.goto (-31), 3) := by decide +kernel
theorem dX9_advance_117 : decode cX9_advance 117 = .ok (.aload_n 0, 1) := by decide +kernel
theorem dX9_advance_118 : decode cX9_advance 118 = .ok (.iconst 1, 1) := by decide +kernel
theorem dX9_advance_119 : decode cX9_advance 119 = .ok (.putfield 116, 3) := by decide +kernel
theorem dX9_advance_122 : decode cX9_advance 122 = .ok (.goto 117, 3) := by decide +kernel
theorem dX9_advance_125 : decode cX9_advance 125 = .ok (.iload_n 1, 1) := by decide +kernel
theorem dX9_advance_126 : decode cX9_advance 126 = .ok (.i2l, 1) := by decide +kernel
theorem dX9_advance_127 : decode cX9_advance 127 = .ok (.ldc2_w 123, 3) := by decide +kernel
theorem dX9_advance_130 : decode cX9_advance 130 = .ok (.ldc2_w 125, 3) := by decide +kernel
theorem dX9_advance_133 : decode cX9_advance 133 = .ok (.invokestatic 85, 3) := by decide +kernel
theorem dX9_advance_136 : decode cX9_advance 136 = .ok (.ifCond .eq 78, 3) := by decide +kernel
theorem dX9_advance_139 : decode cX9_advance 139 = .ok (.aload_n 0, 1) := by decide +kernel
theorem dX9_advance_140 : decode cX9_advance 140 = .ok (.iconst 0, 1) := by decide +kernel
theorem dX9_advance_141 : decode cX9_advance 141 = .ok (.putfield 127, 3) := by decide +kernel
theorem dX9_advance_144 : decode cX9_advance 144 = .ok (.aload_n 0, 1) := by decide +kernel
theorem dX9_advance_145 : decode cX9_advance 145 = .ok (.aload_n 0, 1) := by decide +kernel
theorem dX9_advance_146 : decode cX9_advance 146 = .ok (.getfield 106, 3) := by decide +kernel
theorem dX9_advance_149 : decode cX9_advance 149 = .ok (.invokevirtual 109, 3) := by decide +kernel
theorem dX9_advance_152 : decode cX9_advance 152 = .ok (.i2l, 1) := by decide +kernel
theorem dX9_advance_153 : decode cX9_advance 153 = .ok (.ldc2_w 123, 3) := by decide +kernel
theorem dX9_advance_156 : decode cX9_advance 156 = .ok (.ldc2_w 125, 3) := by decide +kernel
theorem dX9_advance_159 : decode cX9_advance 159 = .ok (.invokestatic 85, 3) := by decide +kernel
theorem dX9_advance_162 : decode cX9_advance 162 = .ok (.ifCond .eq 44, 3) := by decide +kernel
theorem dX9_advance_165 : decode cX9_advance 165 = .ok (.aload_n 0, 1) := by decide +kernel
theorem dX9_advance_166 : decode cX9_advance 166 = .ok (.ldc 130, 2) := by decide +kernel
theorem dX9_advance_168 : decode cX9_advance 168 = .ok (.bipush 10, 2) := by decide +kernel
theorem dX9_advance_170 : decode cX9_advance 170 = .ok (.aload_n 0, 1) := by decide +kernel
theorem dX9_advance_171 : decode cX9_advance 171 = .ok (.getfield 127, 3) := by decide +kernel
theorem dX9_advance_174 : decode cX9_advance 174 = .ok (.imul, 1) := by decide +kernel
theorem dX9_advance_175 : decode cX9_advance 175 = .ok (.aload_n 0, 1) := by decide +kernel
theorem dX9_advance_176 : decode cX9_advance 176 = .ok (.aload_n 0, 1) := by decide +kernel
theorem dX9_advance_177 : decode cX9_advance 177 = .ok (.getfield 106, 3) := by decide +kernel
theorem dX9_advance_180 : decode cX9_advance 180 = .ok (.invokevirtual 109, 3) := by decide +kernel
theorem dX9_advance_183 : decode cX9_advance 183 = .ok (.iadd, 1) := by decide +kernel
theorem dX9_advance_184 : decode cX9_advance 184 = .ok (.bipush 48, 2) := by decide +kernel
theorem dX9_advance_186 : decode cX9_advance 186 = .ok (.isub, 1) := by decide +kernel
theorem dX9_advance_187 : decode cX9_advance 187 = .ok (.invokestatic 131, 3) := by decide +kernel
theorem dX9_advance_190 : decode cX9_advance 190 = .ok (.putfield 127, 3) := by decide +kernel
theorem dX9_advance_193 : decode cX9_advance 193 = .ok (.aload_n 0, 1) := by decide +kernel
theorem dX9_advance_194 : decode cX9_advance 194 = .ok (.dup, 1) := by decide +kernel
theorem dX9_advance_195 : decode cX9_advance 195 = .ok (.getfield 106, 3) := by decide +kernel
theorem dX9_advance_198 : decode cX9_advance 198 = .ok (.iconst 1, 1) := by decide +kernel
theorem dX9_advance_199 : decode cX9_advance 199 = .ok (.iadd, 1) := by decide +kernel
theorem dX9_advance_200 : decode cX9_advance 200 = .ok (.putfield 106, 3) := by decide +kernel
theorem dX9_advance_203 : decode cX9_advance 203 = .ok (.goto (-59), 3) := by decide +kernel
theorem dX9_advance_206 : decode cX9_advance 206 = .ok (.aload_n 0, 1) := by decide +kernel
theorem dX9_advance_207 : decode cX9_advance 207 = .ok (.iconst 2, 1) := by decide +kernel
theorem dX9_advance_208 : decode cX9_advance 208 = .ok (.putfield 116, 3) := by decide +kernel
theorem dX9_advance_211 : decode cX9_advance 211 = .ok (.goto 28, 3) := by decide +kernel
theorem dX9_advance_214 : decode cX9_advance 214 = .ok (.aload_n 0, 1) := by decide +kernel
theorem dX9_advance_215 : decode cX9_advance 215 = .ok (.iload_n 1, 1) := by decide +kernel
theorem dX9_advance_216 : decode cX9_advance 216 = .ok (.bipush 59, 2) := by decide +kernel
theorem dX9_advance_218 : decode cX9_advance 218 = .ok (.if_icmp .ne 7, 3) := by decide +kernel
theorem dX9_advance_221 : decode cX9_advance 221 = .ok (.iconst 3, 1) := by decide +kernel
theorem dX9_advance_222 : decode cX9_advance 222 = .ok (.goto 4, 3) := by decide +kernel
theorem dX9_advance_225 : decode cX9_advance 225 = .ok (.iconst 4, 1) := by decide +kernel
theorem dX9_advance_226 : decode cX9_advance 226 = .ok (.putfield 116, 3) := by decide +kernel
theorem dX9_advance_229 : decode cX9_advance 229 = .ok (.aload_n 0, 1) := by decide +kernel
theorem dX9_advance_230 : decode cX9_advance 230 = .ok (.dup, 1) := by decide +kernel
theorem dX9_advance_231 : decode cX9_advance 231 = .ok (.getfield 106, 3) := by decide +kernel
theorem dX9_advance_234 : decode cX9_advance 234 = .ok (.iconst 1, 1) := by decide +kernel
theorem dX9_advance_235 : decode cX9_advance 235 = .ok (.iadd, 1) := by decide +kernel
theorem dX9_advance_236 : decode cX9_advance 236 = .ok (.putfield 106, 3) := by decide +kernel
theorem dX9_advance_239 : decode cX9_advance 239 = .ok (.return_, 1) := by decide +kernel
theorem dX9_ahead_0 : decode cX9_ahead 0 = .ok (.aload_n 0, 1) := by decide +kernel
theorem dX9_ahead_1 : decode cX9_ahead 1 = .ok (.iload_n 1, 1) := by decide +kernel
theorem dX9_ahead_2 : decode cX9_ahead 2 = .ok (.invokevirtual 358, 3) := by decide +kernel
theorem dX9_ahead_5 : decode cX9_ahead 5 = .ok (.istore_n 2, 1) := by decide +kernel
theorem dX9_ahead_6 : decode cX9_ahead 6 = .ok (.iload_n 2, 1) := by decide +kernel
theorem dX9_ahead_7 : decode cX9_ahead 7 = .ok (.ifCond .ge 7, 3) := by decide +kernel
theorem dX9_ahead_10 : decode cX9_ahead 10 = .ok (.iload_n 2, 1) := by decide +kernel
theorem dX9_ahead_11 : decode cX9_ahead 11 = .ok (.goto 11, 3) := by decide +kernel
theorem dX9_ahead_14 : decode cX9_ahead 14 = .ok (.aload_n 0, 1) := by decide +kernel
theorem dX9_ahead_15 : decode cX9_ahead 15 = .ok (.aload_n 0, 1) := by decide +kernel
theorem dX9_ahead_16 : decode cX9_ahead 16 = .ok (.getfield 355, 3) := by decide +kernel
theorem dX9_ahead_19 : decode cX9_ahead 19 = .ok (.invokevirtual 345, 3) := by decide +kernel
theorem dX9_ahead_22 : decode cX9_ahead 22 = .ok (.ireturn, 1) := by decide +kernel
theorem dX9_all_0 : decode cX9_all 0 = .ok (.aload_n 0, 1) := by decide +kernel
theorem dX9_all_1 : decode cX9_all 1 = .ok (.iload_n 1, 1) := by decide +kernel
theorem dX9_all_2 : decode cX9_all 2 = .ok (.invokevirtual 272, 3) := by decide +kernel
theorem dX9_all_5 : decode cX9_all 5 = .ok (.ifCond .eq 11, 3) := by decide +kernel
theorem dX9_all_8 : decode cX9_all 8 = .ok (.aload_n 0, 1) := by decide +kernel
theorem dX9_all_9 : decode cX9_all 9 = .ok (.iload_n 1, 1) := by decide +kernel
theorem dX9_all_10 : decode cX9_all 10 = .ok (.invokevirtual 275, 3) := by decide +kernel
theorem dX9_all_13 : decode cX9_all 13 = .ok (.goto 5, 3) := by decide +kernel
theorem dX9_all_16 : decode cX9_all 16 = .ok (.bipush (-2), 2) := by decide +kernel
theorem dX9_all_18 : decode cX9_all 18 = .ok (.ireturn, 1) := by decide +kernel
theorem dX9_anew_0 : decode cX9_anew 0 = .ok (.aload_n 0, 1) := by decide +kernel
theorem dX9_anew_1 : decode cX9_anew 1 = .ok (.invokevirtual 89, 3) := by decide +kernel
theorem dX9_anew_4 : decode cX9_anew 4 = .ok (.ifCond .ne 6, 3) := by decide +kernel
theorem dX9_anew_7 : decode cX9_anew 7 = .ok (.bipush (-2), 2) := by decide +kernel
theorem dX9_anew_9 : decode cX9_anew 9 = .ok (.ireturn, 1) := by decide +kernel
theorem dX9_anew_10 : decode cX9_anew 10 = .ok (.aload_n 0, 1) := by decide +kernel
theorem dX9_anew_11 : decode cX9_anew 11 = .ok (.getfield 9, 3) := by decide +kernel
theorem dX9_anew_14 : decode cX9_anew 14 = .ok (.iconst 5, 1) := by decide +kernel
theorem dX9_anew_15 : decode cX9_anew 15 = .ok (.iaload, 1) := by decide +kernel
theorem dX9_anew_16 : decode cX9_anew 16 = .ok (.istore_n 1, 1) := by decide +kernel
theorem dX9_anew_17 : decode cX9_anew 17 = .ok (.aload_n 0, 1) := by decide +kernel
theorem dX9_anew_18 : decode cX9_anew 18 = .ok (.getfield 9, 3) := by decide +kernel
theorem dX9_anew_21 : decode cX9_anew 21 = .ok (.iconst 5, 1) := by decide +kernel
theorem dX9_anew_22 : decode cX9_anew 22 = .ok (.iconst 0, 1) := by decide +kernel
theorem dX9_anew_23 : decode cX9_anew 23 = .ok (.iastore, 1) := by decide +kernel
theorem dX9_anew_24 : decode cX9_anew 24 = .ok (.iload_n 1, 1) := by decide +kernel
theorem dX9_anew_25 : decode cX9_anew 25 = .ok (.ireturn, 1) := by decide +kernel
theorem dX9_areTwo_0 : decode cX9_areTwo 0 = .ok (.aload_n 0, 1) := by decide +kernel
theorem dX9_areTwo_1 : decode cX9_areTwo 1 = .ok (.iload_n 1, 1) := by decide +kernel
theorem dX9_areTwo_2 : decode cX9_areTwo 2 = .ok (.invokevirtual 204, 3) := by decide +kernel
theorem dX9_areTwo_5 : decode cX9_areTwo 5 = .ok (.ifCond .eq 20, 3) := by decide +kernel
theorem dX9_areTwo_8 : decode cX9_areTwo 8 = .ok (.aload_n 0, 1) := by decide +kernel
theorem dX9_areTwo_9 : decode cX9_areTwo 9 = .ok (.iload_n 2, 1) := by decide +kernel
theorem dX9_areTwo_10 : decode cX9_areTwo 10 = .ok (.invokevirtual 204, 3) := by decide +kernel
theorem dX9_areTwo_13 : decode cX9_areTwo 13 = .ok (.ifCond .eq 12, 3) := by decide +kernel
theorem dX9_areTwo_16 : decode cX9_areTwo 16 = .ok (.iload_n 1, 1) := by decide +kernel
theorem dX9_areTwo_17 : decode cX9_areTwo 17 = .ok (.iload_n 2, 1) := by decide +kernel
theorem dX9_areTwo_18 : decode cX9_areTwo 18 = .ok (.if_icmp .eq 7, 3) := by decide +kernel
theorem dX9_areTwo_21 : decode cX9_areTwo 21 = .ok (.iconst 1, 1) := by decide +kernel
theorem dX9_areTwo_22 : decode cX9_areTwo 22 = .ok (.goto 4, 3) := by decide +kernel
theorem dX9_areTwo_25 : decode cX9_areTwo 25 = .ok (.iconst 0, 1) := by decide +kernel
theorem dX9_areTwo_26 : decode cX9_areTwo 26 = .ok (.ireturn, 1) := by decide +kernel
theorem dX9_asItIs_0 : decode cX9_asItIs 0 = .ok (.aload_n 0, 1) := by decide +kernel
theorem dX9_asItIs_1 : decode cX9_asItIs 1 = .ok (.aload_n 0, 1) := by decide +kernel
theorem dX9_asItIs_2 : decode cX9_asItIs 2 = .ok (.getfield 9, 3) := by decide +kernel
theorem dX9_asItIs_5 : decode cX9_asItIs 5 = .ok (.iconst 1, 1) := by decide +kernel
theorem dX9_asItIs_6 : decode cX9_asItIs 6 = .ok (.iaload, 1) := by decide +kernel
theorem dX9_asItIs_7 : decode cX9_asItIs 7 = .ok (.putfield 213, 3) := by decide +kernel
theorem dX9_asItIs_10 : decode cX9_asItIs 10 = .ok (.aload_n 0, 1) := by decide +kernel
theorem dX9_asItIs_11 : decode cX9_asItIs 11 = .ok (.iconst 0, 1) := by decide +kernel
theorem dX9_asItIs_12 : decode cX9_asItIs 12 = .ok (.putfield 235, 3) := by decide +kernel
theorem dX9_asItIs_15 : decode cX9_asItIs 15 = .ok (.aload_n 0, 1) := by decide +kernel
theorem dX9_asItIs_16 : decode cX9_asItIs 16 = .ok (.bipush 63, 2) := by decide +kernel
theorem dX9_asItIs_18 : decode cX9_asItIs 18 = .ok (.putfield 238, 3) := by decide +kernel
theorem dX9_asItIs_21 : decode cX9_asItIs 21 = .ok (.aload_n 0, 1) := by decide +kernel
theorem dX9_asItIs_22 : decode cX9_asItIs 22 = .ok (.iconst (-1), 1) := by decide +kernel
theorem dX9_asItIs_23 : decode cX9_asItIs 23 = .ok (.putfield 241, 3) := by decide +kernel
theorem dX9_asItIs_26 : decode cX9_asItIs 26 = .ok (.iconst 0, 1) := by decide +kernel
theorem dX9_asItIs_27 : decode cX9_asItIs 27 = .ok (.istore_n 1, 1) := by decide +kernel
theorem dX9_asItIs_28 : decode cX9_asItIs 28 = .ok (.iload_n 1, 1) := by decide +kernel
theorem dX9_asItIs_29 : decode cX9_asItIs 29 = .ok (.bipush 8, 2) := by decide +kernel
theorem dX9_asItIs_31 : decode cX9_asItIs 31 = .ok (.if_icmp .ge 24, 3) := by decide +kernel
theorem dX9_asItIs_34 : decode cX9_asItIs 34 = .ok (.aload_n 0, 1) := by decide +kernel
theorem dX9_asItIs_35 : decode cX9_asItIs 35 = .ok (.getfield 37, 3) := by decide +kernel
theorem dX9_asItIs_38 : decode cX9_asItIs 38 = .ok (.iload_n 1, 1) := by decide +kernel
theorem dX9_asItIs_39 : decode cX9_asItIs 39 = .ok (.aload_n 0, 1) := by decide +kernel
theorem dX9_asItIs_40 : decode cX9_asItIs 40 = .ok (.getfield 9, 3) := by decide +kernel
theorem dX9_asItIs_43 : decode cX9_asItIs 43 = .ok (.bipush 7, 2) := by decide +kernel
theorem dX9_asItIs_45 : decode cX9_asItIs 45 = .ok (.iload_n 1, 1) := by decide +kernel
theorem dX9_asItIs_46 : decode cX9_asItIs 46 = .ok (.iadd, 1) := by decide +kernel
theorem dX9_asItIs_47 : decode cX9_asItIs 47 = .ok (.iaload, 1) := by decide +kernel
theorem dX9_asItIs_48 : decode cX9_asItIs 48 = .ok (.iastore, 1) := by decide +kernel
theorem dX9_asItIs_49 : decode cX9_asItIs 49 = .ok (.iinc 1 1, 3) := by decide +kernel
theorem dX9_asItIs_52 : decode cX9_asItIs 52 = .ok (.goto (-24), 3) := by decide +kernel
theorem dX9_asItIs_55 : decode cX9_asItIs 55 = .ok (.iconst 0, 1) := by decide +kernel
theorem dX9_asItIs_56 : decode cX9_asItIs 56 = .ok (.istore_n 1, 1) := by decide +kernel
theorem dX9_asItIs_57 : decode cX9_asItIs 57 = .ok (.iload_n 1, 1) := by decide +kernel
theorem dX9_asItIs_58 : decode cX9_asItIs 58 = .ok (.bipush 6, 2) := by decide +kernel
theorem dX9_asItIs_60 : decode cX9_asItIs 60 = .ok (.if_icmp .ge 28, 3) := by decide +kernel
theorem dX9_asItIs_63 : decode cX9_asItIs 63 = .ok (.aload_n 0, 1) := by decide +kernel
theorem dX9_asItIs_64 : decode cX9_asItIs 64 = .ok (.getfield 40, 3) := by decide +kernel
theorem dX9_asItIs_67 : decode cX9_asItIs 67 = .ok (.iload_n 1, 1) := by decide +kernel
theorem dX9_asItIs_68 : decode cX9_asItIs 68 = .ok (.aload_n 0, 1) := by decide +kernel
theorem dX9_asItIs_69 : decode cX9_asItIs 69 = .ok (.getfield 9, 3) := by decide +kernel
theorem dX9_asItIs_72 : decode cX9_asItIs 72 = .ok (.bipush 15, 2) := by decide +kernel
theorem dX9_asItIs_74 : decode cX9_asItIs 74 = .ok (.iconst 2, 1) := by decide +kernel
theorem dX9_asItIs_75 : decode cX9_asItIs 75 = .ok (.iload_n 1, 1) := by decide +kernel
theorem dX9_asItIs_76 : decode cX9_asItIs 76 = .ok (.imul, 1) := by decide +kernel
theorem dX9_asItIs_77 : decode cX9_asItIs 77 = .ok (.iadd, 1) := by decide +kernel
theorem dX9_asItIs_78 : decode cX9_asItIs 78 = .ok (.iconst 1, 1) := by decide +kernel
theorem dX9_asItIs_79 : decode cX9_asItIs 79 = .ok (.iadd, 1) := by decide +kernel
theorem dX9_asItIs_80 : decode cX9_asItIs 80 = .ok (.iaload, 1) := by decide +kernel
theorem dX9_asItIs_81 : decode cX9_asItIs 81 = .ok (.iastore, 1) := by decide +kernel
theorem dX9_asItIs_82 : decode cX9_asItIs 82 = .ok (.iinc 1 1, 3) := by decide +kernel
theorem dX9_asItIs_85 : decode cX9_asItIs 85 = .ok (.goto (-28), 3) := by decide +kernel
theorem dX9_asItIs_88 : decode cX9_asItIs 88 = .ok (.return_, 1) := by decide +kernel
theorem dX9_ask_0 : decode cX9_ask 0 = .ok (.aload_n 0, 1) := by decide +kernel
theorem dX9_ask_1 : decode cX9_ask 1 = .ok (.iload_n 1, 1) := by decide +kernel
theorem dX9_ask_2 : decode cX9_ask 2 = .ok (.iload_n 2, 1) := by decide +kernel
theorem dX9_ask_3 : decode cX9_ask 3 = .ok (.invokevirtual 378, 3) := by decide +kernel
theorem dX9_ask_6 : decode cX9_ask 6 = .ok (.istore_n 3, 1) := by decide +kernel
theorem dX9_ask_7 : decode cX9_ask 7 = .ok (.iload_n 3, 1) := by decide +kernel
theorem dX9_ask_8 : decode cX9_ask 8 = .ok (.ifCond .ge 7, 3) := by decide +kernel
theorem dX9_ask_11 : decode cX9_ask 11 = .ok (.iload_n 3, 1) := by decide +kernel
theorem dX9_ask_12 : decode cX9_ask 12 = .ok (.goto 7, 3) := by decide +kernel
theorem dX9_ask_15 : decode cX9_ask 15 = .ok (.aload_n 0, 1) := by decide +kernel
theorem dX9_ask_16 : decode cX9_ask 16 = .ok (.invokevirtual 387, 3) := by decide +kernel
theorem dX9_ask_19 : decode cX9_ask 19 = .ok (.ireturn, 1) := by decide +kernel
theorem dX9_askRow_0 : decode cX9_askRow 0 = .ok (.iload_n 1, 1) := by decide +kernel
theorem dX9_askRow_1 : decode cX9_askRow 1 = .ok (.invokestatic 348, 3) := by decide +kernel
theorem dX9_askRow_4 : decode cX9_askRow 4 = .ok (.ifCond .eq 10, 3) := by decide +kernel
theorem dX9_askRow_7 : decode cX9_askRow 7 = .ok (.aload_n 0, 1) := by decide +kernel
theorem dX9_askRow_8 : decode cX9_askRow 8 = .ok (.invokevirtual 89, 3) := by decide +kernel
theorem dX9_askRow_11 : decode cX9_askRow 11 = .ok (.ifCond .ne 6, 3) := by decide +kernel
theorem dX9_askRow_14 : decode cX9_askRow 14 = .ok (.bipush (-2), 2) := by decide +kernel
theorem dX9_askRow_16 : decode cX9_askRow 16 = .ok (.ireturn, 1) := by decide +kernel
theorem dX9_askRow_17 : decode cX9_askRow 17 = .ok (.aload_n 0, 1) := by decide +kernel
theorem dX9_askRow_18 : decode cX9_askRow 18 = .ok (.getfield 67, 3) := by decide +kernel
theorem dX9_askRow_21 : decode cX9_askRow 21 = .ok (.iload_n 1, 1) := by decide +kernel
theorem dX9_askRow_22 : decode cX9_askRow 22 = .ok (.iaload, 1) := by decide +kernel
theorem dX9_askRow_23 : decode cX9_askRow 23 = .ok (.iconst (-1), 1) := by decide +kernel
theorem dX9_askRow_24 : decode cX9_askRow 24 = .ok (.if_icmp .ne 6, 3) := by decide +kernel
theorem dX9_askRow_27 : decode cX9_askRow 27 = .ok (.bipush (-6), 2) := by decide +kernel
theorem dX9_askRow_29 : decode cX9_askRow 29 = .ok (.ireturn, 1) := by decide +kernel
theorem dX9_askRow_30 : decode cX9_askRow 30 = .ok (.lconst 0, 1) := by decide +kernel
theorem dX9_askRow_31 : decode cX9_askRow 31 = .ok (.lstore_n 2, 1) := by decide +kernel
theorem dX9_askRow_32 : decode cX9_askRow 32 = .ok (.aload_n 0, 1) := by decide +kernel
theorem dX9_askRow_33 : decode cX9_askRow 33 = .ok (.getfield 67, 3) := by decide +kernel
theorem dX9_askRow_36 : decode cX9_askRow 36 = .ok (.iload_n 1, 1) := by decide +kernel
theorem dX9_askRow_37 : decode cX9_askRow 37 = .ok (.iaload, 1) := by decide +kernel
theorem dX9_askRow_38 : decode cX9_askRow 38 = .ok (.ifCond .le 7, 3) := by decide +kernel
theorem dX9_askRow_41 : decode cX9_askRow 41 = .ok (.iconst 1, 1) := by decide +kernel
theorem dX9_askRow_42 : decode cX9_askRow 42 = .ok (.goto 4, 3) := by decide +kernel
theorem dX9_askRow_45 : decode cX9_askRow 45 = .ok (.iconst 0, 1) := by decide +kernel
theorem dX9_askRow_46 : decode cX9_askRow 46 = .ok (.istore 4, 2) := by decide +kernel
theorem dX9_askRow_48 : decode cX9_askRow 48 = .ok (.iconst 0, 1) := by decide +kernel
theorem dX9_askRow_49 : decode cX9_askRow 49 = .ok (.istore 5, 2) := by decide +kernel
theorem dX9_askRow_51 : decode cX9_askRow 51 = .ok (.iload 5, 2) := by decide +kernel
theorem dX9_askRow_53 : decode cX9_askRow 53 = .ok (.aload_n 0, 1) := by decide +kernel
theorem dX9_askRow_54 : decode cX9_askRow 54 = .ok (.getfield 67, 3) := by decide +kernel
theorem dX9_askRow_57 : decode cX9_askRow 57 = .ok (.iload_n 1, 1) := by decide +kernel
theorem dX9_askRow_58 : decode cX9_askRow 58 = .ok (.iaload, 1) := by decide +kernel
theorem dX9_askRow_59 : decode cX9_askRow 59 = .ok (.if_icmp .ge 49, 3) := by decide +kernel
theorem dX9_askRow_62 : decode cX9_askRow 62 = .ok (.iload 4, 2) := by decide +kernel
theorem dX9_askRow_64 : decode cX9_askRow 64 = .ok (.ifCond .eq 44, 3) := by decide +kernel
theorem dX9_askRow_67 : decode cX9_askRow 67 = .ok (.aload_n 0, 1) := by decide +kernel
theorem dX9_askRow_68 : decode cX9_askRow 68 = .ok (.iload_n 1, 1) := by decide +kernel
theorem dX9_askRow_69 : decode cX9_askRow 69 = .ok (.iload 5, 2) := by decide +kernel
theorem dX9_askRow_71 : decode cX9_askRow 71 = .ok (.invokevirtual 351, 3) := by decide +kernel
theorem dX9_askRow_74 : decode cX9_askRow 74 = .ok (.lconst 1, 1) := by decide +kernel
theorem dX9_askRow_75 : decode cX9_askRow 75 = .ok (.ldc2_w 337, 3) := by decide +kernel
theorem dX9_askRow_78 : decode cX9_askRow 78 = .ok (.invokestatic 85, 3) := by decide +kernel
theorem dX9_askRow_81 : decode cX9_askRow 81 = .ok (.istore 4, 2) := by decide +kernel
theorem dX9_askRow_83 : decode cX9_askRow 83 = .ok (.lload_n 2, 1) := by decide +kernel
theorem dX9_askRow_84 : decode cX9_askRow 84 = .ok (.iload 4, 2) := by decide +kernel
theorem dX9_askRow_86 : decode cX9_askRow 86 = .ok (.ifCond .eq 13, 3) := by decide +kernel
theorem dX9_askRow_89 : decode cX9_askRow 89 = .ok (.aload_n 0, 1) := by decide +kernel
theorem dX9_askRow_90 : decode cX9_askRow 90 = .ok (.iload_n 1, 1) := by decide +kernel
theorem dX9_askRow_91 : decode cX9_askRow 91 = .ok (.iload 5, 2) := by decide +kernel
theorem dX9_askRow_93 : decode cX9_askRow 93 = .ok (.invokevirtual 351, 3) := by decide +kernel
theorem dX9_askRow_96 : decode cX9_askRow 96 = .ok (.goto 4, 3) := by decide +kernel
theorem dX9_askRow_99 : decode cX9_askRow 99 = .ok (.lconst 0, 1) := by decide +kernel
theorem dX9_askRow_100 : decode cX9_askRow 100 = .ok (.ladd, 1) := by decide +kernel
theorem dX9_askRow_101 : decode cX9_askRow 101 = .ok (.lstore_n 2, 1) := by decide +kernel
theorem dX9_askRow_102 : decode cX9_askRow 102 = .ok (.iinc 5 1, 3) := by decide +kernel
theorem dX9_askRow_105 : decode cX9_askRow 105 = .ok (.goto (-54), 3) := by decide +kernel
theorem dX9_askRow_108 : decode cX9_askRow 108 = .ok (.iload 4, 2) := by decide +kernel
theorem dX9_askRow_110 : decode cX9_askRow 110 = .ok (.ifCond .eq 11, 3) := by decide +kernel
theorem dX9_askRow_113 : decode cX9_askRow 113 = .ok (.lload_n 2, 1) := by decide +kernel
theorem dX9_askRow_114 : decode cX9_askRow 114 = .ok (.ldc2_w 337, 3) := by decide +kernel
theorem dX9_askRow_117 : decode cX9_askRow 117 = .ok (.lcmp, 1) := by decide +kernel
theorem dX9_askRow_118 : decode cX9_askRow 118 = .ok (.ifCond .le 6, 3) := by decide +kernel
theorem dX9_askRow_121 : decode cX9_askRow 121 = .ok (.bipush (-2), 2) := by decide +kernel
theorem dX9_askRow_123 : decode cX9_askRow 123 = .ok (.ireturn, 1) := by decide +kernel
theorem dX9_askRow_124 : decode cX9_askRow 124 = .ok (.aload_n 0, 1) := by decide +kernel
theorem dX9_askRow_125 : decode cX9_askRow 125 = .ok (.lload_n 2, 1) := by decide +kernel
theorem dX9_askRow_126 : decode cX9_askRow 126 = .ok (.l2i, 1) := by decide +kernel
theorem dX9_askRow_127 : decode cX9_askRow 127 = .ok (.invokevirtual 342, 3) := by decide +kernel
theorem dX9_askRow_130 : decode cX9_askRow 130 = .ok (.pop, 1) := by decide +kernel
theorem dX9_askRow_131 : decode cX9_askRow 131 = .ok (.aload_n 0, 1) := by decide +kernel
theorem dX9_askRow_132 : decode cX9_askRow 132 = .ok (.bipush 19, 2) := by decide +kernel
theorem dX9_askRow_134 : decode cX9_askRow 134 = .ok (.invokevirtual 229, 3) := by decide +kernel
theorem dX9_askRow_137 : decode cX9_askRow 137 = .ok (.iconst 0, 1) := by decide +kernel
theorem dX9_askRow_138 : decode cX9_askRow 138 = .ok (.istore 5, 2) := by decide +kernel
theorem dX9_askRow_140 : decode cX9_askRow 140 = .ok (.iload 5, 2) := by decide +kernel
theorem dX9_askRow_142 : decode cX9_askRow 142 = .ok (.aload_n 0, 1) := by decide +kernel
theorem dX9_askRow_143 : decode cX9_askRow 143 = .ok (.getfield 67, 3) := by decide +kernel
theorem dX9_askRow_146 : decode cX9_askRow 146 = .ok (.iload_n 1, 1) := by decide +kernel
theorem dX9_askRow_147 : decode cX9_askRow 147 = .ok (.iaload, 1) := by decide +kernel
theorem dX9_askRow_148 : decode cX9_askRow 148 = .ok (.if_icmp .ge 23, 3) := by decide +kernel
theorem dX9_askRow_151 : decode cX9_askRow 151 = .ok (.aload_n 0, 1) := by decide +kernel
theorem dX9_askRow_152 : decode cX9_askRow 152 = .ok (.bipush 19, 2) := by decide +kernel
theorem dX9_askRow_154 : decode cX9_askRow 154 = .ok (.aload_n 0, 1) := by decide +kernel
theorem dX9_askRow_155 : decode cX9_askRow 155 = .ok (.iload_n 1, 1) := by decide +kernel
theorem dX9_askRow_156 : decode cX9_askRow 156 = .ok (.iload 5, 2) := by decide +kernel
theorem dX9_askRow_158 : decode cX9_askRow 158 = .ok (.invokevirtual 351, 3) := by decide +kernel
theorem dX9_askRow_161 : decode cX9_askRow 161 = .ok (.l2i, 1) := by decide +kernel
theorem dX9_askRow_162 : decode cX9_askRow 162 = .ok (.invokevirtual 232, 3) := by decide +kernel
theorem dX9_askRow_165 : decode cX9_askRow 165 = .ok (.iinc 5 1, 3) := by decide +kernel
theorem dX9_askRow_168 : decode cX9_askRow 168 = .ok (.goto (-28), 3) := by decide +kernel
theorem dX9_askRow_171 : decode cX9_askRow 171 = .ok (.aload_n 0, 1) := by decide +kernel
theorem dX9_askRow_172 : decode cX9_askRow 172 = .ok (.aload_n 0, 1) := by decide +kernel
theorem dX9_askRow_173 : decode cX9_askRow 173 = .ok (.bipush 19, 2) := by decide +kernel
theorem dX9_askRow_175 : decode cX9_askRow 175 = .ok (.invokevirtual 328, 3) := by decide +kernel
theorem dX9_askRow_178 : decode cX9_askRow 178 = .ok (.putfield 355, 3) := by decide +kernel
theorem dX9_askRow_181 : decode cX9_askRow 181 = .ok (.iconst 0, 1) := by decide +kernel
theorem dX9_askRow_182 : decode cX9_askRow 182 = .ok (.ireturn, 1) := by decide +kernel
theorem dX9_askSeen_0 : decode cX9_askSeen 0 = .ok (.iload_n 1, 1) := by decide +kernel
theorem dX9_askSeen_1 : decode cX9_askSeen 1 = .ok (.invokestatic 348, 3) := by decide +kernel
theorem dX9_askSeen_4 : decode cX9_askSeen 4 = .ok (.ifCond .eq 10, 3) := by decide +kernel
theorem dX9_askSeen_7 : decode cX9_askSeen 7 = .ok (.aload_n 0, 1) := by decide +kernel
theorem dX9_askSeen_8 : decode cX9_askSeen 8 = .ok (.invokevirtual 89, 3) := by decide +kernel
theorem dX9_askSeen_11 : decode cX9_askSeen 11 = .ok (.ifCond .ne 6, 3) := by decide +kernel
theorem dX9_askSeen_14 : decode cX9_askSeen 14 = .ok (.bipush (-2), 2) := by decide +kernel
theorem dX9_askSeen_16 : decode cX9_askSeen 16 = .ok (.ireturn, 1) := by decide +kernel
theorem dX9_askSeen_17 : decode cX9_askSeen 17 = .ok (.aload_n 0, 1) := by decide +kernel
theorem dX9_askSeen_18 : decode cX9_askSeen 18 = .ok (.getfield 67, 3) := by decide +kernel
theorem dX9_askSeen_21 : decode cX9_askSeen 21 = .ok (.iload_n 1, 1) := by decide +kernel
theorem dX9_askSeen_22 : decode cX9_askSeen 22 = .ok (.iaload, 1) := by decide +kernel
theorem dX9_askSeen_23 : decode cX9_askSeen 23 = .ok (.iconst (-1), 1) := by decide +kernel
theorem dX9_askSeen_24 : decode cX9_askSeen 24 = .ok (.if_icmp .ne 6, 3) := by decide +kernel
theorem dX9_askSeen_27 : decode cX9_askSeen 27 = .ok (.bipush (-6), 2) := by decide +kernel
theorem dX9_askSeen_29 : decode cX9_askSeen 29 = .ok (.ireturn, 1) := by decide +kernel
theorem dX9_askSeen_30 : decode cX9_askSeen 30 = .ok (.aload_n 0, 1) := by decide +kernel
theorem dX9_askSeen_31 : decode cX9_askSeen 31 = .ok (.getfield 67, 3) := by decide +kernel
theorem dX9_askSeen_34 : decode cX9_askSeen 34 = .ok (.iload_n 1, 1) := by decide +kernel
theorem dX9_askSeen_35 : decode cX9_askSeen 35 = .ok (.iaload, 1) := by decide +kernel
theorem dX9_askSeen_36 : decode cX9_askSeen 36 = .ok (.iconst 3, 1) := by decide +kernel
theorem dX9_askSeen_37 : decode cX9_askSeen 37 = .ok (.irem, 1) := by decide +kernel
theorem dX9_askSeen_38 : decode cX9_askSeen 38 = .ok (.ifCond .eq 6, 3) := by decide +kernel
theorem dX9_askSeen_41 : decode cX9_askSeen 41 = .ok (.bipush (-2), 2) := by decide +kernel
theorem dX9_askSeen_43 : decode cX9_askSeen 43 = .ok (.ireturn, 1) := by decide +kernel
theorem dX9_askSeen_44 : decode cX9_askSeen 44 = .ok (.iconst 0, 1) := by decide +kernel
theorem dX9_askSeen_45 : decode cX9_askSeen 45 = .ok (.istore_n 2, 1) := by decide +kernel
theorem dX9_askSeen_46 : decode cX9_askSeen 46 = .ok (.iload_n 2, 1) := by decide +kernel
theorem dX9_askSeen_47 : decode cX9_askSeen 47 = .ok (.aload_n 0, 1) := by decide +kernel
theorem dX9_askSeen_48 : decode cX9_askSeen 48 = .ok (.getfield 67, 3) := by decide +kernel
theorem dX9_askSeen_51 : decode cX9_askSeen 51 = .ok (.iload_n 1, 1) := by decide +kernel
theorem dX9_askSeen_52 : decode cX9_askSeen 52 = .ok (.iaload, 1) := by decide +kernel
theorem dX9_askSeen_53 : decode cX9_askSeen 53 = .ok (.if_icmp .ge 61, 3) := by decide +kernel
theorem dX9_askSeen_56 : decode cX9_askSeen 56 = .ok (.aload_n 0, 1) := by decide +kernel
theorem dX9_askSeen_57 : decode cX9_askSeen 57 = .ok (.aload_n 0, 1) := by decide +kernel
theorem dX9_askSeen_58 : decode cX9_askSeen 58 = .ok (.iload_n 1, 1) := by decide +kernel
theorem dX9_askSeen_59 : decode cX9_askSeen 59 = .ok (.iload_n 2, 1) := by decide +kernel
theorem dX9_askSeen_60 : decode cX9_askSeen 60 = .ok (.invokevirtual 351, 3) := by decide +kernel
theorem dX9_askSeen_63 : decode cX9_askSeen 63 = .ok (.invokevirtual 268, 3) := by decide +kernel
theorem dX9_askSeen_66 : decode cX9_askSeen 66 = .ok (.ifCond .eq 39, 3) := by decide +kernel
theorem dX9_askSeen_69 : decode cX9_askSeen 69 = .ok (.aload_n 0, 1) := by decide +kernel
theorem dX9_askSeen_70 : decode cX9_askSeen 70 = .ok (.iload_n 1, 1) := by decide +kernel
theorem dX9_askSeen_71 : decode cX9_askSeen 71 = .ok (.iload_n 2, 1) := by decide +kernel
theorem dX9_askSeen_72 : decode cX9_askSeen 72 = .ok (.iconst 1, 1) := by decide +kernel
theorem dX9_askSeen_73 : decode cX9_askSeen 73 = .ok (.iadd, 1) := by decide +kernel
theorem dX9_askSeen_74 : decode cX9_askSeen 74 = .ok (.invokevirtual 351, 3) := by decide +kernel
theorem dX9_askSeen_77 : decode cX9_askSeen 77 = .ok (.lconst 0, 1) := by decide +kernel
theorem dX9_askSeen_78 : decode cX9_askSeen 78 = .ok (.ldc2_w 278, 3) := by decide +kernel
theorem dX9_askSeen_81 : decode cX9_askSeen 81 = .ok (.invokestatic 85, 3) := by decide +kernel
theorem dX9_askSeen_84 : decode cX9_askSeen 84 = .ok (.ifCond .eq 21, 3) := by decide +kernel
theorem dX9_askSeen_87 : decode cX9_askSeen 87 = .ok (.aload_n 0, 1) := by decide +kernel
theorem dX9_askSeen_88 : decode cX9_askSeen 88 = .ok (.iload_n 1, 1) := by decide +kernel
theorem dX9_askSeen_89 : decode cX9_askSeen 89 = .ok (.iload_n 2, 1) := by decide +kernel
theorem dX9_askSeen_90 : decode cX9_askSeen 90 = .ok (.iconst 2, 1) := by decide +kernel
theorem dX9_askSeen_91 : decode cX9_askSeen 91 = .ok (.iadd, 1) := by decide +kernel
theorem dX9_askSeen_92 : decode cX9_askSeen 92 = .ok (.invokevirtual 351, 3) := by decide +kernel
theorem dX9_askSeen_95 : decode cX9_askSeen 95 = .ok (.lconst 0, 1) := by decide +kernel
theorem dX9_askSeen_96 : decode cX9_askSeen 96 = .ok (.ldc2_w 278, 3) := by decide +kernel
theorem dX9_askSeen_99 : decode cX9_askSeen 99 = .ok (.invokestatic 85, 3) := by decide +kernel
theorem dX9_askSeen_102 : decode cX9_askSeen 102 = .ok (.ifCond .ne 6, 3) := by decide +kernel
theorem dX9_askSeen_105 : decode cX9_askSeen 105 = .ok (.bipush (-2), 2) := by decide +kernel
theorem dX9_askSeen_107 : decode cX9_askSeen 107 = .ok (.ireturn, 1) := by decide +kernel
theorem dX9_askSeen_108 : decode cX9_askSeen 108 = .ok (.iinc 2 3, 3) := by decide +kernel
theorem dX9_askSeen_111 : decode cX9_askSeen 111 = .ok (.goto (-65), 3) := by decide +kernel
theorem dX9_askSeen_114 : decode cX9_askSeen 114 = .ok (.aload_n 0, 1) := by decide +kernel
theorem dX9_askSeen_115 : decode cX9_askSeen 115 = .ok (.invokevirtual 259, 3) := by decide +kernel
theorem dX9_askSeen_118 : decode cX9_askSeen 118 = .ok (.iconst 0, 1) := by decide +kernel
theorem dX9_askSeen_119 : decode cX9_askSeen 119 = .ok (.ireturn, 1) := by decide +kernel
theorem dX9_asksAll_0 : decode cX9_asksAll 0 = .ok (.aload_n 0, 1) := by decide +kernel
theorem dX9_asksAll_1 : decode cX9_asksAll 1 = .ok (.invokevirtual 259, 3) := by decide +kernel
theorem dX9_asksAll_4 : decode cX9_asksAll 4 = .ok (.aload_n 0, 1) := by decide +kernel
theorem dX9_asksAll_5 : decode cX9_asksAll 5 = .ok (.invokevirtual 89, 3) := by decide +kernel
theorem dX9_asksAll_8 : decode cX9_asksAll 8 = .ok (.ifCond .eq 15, 3) := by decide +kernel
theorem dX9_asksAll_11 : decode cX9_asksAll 11 = .ok (.iload_n 1, 1) := by decide +kernel
theorem dX9_asksAll_12 : decode cX9_asksAll 12 = .ok (.i2l, 1) := by decide +kernel
theorem dX9_asksAll_13 : decode cX9_asksAll 13 = .ok (.lconst 1, 1) := by decide +kernel
theorem dX9_asksAll_14 : decode cX9_asksAll 14 = .ok (.ldc2_w 337, 3) := by decide +kernel
theorem dX9_asksAll_17 : decode cX9_asksAll 17 = .ok (.invokestatic 85, 3) := by decide +kernel
theorem dX9_asksAll_20 : decode cX9_asksAll 20 = .ok (.ifCond .ne 5, 3) := by decide +kernel
theorem dX9_asksAll_23 : decode cX9_asksAll 23 = .ok (.iconst 0, 1) := by decide +kernel
theorem dX9_asksAll_24 : decode cX9_asksAll 24 = .ok (.ireturn, 1) := by decide +kernel
theorem dX9_asksAll_25 : decode cX9_asksAll 25 = .ok (.aload_n 0, 1) := by decide +kernel
theorem dX9_asksAll_26 : decode cX9_asksAll 26 = .ok (.iload_n 1, 1) := by decide +kernel
theorem dX9_asksAll_27 : decode cX9_asksAll 27 = .ok (.invokevirtual 339, 3) := by decide +kernel
theorem dX9_asksAll_30 : decode cX9_asksAll 30 = .ok (.iconst 1, 1) := by decide +kernel
theorem dX9_asksAll_31 : decode cX9_asksAll 31 = .ok (.ireturn, 1) := by decide +kernel
theorem dX9_asksDay_0 : decode cX9_asksDay 0 = .ok (.aload_n 0, 1) := by decide +kernel
theorem dX9_asksDay_1 : decode cX9_asksDay 1 = .ok (.invokevirtual 265, 3) := by decide +kernel
theorem dX9_asksDay_4 : decode cX9_asksDay 4 = .ok (.pop, 1) := by decide +kernel
theorem dX9_asksDay_5 : decode cX9_asksDay 5 = .ok (.aload_n 0, 1) := by decide +kernel
theorem dX9_asksDay_6 : decode cX9_asksDay 6 = .ok (.iload_n 1, 1) := by decide +kernel
theorem dX9_asksDay_7 : decode cX9_asksDay 7 = .ok (.i2l, 1) := by decide +kernel
theorem dX9_asksDay_8 : decode cX9_asksDay 8 = .ok (.invokevirtual 268, 3) := by decide +kernel
theorem dX9_asksDay_11 : decode cX9_asksDay 11 = .ok (.ireturn, 1) := by decide +kernel
theorem dX9_asksMoor_0 : decode cX9_asksMoor 0 = .ok (.aload_n 0, 1) := by decide +kernel
theorem dX9_asksMoor_1 : decode cX9_asksMoor 1 = .ok (.invokevirtual 259, 3) := by decide +kernel
theorem dX9_asksMoor_4 : decode cX9_asksMoor 4 = .ok (.aload_n 0, 1) := by decide +kernel
theorem dX9_asksMoor_5 : decode cX9_asksMoor 5 = .ok (.invokevirtual 262, 3) := by decide +kernel
theorem dX9_asksMoor_8 : decode cX9_asksMoor 8 = .ok (.aload_n 0, 1) := by decide +kernel
theorem dX9_asksMoor_9 : decode cX9_asksMoor 9 = .ok (.invokevirtual 89, 3) := by decide +kernel
theorem dX9_asksMoor_12 : decode cX9_asksMoor 12 = .ok (.ireturn, 1) := by decide +kernel
theorem dX9_asksTaking_0 : decode cX9_asksTaking 0 = .ok (.aload_n 0, 1) := by decide +kernel
theorem dX9_asksTaking_1 : decode cX9_asksTaking 1 = .ok (.iload_n 1, 1) := by decide +kernel
theorem dX9_asksTaking_2 : decode cX9_asksTaking 2 = .ok (.invokevirtual 272, 3) := by decide +kernel
theorem dX9_asksTaking_5 : decode cX9_asksTaking 5 = .ok (.ifCond .eq 19, 3) := by decide +kernel
theorem dX9_asksTaking_8 : decode cX9_asksTaking 8 = .ok (.iload_n 2, 1) := by decide +kernel
theorem dX9_asksTaking_9 : decode cX9_asksTaking 9 = .ok (.i2l, 1) := by decide +kernel
theorem dX9_asksTaking_10 : decode cX9_asksTaking 10 = .ok (.lconst 1, 1) := by decide +kernel
theorem dX9_asksTaking_11 : decode cX9_asksTaking 11 = .ok (.ldc2_w 278, 3) := by decide +kernel
theorem dX9_asksTaking_14 : decode cX9_asksTaking 14 = .ok (.invokestatic 85, 3) := by decide +kernel
theorem dX9_asksTaking_17 : decode cX9_asksTaking 17 = .ok (.ifCond .eq 7, 3) := by decide +kernel
theorem dX9_asksTaking_20 : decode cX9_asksTaking 20 = .ok (.iconst 1, 1) := by decide +kernel
theorem dX9_asksTaking_21 : decode cX9_asksTaking 21 = .ok (.goto 4, 3) := by decide +kernel
theorem dX9_asksTaking_24 : decode cX9_asksTaking 24 = .ok (.iconst 0, 1) := by decide +kernel
theorem dX9_asksTaking_25 : decode cX9_asksTaking 25 = .ok (.ireturn, 1) := by decide +kernel
theorem dX9_away_0 : decode cX9_away 0 = .ok (.aload_n 0, 1) := by decide +kernel
theorem dX9_away_1 : decode cX9_away 1 = .ok (.iload_n 1, 1) := by decide +kernel
theorem dX9_away_2 : decode cX9_away 2 = .ok (.i2l, 1) := by decide +kernel
theorem dX9_away_3 : decode cX9_away 3 = .ok (.invokevirtual 268, 3) := by decide +kernel
theorem dX9_away_6 : decode cX9_away 6 = .ok (.ifCond .eq 11, 3) := by decide +kernel
theorem dX9_away_9 : decode cX9_away 9 = .ok (.aload_n 0, 1) := by decide +kernel
theorem dX9_away_10 : decode cX9_away 10 = .ok (.iload_n 1, 1) := by decide +kernel
theorem dX9_away_11 : decode cX9_away 11 = .ok (.invokevirtual 456, 3) := by decide +kernel
theorem dX9_away_14 : decode cX9_away 14 = .ok (.goto 5, 3) := by decide +kernel
theorem dX9_away_17 : decode cX9_away 17 = .ok (.bipush (-2), 2) := by decide +kernel
theorem dX9_away_19 : decode cX9_away 19 = .ok (.ireturn, 1) := by decide +kernel
theorem dX9_back_0 : decode cX9_back 0 = .ok (.iload_n 1, 1) := by decide +kernel
theorem dX9_back_1 : decode cX9_back 1 = .ok (.i2l, 1) := by decide +kernel
theorem dX9_back_2 : decode cX9_back 2 = .ok (.lconst 0, 1) := by decide +kernel
theorem dX9_back_3 : decode cX9_back 3 = .ok (.ldc2_w 83, 3) := by decide +kernel
theorem dX9_back_6 : decode cX9_back 6 = .ok (.invokestatic 85, 3) := by decide +kernel
theorem dX9_back_9 : decode cX9_back 9 = .ok (.ifCond .ne 6, 3) := by decide +kernel
theorem dX9_back_12 : decode cX9_back 12 = .ok (.bipush (-2), 2) := by decide +kernel
theorem dX9_back_14 : decode cX9_back 14 = .ok (.ireturn, 1) := by decide +kernel
theorem dX9_back_15 : decode cX9_back 15 = .ok (.aload_n 0, 1) := by decide +kernel
theorem dX9_back_16 : decode cX9_back 16 = .ok (.getfield 16, 3) := by decide +kernel
theorem dX9_back_19 : decode cX9_back 19 = .ok (.iload_n 1, 1) := by decide +kernel
theorem dX9_back_20 : decode cX9_back 20 = .ok (.baload, 1) := by decide +kernel
theorem dX9_back_21 : decode cX9_back 21 = .ok (.ifCond .ne 6, 3) := by decide +kernel
theorem dX9_back_24 : decode cX9_back 24 = .ok (.bipush (-6), 2) := by decide +kernel
theorem dX9_back_26 : decode cX9_back 26 = .ok (.ireturn, 1) := by decide +kernel
theorem dX9_back_27 : decode cX9_back 27 = .ok (.iconst 0, 1) := by decide +kernel
theorem dX9_back_28 : decode cX9_back 28 = .ok (.istore_n 2, 1) := by decide +kernel
theorem dX9_back_29 : decode cX9_back 29 = .ok (.iload_n 2, 1) := by decide +kernel
theorem dX9_back_30 : decode cX9_back 30 = .ok (.bipush 47, 2) := by decide +kernel
theorem dX9_back_32 : decode cX9_back 32 = .ok (.if_icmp .ge 26, 3) := by decide +kernel
theorem dX9_back_35 : decode cX9_back 35 = .ok (.aload_n 0, 1) := by decide +kernel
theorem dX9_back_36 : decode cX9_back 36 = .ok (.getfield 9, 3) := by decide +kernel
theorem dX9_back_39 : decode cX9_back 39 = .ok (.iload_n 2, 1) := by decide +kernel
theorem dX9_back_40 : decode cX9_back 40 = .ok (.aload_n 0, 1) := by decide +kernel
theorem dX9_back_41 : decode cX9_back 41 = .ok (.getfield 13, 3) := by decide +kernel
theorem dX9_back_44 : decode cX9_back 44 = .ok (.bipush 47, 2) := by decide +kernel
theorem dX9_back_46 : decode cX9_back 46 = .ok (.iload_n 1, 1) := by decide +kernel
theorem dX9_back_47 : decode cX9_back 47 = .ok (.imul, 1) := by decide +kernel
theorem dX9_back_48 : decode cX9_back 48 = .ok (.iload_n 2, 1) := by decide +kernel
theorem dX9_back_49 : decode cX9_back 49 = .ok (.iadd, 1) := by decide +kernel
theorem dX9_back_50 : decode cX9_back 50 = .ok (.iaload, 1) := by decide +kernel
theorem dX9_back_51 : decode cX9_back 51 = .ok (.iastore, 1) := by decide +kernel
theorem dX9_back_52 : decode cX9_back 52 = .ok (.iinc 2 1, 3) := by decide +kernel
theorem dX9_back_55 : decode cX9_back 55 = .ok (.goto (-26), 3) := by decide +kernel
theorem dX9_back_58 : decode cX9_back 58 = .ok (.iconst 0, 1) := by decide +kernel
theorem dX9_back_59 : decode cX9_back 59 = .ok (.ireturn, 1) := by decide +kernel
theorem dX9_beginDay_0 : decode cX9_beginDay 0 = .ok (.iconst 0, 1) := by decide +kernel
theorem dX9_beginDay_1 : decode cX9_beginDay 1 = .ok (.istore_n 2, 1) := by decide +kernel
theorem dX9_beginDay_2 : decode cX9_beginDay 2 = .ok (.iload_n 2, 1) := by decide +kernel
theorem dX9_beginDay_3 : decode cX9_beginDay 3 = .ok (.aload_n 0, 1) := by decide +kernel
theorem dX9_beginDay_4 : decode cX9_beginDay 4 = .ok (.invokevirtual 97, 3) := by decide +kernel
theorem dX9_beginDay_7 : decode cX9_beginDay 7 = .ok (.if_icmp .ge 48, 3) := by decide +kernel
theorem dX9_beginDay_10 : decode cX9_beginDay 10 = .ok (.aload_n 0, 1) := by decide +kernel
theorem dX9_beginDay_11 : decode cX9_beginDay 11 = .ok (.getfield 40, 3) := by decide +kernel
theorem dX9_beginDay_14 : decode cX9_beginDay 14 = .ok (.iload_n 2, 1) := by decide +kernel
theorem dX9_beginDay_15 : decode cX9_beginDay 15 = .ok (.iaload, 1) := by decide +kernel
theorem dX9_beginDay_16 : decode cX9_beginDay 16 = .ok (.iload_n 1, 1) := by decide +kernel
theorem dX9_beginDay_17 : decode cX9_beginDay 17 = .ok (.if_icmp .ne 32, 3) := by decide +kernel
theorem dX9_beginDay_20 : decode cX9_beginDay 20 = .ok (.aload_n 0, 1) := by decide +kernel
theorem dX9_beginDay_21 : decode cX9_beginDay 21 = .ok (.getfield 238, 3) := by decide +kernel
theorem dX9_beginDay_24 : decode cX9_beginDay 24 = .ok (.iload_n 2, 1) := by decide +kernel
theorem dX9_beginDay_25 : decode cX9_beginDay 25 = .ok (.invokestatic 244, 3) := by decide +kernel
theorem dX9_beginDay_28 : decode cX9_beginDay 28 = .ok (.iconst 1, 1) := by decide +kernel
theorem dX9_beginDay_29 : decode cX9_beginDay 29 = .ok (.if_icmp .ne 20, 3) := by decide +kernel
theorem dX9_beginDay_32 : decode cX9_beginDay 32 = .ok (.aload_n 0, 1) := by decide +kernel
theorem dX9_beginDay_33 : decode cX9_beginDay 33 = .ok (.bipush 17, 2) := by decide +kernel
theorem dX9_beginDay_35 : decode cX9_beginDay 35 = .ok (.aload_n 0, 1) := by decide +kernel
theorem dX9_beginDay_36 : decode cX9_beginDay 36 = .ok (.getfield 9, 3) := by decide +kernel
theorem dX9_beginDay_39 : decode cX9_beginDay 39 = .ok (.bipush 15, 2) := by decide +kernel
theorem dX9_beginDay_41 : decode cX9_beginDay 41 = .ok (.iconst 2, 1) := by decide +kernel
theorem dX9_beginDay_42 : decode cX9_beginDay 42 = .ok (.iload_n 2, 1) := by decide +kernel
theorem dX9_beginDay_43 : decode cX9_beginDay 43 = .ok (.imul, 1) := by decide +kernel
theorem dX9_beginDay_44 : decode cX9_beginDay 44 = .ok (.iadd, 1) := by decide +kernel
theorem dX9_beginDay_45 : decode cX9_beginDay 45 = .ok (.iaload, 1) := by decide +kernel
theorem dX9_beginDay_46 : decode cX9_beginDay 46 = .ok (.invokevirtual 232, 3) := by decide +kernel
theorem dX9_beginDay_49 : decode cX9_beginDay 49 = .ok (.iinc 2 1, 3) := by decide +kernel
theorem dX9_beginDay_52 : decode cX9_beginDay 52 = .ok (.goto (-50), 3) := by decide +kernel
theorem dX9_beginDay_55 : decode cX9_beginDay 55 = .ok (.iconst 0, 1) := by decide +kernel
theorem dX9_beginDay_56 : decode cX9_beginDay 56 = .ok (.istore_n 2, 1) := by decide +kernel
theorem dX9_beginDay_57 : decode cX9_beginDay 57 = .ok (.iload_n 2, 1) := by decide +kernel
theorem dX9_beginDay_58 : decode cX9_beginDay 58 = .ok (.aload_n 0, 1) := by decide +kernel
theorem dX9_beginDay_59 : decode cX9_beginDay 59 = .ok (.getfield 9, 3) := by decide +kernel
theorem dX9_beginDay_62 : decode cX9_beginDay 62 = .ok (.iconst 5, 1) := by decide +kernel
theorem dX9_beginDay_63 : decode cX9_beginDay 63 = .ok (.iaload, 1) := by decide +kernel
theorem dX9_beginDay_64 : decode cX9_beginDay 64 = .ok (.if_icmp .ge 43, 3) := by decide +kernel
theorem dX9_beginDay_67 : decode cX9_beginDay 67 = .ok (.aload_n 0, 1) := by decide +kernel
theorem dX9_beginDay_68 : decode cX9_beginDay 68 = .ok (.getfield 9, 3) := by decide +kernel
theorem dX9_beginDay_71 : decode cX9_beginDay 71 = .ok (.bipush 27, 2) := by decide +kernel
theorem dX9_beginDay_73 : decode cX9_beginDay 73 = .ok (.iload_n 2, 1) := by decide +kernel
theorem dX9_beginDay_74 : decode cX9_beginDay 74 = .ok (.iadd, 1) := by decide +kernel
theorem dX9_beginDay_75 : decode cX9_beginDay 75 = .ok (.iaload, 1) := by decide +kernel
theorem dX9_beginDay_76 : decode cX9_beginDay 76 = .ok (.bipush 100, 2) := by decide +kernel
theorem dX9_beginDay_78 : decode cX9_beginDay 78 = .ok (.irem, 1) := by decide +kernel
theorem dX9_beginDay_79 : decode cX9_beginDay 79 = .ok (.iload_n 1, 1) := by decide +kernel
theorem dX9_beginDay_80 : decode cX9_beginDay 80 = .ok (.if_icmp .ne 21, 3) := by decide +kernel
theorem dX9_beginDay_83 : decode cX9_beginDay 83 = .ok (.aload_n 0, 1) := by decide +kernel
theorem dX9_beginDay_84 : decode cX9_beginDay 84 = .ok (.bipush 17, 2) := by decide +kernel
theorem dX9_beginDay_86 : decode cX9_beginDay 86 = .ok (.aload_n 0, 1) := by decide +kernel
theorem dX9_beginDay_87 : decode cX9_beginDay 87 = .ok (.getfield 9, 3) := by decide +kernel
theorem dX9_beginDay_90 : decode cX9_beginDay 90 = .ok (.bipush 27, 2) := by decide +kernel
theorem dX9_beginDay_92 : decode cX9_beginDay 92 = .ok (.iload_n 2, 1) := by decide +kernel
theorem dX9_beginDay_93 : decode cX9_beginDay 93 = .ok (.iadd, 1) := by decide +kernel
theorem dX9_beginDay_94 : decode cX9_beginDay 94 = .ok (.iaload, 1) := by decide +kernel
theorem dX9_beginDay_95 : decode cX9_beginDay 95 = .ok (.bipush 100, 2) := by decide +kernel
theorem dX9_beginDay_97 : decode cX9_beginDay 97 = .ok (.idiv, 1) := by decide +kernel
theorem dX9_beginDay_98 : decode cX9_beginDay 98 = .ok (.invokevirtual 232, 3) := by decide +kernel
theorem dX9_beginDay_101 : decode cX9_beginDay 101 = .ok (.iinc 2 1, 3) := by decide +kernel
theorem dX9_beginDay_104 : decode cX9_beginDay 104 = .ok (.goto (-47), 3) := by decide +kernel
theorem dX9_beginDay_107 : decode cX9_beginDay 107 = .ok (.aload_n 0, 1) := by decide +kernel
theorem dX9_beginDay_108 : decode cX9_beginDay 108 = .ok (.getfield 241, 3) := by decide +kernel
theorem dX9_beginDay_111 : decode cX9_beginDay 111 = .ok (.iload_n 1, 1) := by decide +kernel
theorem dX9_beginDay_112 : decode cX9_beginDay 112 = .ok (.if_icmp .ne 13, 3) := by decide +kernel
theorem dX9_beginDay_115 : decode cX9_beginDay 115 = .ok (.aload_n 0, 1) := by decide +kernel
theorem dX9_beginDay_116 : decode cX9_beginDay 116 = .ok (.bipush 17, 2) := by decide +kernel
theorem dX9_beginDay_118 : decode cX9_beginDay 118 = .ok (.aload_n 0, 1) := by decide +kernel
theorem dX9_beginDay_119 : decode cX9_beginDay 119 = .ok (.getfield 247, 3) := by decide +kernel
theorem dX9_beginDay_122 : decode cX9_beginDay 122 = .ok (.invokevirtual 232, 3) := by decide +kernel
theorem dX9_beginDay_125 : decode cX9_beginDay 125 = .ok (.iconst 0, 1) := by decide +kernel
theorem dX9_beginDay_126 : decode cX9_beginDay 126 = .ok (.istore_n 2, 1) := by decide +kernel
theorem dX9_beginDay_127 : decode cX9_beginDay 127 = .ok (.iload_n 2, 1) := by decide +kernel
theorem dX9_beginDay_128 : decode cX9_beginDay 128 = .ok (.aload_n 0, 1) := by decide +kernel
theorem dX9_beginDay_129 : decode cX9_beginDay 129 = .ok (.getfield 9, 3) := by decide +kernel
theorem dX9_beginDay_132 : decode cX9_beginDay 132 = .ok (.iconst 5, 1) := by decide +kernel
theorem dX9_beginDay_133 : decode cX9_beginDay 133 = .ok (.iaload, 1) := by decide +kernel
theorem dX9_beginDay_134 : decode cX9_beginDay 134 = .ok (.if_icmp .ge 28, 3) := by decide +kernel
theorem dX9_beginDay_137 : decode cX9_beginDay 137 = .ok (.aload_n 0, 1) := by decide +kernel
theorem dX9_beginDay_138 : decode cX9_beginDay 138 = .ok (.getfield 9, 3) := by decide +kernel
theorem dX9_beginDay_141 : decode cX9_beginDay 141 = .ok (.bipush 27, 2) := by decide +kernel
theorem dX9_beginDay_143 : decode cX9_beginDay 143 = .ok (.iload_n 2, 1) := by decide +kernel
theorem dX9_beginDay_144 : decode cX9_beginDay 144 = .ok (.iadd, 1) := by decide +kernel
theorem dX9_beginDay_145 : decode cX9_beginDay 145 = .ok (.iaload, 1) := by decide +kernel
theorem dX9_beginDay_146 : decode cX9_beginDay 146 = .ok (.iload_n 1, 1) := by decide +kernel
theorem dX9_beginDay_147 : decode cX9_beginDay 147 = .ok (.if_icmp .ne 9, 3) := by decide +kernel
theorem dX9_beginDay_150 : decode cX9_beginDay 150 = .ok (.aload_n 0, 1) := by decide +kernel
theorem dX9_beginDay_151 : decode cX9_beginDay 151 = .ok (.bipush 17, 2) := by decide +kernel
theorem dX9_beginDay_153 : decode cX9_beginDay 153 = .ok (.invokevirtual 250, 3) := by decide +kernel
theorem dX9_beginDay_156 : decode cX9_beginDay 156 = .ok (.iinc 2 1, 3) := by decide +kernel
theorem dX9_beginDay_159 : decode cX9_beginDay 159 = .ok (.goto (-32), 3) := by decide +kernel
theorem dX9_beginDay_162 : decode cX9_beginDay 162 = .ok (.return_, 1) := by decide +kernel
theorem dX9_bring_0 : decode cX9_bring 0 = .ok (.aload_n 0, 1) := by decide +kernel
theorem dX9_bring_1 : decode cX9_bring 1 = .ok (.invokevirtual 265, 3) := by decide +kernel
theorem dX9_bring_4 : decode cX9_bring 4 = .ok (.ifCond .eq 24, 3) := by decide +kernel
theorem dX9_bring_7 : decode cX9_bring 7 = .ok (.aload_n 0, 1) := by decide +kernel
theorem dX9_bring_8 : decode cX9_bring 8 = .ok (.iload_n 1, 1) := by decide +kernel
theorem dX9_bring_9 : decode cX9_bring 9 = .ok (.i2l, 1) := by decide +kernel
theorem dX9_bring_10 : decode cX9_bring 10 = .ok (.invokevirtual 280, 3) := by decide +kernel
theorem dX9_bring_13 : decode cX9_bring 13 = .ok (.ifCond .eq 15, 3) := by decide +kernel
theorem dX9_bring_16 : decode cX9_bring 16 = .ok (.iload_n 2, 1) := by decide +kernel
theorem dX9_bring_17 : decode cX9_bring 17 = .ok (.i2l, 1) := by decide +kernel
theorem dX9_bring_18 : decode cX9_bring 18 = .ok (.lconst 0, 1) := by decide +kernel
theorem dX9_bring_19 : decode cX9_bring 19 = .ok (.ldc2_w 364, 3) := by decide +kernel
theorem dX9_bring_22 : decode cX9_bring 22 = .ok (.invokestatic 85, 3) := by decide +kernel
theorem dX9_bring_25 : decode cX9_bring 25 = .ok (.ifCond .ne 6, 3) := by decide +kernel
theorem dX9_bring_28 : decode cX9_bring 28 = .ok (.bipush (-2), 2) := by decide +kernel
theorem dX9_bring_30 : decode cX9_bring 30 = .ok (.ireturn, 1) := by decide +kernel
theorem dX9_bring_31 : decode cX9_bring 31 = .ok (.iconst 0, 1) := by decide +kernel
theorem dX9_bring_32 : decode cX9_bring 32 = .ok (.istore_n 3, 1) := by decide +kernel
theorem dX9_bring_33 : decode cX9_bring 33 = .ok (.iload_n 3, 1) := by decide +kernel
theorem dX9_bring_34 : decode cX9_bring 34 = .ok (.bipush 20, 2) := by decide +kernel
theorem dX9_bring_36 : decode cX9_bring 36 = .ok (.if_icmp .gt 21, 3) := by decide +kernel
theorem dX9_bring_39 : decode cX9_bring 39 = .ok (.aload_n 0, 1) := by decide +kernel
theorem dX9_bring_40 : decode cX9_bring 40 = .ok (.iload_n 1, 1) := by decide +kernel
theorem dX9_bring_41 : decode cX9_bring 41 = .ok (.iload_n 3, 1) := by decide +kernel
theorem dX9_bring_42 : decode cX9_bring 42 = .ok (.invokevirtual 366, 3) := by decide +kernel
theorem dX9_bring_45 : decode cX9_bring 45 = .ok (.iload_n 2, 1) := by decide +kernel
theorem dX9_bring_46 : decode cX9_bring 46 = .ok (.if_icmp .lt 5, 3) := by decide +kernel
theorem dX9_bring_49 : decode cX9_bring 49 = .ok (.iload_n 3, 1) := by decide +kernel
theorem dX9_bring_50 : decode cX9_bring 50 = .ok (.ireturn, 1) := by decide +kernel
theorem dX9_bring_51 : decode cX9_bring 51 = .ok (.iinc 3 1, 3) := by decide +kernel
theorem dX9_bring_54 : decode cX9_bring 54 = .ok (.goto (-21), 3) := by decide +kernel
theorem dX9_bring_57 : decode cX9_bring 57 = .ok (.iconst (-1), 1) := by decide +kernel
theorem dX9_bring_58 : decode cX9_bring 58 = .ok (.ireturn, 1) := by decide +kernel
theorem dX9_brings_0 : decode cX9_brings 0 = .ok (.iload_n 1, 1) := by decide +kernel
theorem dX9_brings_1 : decode cX9_brings 1 = .ok (.i2l, 1) := by decide +kernel
theorem dX9_brings_2 : decode cX9_brings 2 = .ok (.lconst 1, 1) := by decide +kernel
theorem dX9_brings_3 : decode cX9_brings 3 = .ok (.ldc2_w 454, 3) := by decide +kernel
theorem dX9_brings_6 : decode cX9_brings 6 = .ok (.invokestatic 85, 3) := by decide +kernel
theorem dX9_brings_9 : decode cX9_brings 9 = .ok (.ifCond .eq 25, 3) := by decide +kernel
theorem dX9_brings_12 : decode cX9_brings 12 = .ok (.aload_n 0, 1) := by decide +kernel
theorem dX9_brings_13 : decode cX9_brings 13 = .ok (.iload_n 2, 1) := by decide +kernel
theorem dX9_brings_14 : decode cX9_brings 14 = .ok (.i2l, 1) := by decide +kernel
theorem dX9_brings_15 : decode cX9_brings 15 = .ok (.invokevirtual 268, 3) := by decide +kernel
theorem dX9_brings_18 : decode cX9_brings 18 = .ok (.ifCond .eq 16, 3) := by decide +kernel
theorem dX9_brings_21 : decode cX9_brings 21 = .ok (.aload_n 0, 1) := by decide +kernel
theorem dX9_brings_22 : decode cX9_brings 22 = .ok (.bipush 100, 2) := by decide +kernel
theorem dX9_brings_24 : decode cX9_brings 24 = .ok (.iload_n 1, 1) := by decide +kernel
theorem dX9_brings_25 : decode cX9_brings 25 = .ok (.imul, 1) := by decide +kernel
theorem dX9_brings_26 : decode cX9_brings 26 = .ok (.iload_n 2, 1) := by decide +kernel
theorem dX9_brings_27 : decode cX9_brings 27 = .ok (.iadd, 1) := by decide +kernel
theorem dX9_brings_28 : decode cX9_brings 28 = .ok (.invokevirtual 456, 3) := by decide +kernel
theorem dX9_brings_31 : decode cX9_brings 31 = .ok (.goto 5, 3) := by decide +kernel
theorem dX9_brings_34 : decode cX9_brings 34 = .ok (.bipush (-2), 2) := by decide +kernel
theorem dX9_brings_36 : decode cX9_brings 36 = .ok (.ireturn, 1) := by decide +kernel
theorem dX9_by_0 : decode cX9_by 0 = .ok (.aload_n 0, 1) := by decide +kernel
theorem dX9_by_1 : decode cX9_by 1 = .ok (.invokevirtual 265, 3) := by decide +kernel
theorem dX9_by_4 : decode cX9_by 4 = .ok (.ifCond .eq 23, 3) := by decide +kernel
theorem dX9_by_7 : decode cX9_by 7 = .ok (.iload_n 1, 1) := by decide +kernel
theorem dX9_by_8 : decode cX9_by 8 = .ok (.i2l, 1) := by decide +kernel
theorem dX9_by_9 : decode cX9_by 9 = .ok (.lconst 0, 1) := by decide +kernel
theorem dX9_by_10 : decode cX9_by 10 = .ok (.ldc2_w 390, 3) := by decide +kernel
theorem dX9_by_13 : decode cX9_by 13 = .ok (.invokestatic 85, 3) := by decide +kernel
theorem dX9_by_16 : decode cX9_by 16 = .ok (.ifCond .eq 11, 3) := by decide +kernel
theorem dX9_by_19 : decode cX9_by 19 = .ok (.aload_n 0, 1) := by decide +kernel
theorem dX9_by_20 : decode cX9_by 20 = .ok (.iload_n 1, 1) := by decide +kernel
theorem dX9_by_21 : decode cX9_by 21 = .ok (.invokevirtual 392, 3) := by decide +kernel
theorem dX9_by_24 : decode cX9_by 24 = .ok (.goto 5, 3) := by decide +kernel
theorem dX9_by_27 : decode cX9_by 27 = .ok (.bipush (-2), 2) := by decide +kernel
theorem dX9_by_29 : decode cX9_by 29 = .ok (.ireturn, 1) := by decide +kernel
theorem dX9_cart_0 : decode cX9_cart 0 = .ok (.aload_n 0, 1) := by decide +kernel
theorem dX9_cart_1 : decode cX9_cart 1 = .ok (.iload_n 1, 1) := by decide +kernel
theorem dX9_cart_2 : decode cX9_cart 2 = .ok (.invokevirtual 204, 3) := by decide +kernel
theorem dX9_cart_5 : decode cX9_cart 5 = .ok (.ifCond .eq 29, 3) := by decide +kernel
theorem dX9_cart_8 : decode cX9_cart 8 = .ok (.iload_n 2, 1) := by decide +kernel
theorem dX9_cart_9 : decode cX9_cart 9 = .ok (.i2l, 1) := by decide +kernel
theorem dX9_cart_10 : decode cX9_cart 10 = .ok (.lconst 0, 1) := by decide +kernel
theorem dX9_cart_11 : decode cX9_cart 11 = .ok (.lconst 1, 1) := by decide +kernel
theorem dX9_cart_12 : decode cX9_cart 12 = .ok (.invokestatic 85, 3) := by decide +kernel
theorem dX9_cart_15 : decode cX9_cart 15 = .ok (.ifCond .eq 19, 3) := by decide +kernel
theorem dX9_cart_18 : decode cX9_cart 18 = .ok (.aload_n 0, 1) := by decide +kernel
theorem dX9_cart_19 : decode cX9_cart 19 = .ok (.getfield 9, 3) := by decide +kernel
theorem dX9_cart_22 : decode cX9_cart 22 = .ok (.bipush 15, 2) := by decide +kernel
theorem dX9_cart_24 : decode cX9_cart 24 = .ok (.iconst 2, 1) := by decide +kernel
theorem dX9_cart_25 : decode cX9_cart 25 = .ok (.iload_n 1, 1) := by decide +kernel
theorem dX9_cart_26 : decode cX9_cart 26 = .ok (.imul, 1) := by decide +kernel
theorem dX9_cart_27 : decode cX9_cart 27 = .ok (.iadd, 1) := by decide +kernel
theorem dX9_cart_28 : decode cX9_cart 28 = .ok (.iload_n 2, 1) := by decide +kernel
theorem dX9_cart_29 : decode cX9_cart 29 = .ok (.iadd, 1) := by decide +kernel
theorem dX9_cart_30 : decode cX9_cart 30 = .ok (.iaload, 1) := by decide +kernel
theorem dX9_cart_31 : decode cX9_cart 31 = .ok (.goto 5, 3) := by decide +kernel
theorem dX9_cart_34 : decode cX9_cart 34 = .ok (.bipush (-2), 2) := by decide +kernel
theorem dX9_cart_36 : decode cX9_cart 36 = .ok (.ireturn, 1) := by decide +kernel
theorem dX9_cartMany_0 : decode cX9_cartMany 0 = .ok (.aload_n 0, 1) := by decide +kernel
theorem dX9_cartMany_1 : decode cX9_cartMany 1 = .ok (.getfield 9, 3) := by decide +kernel
theorem dX9_cartMany_4 : decode cX9_cartMany 4 = .ok (.iconst 4, 1) := by decide +kernel
theorem dX9_cartMany_5 : decode cX9_cartMany 5 = .ok (.iaload, 1) := by decide +kernel
theorem dX9_cartMany_6 : decode cX9_cartMany 6 = .ok (.ireturn, 1) := by decide +kernel
theorem dX9_chance_0 : decode cX9_chance 0 = .ok (.aload_n 0, 1) := by decide +kernel
theorem dX9_chance_1 : decode cX9_chance 1 = .ok (.iload_n 1, 1) := by decide +kernel
theorem dX9_chance_2 : decode cX9_chance 2 = .ok (.iload_n 3, 1) := by decide +kernel
theorem dX9_chance_3 : decode cX9_chance 3 = .ok (.invokevirtual 446, 3) := by decide +kernel
theorem dX9_chance_6 : decode cX9_chance 6 = .ok (.ifCond .eq 15, 3) := by decide +kernel
theorem dX9_chance_9 : decode cX9_chance 9 = .ok (.iload_n 2, 1) := by decide +kernel
theorem dX9_chance_10 : decode cX9_chance 10 = .ok (.i2l, 1) := by decide +kernel
theorem dX9_chance_11 : decode cX9_chance 11 = .ok (.lconst 0, 1) := by decide +kernel
theorem dX9_chance_12 : decode cX9_chance 12 = .ok (.ldc2_w 278, 3) := by decide +kernel
theorem dX9_chance_15 : decode cX9_chance 15 = .ok (.invokestatic 85, 3) := by decide +kernel
theorem dX9_chance_18 : decode cX9_chance 18 = .ok (.ifCond .ne 7, 3) := by decide +kernel
theorem dX9_chance_21 : decode cX9_chance 21 = .ok (.ldc2_w 449, 3) := by decide +kernel
theorem dX9_chance_24 : decode cX9_chance 24 = .ok (.lreturn, 1) := by decide +kernel
theorem dX9_chance_25 : decode cX9_chance 25 = .ok (.aload_n 0, 1) := by decide +kernel
theorem dX9_chance_26 : decode cX9_chance 26 = .ok (.iload_n 1, 1) := by decide +kernel
theorem dX9_chance_27 : decode cX9_chance 27 = .ok (.iload_n 2, 1) := by decide +kernel
theorem dX9_chance_28 : decode cX9_chance 28 = .ok (.invokevirtual 451, 3) := by decide +kernel
theorem dX9_chance_31 : decode cX9_chance 31 = .ok (.aload_n 0, 1) := by decide +kernel
theorem dX9_chance_32 : decode cX9_chance 32 = .ok (.getfield 440, 3) := by decide +kernel
theorem dX9_chance_35 : decode cX9_chance 35 = .ok (.aload_n 0, 1) := by decide +kernel
theorem dX9_chance_36 : decode cX9_chance 36 = .ok (.getfield 436, 3) := by decide +kernel
theorem dX9_chance_39 : decode cX9_chance 39 = .ok (.iload_n 3, 1) := by decide +kernel
theorem dX9_chance_40 : decode cX9_chance 40 = .ok (.invokestatic 412, 3) := by decide +kernel
theorem dX9_chance_43 : decode cX9_chance 43 = .ok (.lreturn, 1) := by decide +kernel
theorem dX9_copyRow_0 : decode cX9_copyRow 0 = .ok (.iconst 0, 1) := by decide +kernel
theorem dX9_copyRow_1 : decode cX9_copyRow 1 = .ok (.istore_n 3, 1) := by decide +kernel
theorem dX9_copyRow_2 : decode cX9_copyRow 2 = .ok (.iload_n 3, 1) := by decide +kernel
theorem dX9_copyRow_3 : decode cX9_copyRow 3 = .ok (.aload_n 0, 1) := by decide +kernel
theorem dX9_copyRow_4 : decode cX9_copyRow 4 = .ok (.iload_n 1, 1) := by decide +kernel
theorem dX9_copyRow_5 : decode cX9_copyRow 5 = .ok (.invokevirtual 207, 3) := by decide +kernel
theorem dX9_copyRow_8 : decode cX9_copyRow 8 = .ok (.if_icmp .gt 33, 3) := by decide +kernel
theorem dX9_copyRow_11 : decode cX9_copyRow 11 = .ok (.aload_n 0, 1) := by decide +kernel
theorem dX9_copyRow_12 : decode cX9_copyRow 12 = .ok (.getfield 34, 3) := by decide +kernel
theorem dX9_copyRow_15 : decode cX9_copyRow 15 = .ok (.sipush 701, 3) := by decide +kernel
theorem dX9_copyRow_18 : decode cX9_copyRow 18 = .ok (.iload_n 2, 1) := by decide +kernel
theorem dX9_copyRow_19 : decode cX9_copyRow 19 = .ok (.imul, 1) := by decide +kernel
theorem dX9_copyRow_20 : decode cX9_copyRow 20 = .ok (.iload_n 3, 1) := by decide +kernel
theorem dX9_copyRow_21 : decode cX9_copyRow 21 = .ok (.iadd, 1) := by decide +kernel
theorem dX9_copyRow_22 : decode cX9_copyRow 22 = .ok (.aload_n 0, 1) := by decide +kernel
theorem dX9_copyRow_23 : decode cX9_copyRow 23 = .ok (.getfield 34, 3) := by decide +kernel
theorem dX9_copyRow_26 : decode cX9_copyRow 26 = .ok (.sipush 701, 3) := by decide +kernel
theorem dX9_copyRow_29 : decode cX9_copyRow 29 = .ok (.iload_n 1, 1) := by decide +kernel
theorem dX9_copyRow_30 : decode cX9_copyRow 30 = .ok (.imul, 1) := by decide +kernel
theorem dX9_copyRow_31 : decode cX9_copyRow 31 = .ok (.iload_n 3, 1) := by decide +kernel
theorem dX9_copyRow_32 : decode cX9_copyRow 32 = .ok (.iadd, 1) := by decide +kernel
theorem dX9_copyRow_33 : decode cX9_copyRow 33 = .ok (.iaload, 1) := by decide +kernel
theorem dX9_copyRow_34 : decode cX9_copyRow 34 = .ok (.iastore, 1) := by decide +kernel
theorem dX9_copyRow_35 : decode cX9_copyRow 35 = .ok (.iinc 3 1, 3) := by decide +kernel
theorem dX9_copyRow_38 : decode cX9_copyRow 38 = .ok (.goto (-36), 3) := by decide +kernel
theorem dX9_copyRow_41 : decode cX9_copyRow 41 = .ok (.return_, 1) := by decide +kernel
theorem dX9_count_0 : decode cX9_count 0 = .ok (.iload_n 1, 1) := by decide +kernel
theorem dX9_count_1 : decode cX9_count 1 = .ok (.i2l, 1) := by decide +kernel
theorem dX9_count_2 : decode cX9_count 2 = .ok (.lconst 0, 1) := by decide +kernel
theorem dX9_count_3 : decode cX9_count 3 = .ok (.ldc2_w 478, 3) := by decide +kernel
theorem dX9_count_6 : decode cX9_count 6 = .ok (.invokestatic 85, 3) := by decide +kernel
theorem dX9_count_9 : decode cX9_count 9 = .ok (.ifCond .eq 10, 3) := by decide +kernel
theorem dX9_count_12 : decode cX9_count 12 = .ok (.aload_n 0, 1) := by decide +kernel
theorem dX9_count_13 : decode cX9_count 13 = .ok (.getfield 9, 3) := by decide +kernel
theorem dX9_count_16 : decode cX9_count 16 = .ok (.iload_n 1, 1) := by decide +kernel
theorem dX9_count_17 : decode cX9_count 17 = .ok (.iaload, 1) := by decide +kernel
theorem dX9_count_18 : decode cX9_count 18 = .ok (.ireturn, 1) := by decide +kernel
theorem dX9_count_19 : decode cX9_count 19 = .ok (.iload_n 1, 1) := by decide +kernel
theorem dX9_count_20 : decode cX9_count 20 = .ok (.bipush 7, 2) := by decide +kernel
theorem dX9_count_22 : decode cX9_count 22 = .ok (.if_icmp .ne 8, 3) := by decide +kernel
theorem dX9_count_25 : decode cX9_count 25 = .ok (.aload_n 0, 1) := by decide +kernel
theorem dX9_count_26 : decode cX9_count 26 = .ok (.getfield 100, 3) := by decide +kernel
theorem dX9_count_29 : decode cX9_count 29 = .ok (.ireturn, 1) := by decide +kernel
theorem dX9_count_30 : decode cX9_count 30 = .ok (.iload_n 1, 1) := by decide +kernel
theorem dX9_count_31 : decode cX9_count 31 = .ok (.bipush 8, 2) := by decide +kernel
theorem dX9_count_33 : decode cX9_count 33 = .ok (.if_icmp .eq 5, 3) := by decide +kernel
theorem dX9_count_36 : decode cX9_count 36 = .ok (.iconst (-1), 1) := by decide +kernel
theorem dX9_count_37 : decode cX9_count 37 = .ok (.ireturn, 1) := by decide +kernel
theorem dX9_count_38 : decode cX9_count 38 = .ok (.iconst 0, 1) := by decide +kernel
theorem dX9_count_39 : decode cX9_count 39 = .ok (.istore_n 2, 1) := by decide +kernel
theorem dX9_count_40 : decode cX9_count 40 = .ok (.iconst 0, 1) := by decide +kernel
theorem dX9_count_41 : decode cX9_count 41 = .ok (.istore_n 3, 1) := by decide +kernel
theorem dX9_count_42 : decode cX9_count 42 = .ok (.iload_n 3, 1) := by decide +kernel
theorem dX9_count_43 : decode cX9_count 43 = .ok (.iconst 4, 1) := by decide +kernel
theorem dX9_count_44 : decode cX9_count 44 = .ok (.if_icmp .ge 27, 3) := by decide +kernel
theorem dX9_count_47 : decode cX9_count 47 = .ok (.iload_n 2, 1) := by decide +kernel
theorem dX9_count_48 : decode cX9_count 48 = .ok (.aload_n 0, 1) := by decide +kernel
theorem dX9_count_49 : decode cX9_count 49 = .ok (.getfield 67, 3) := by decide +kernel
theorem dX9_count_52 : decode cX9_count 52 = .ok (.iload_n 3, 1) := by decide +kernel
theorem dX9_count_53 : decode cX9_count 53 = .ok (.iaload, 1) := by decide +kernel
theorem dX9_count_54 : decode cX9_count 54 = .ok (.iconst (-1), 1) := by decide +kernel
theorem dX9_count_55 : decode cX9_count 55 = .ok (.if_icmp .ne 7, 3) := by decide +kernel
theorem dX9_count_58 : decode cX9_count 58 = .ok (.iconst 0, 1) := by decide +kernel
theorem dX9_count_59 : decode cX9_count 59 = .ok (.goto 4, 3) := by decide +kernel
theorem dX9_count_62 : decode cX9_count 62 = .ok (.iconst 1, 1) := by decide +kernel
theorem dX9_count_63 : decode cX9_count 63 = .ok (.iadd, 1) := by decide +kernel
theorem dX9_count_64 : decode cX9_count 64 = .ok (.istore_n 2, 1) := by decide +kernel
theorem dX9_count_65 : decode cX9_count 65 = .ok (.iinc 3 1, 3) := by decide +kernel
theorem dX9_count_68 : decode cX9_count 68 = .ok (.goto (-26), 3) := by decide +kernel
theorem dX9_count_71 : decode cX9_count 71 = .ok (.iload_n 2, 1) := by decide +kernel
theorem dX9_count_72 : decode cX9_count 72 = .ok (.ireturn, 1) := by decide +kernel
theorem dX9_days_0 : decode cX9_days 0 = .ok (.aload_n 0, 1) := by decide +kernel
theorem dX9_days_1 : decode cX9_days 1 = .ok (.getfield 9, 3) := by decide +kernel
theorem dX9_days_4 : decode cX9_days 4 = .ok (.iconst 0, 1) := by decide +kernel
theorem dX9_days_5 : decode cX9_days 5 = .ok (.iaload, 1) := by decide +kernel
theorem dX9_days_6 : decode cX9_days 6 = .ok (.ireturn, 1) := by decide +kernel
theorem dX9_drawn_0 : decode cX9_drawn 0 = .ok (.aload_n 0, 1) := by decide +kernel
theorem dX9_drawn_1 : decode cX9_drawn 1 = .ok (.invokevirtual 89, 3) := by decide +kernel
theorem dX9_drawn_4 : decode cX9_drawn 4 = .ok (.ifCond .eq 20, 3) := by decide +kernel
theorem dX9_drawn_7 : decode cX9_drawn 7 = .ok (.iload_n 1, 1) := by decide +kernel
theorem dX9_drawn_8 : decode cX9_drawn 8 = .ok (.invokestatic 471, 3) := by decide +kernel
theorem dX9_drawn_11 : decode cX9_drawn 11 = .ok (.ifCond .eq 13, 3) := by decide +kernel
theorem dX9_drawn_14 : decode cX9_drawn 14 = .ok (.iload_n 2, 1) := by decide +kernel
theorem dX9_drawn_15 : decode cX9_drawn 15 = .ok (.i2l, 1) := by decide +kernel
theorem dX9_drawn_16 : decode cX9_drawn 16 = .ok (.lconst 0, 1) := by decide +kernel
theorem dX9_drawn_17 : decode cX9_drawn 17 = .ok (.lconst 1, 1) := by decide +kernel
theorem dX9_drawn_18 : decode cX9_drawn 18 = .ok (.invokestatic 85, 3) := by decide +kernel
theorem dX9_drawn_21 : decode cX9_drawn 21 = .ok (.ifCond .ne 6, 3) := by decide +kernel
theorem dX9_drawn_24 : decode cX9_drawn 24 = .ok (.bipush (-2), 2) := by decide +kernel
theorem dX9_drawn_26 : decode cX9_drawn 26 = .ok (.ireturn, 1) := by decide +kernel
theorem dX9_drawn_27 : decode cX9_drawn 27 = .ok (.aload_n 0, 1) := by decide +kernel
theorem dX9_drawn_28 : decode cX9_drawn 28 = .ok (.iload_n 1, 1) := by decide +kernel
theorem dX9_drawn_29 : decode cX9_drawn 29 = .ok (.i2l, 1) := by decide +kernel
theorem dX9_drawn_30 : decode cX9_drawn 30 = .ok (.invokevirtual 474, 3) := by decide +kernel
theorem dX9_drawn_33 : decode cX9_drawn 33 = .ok (.iload_n 2, 1) := by decide +kernel
theorem dX9_drawn_34 : decode cX9_drawn 34 = .ok (.ifCond .ne 10, 3) := by decide +kernel
theorem dX9_drawn_37 : decode cX9_drawn 37 = .ok (.aload_n 0, 1) := by decide +kernel
theorem dX9_drawn_38 : decode cX9_drawn 38 = .ok (.getfield 235, 3) := by decide +kernel
theorem dX9_drawn_41 : decode cX9_drawn 41 = .ok (.goto 7, 3) := by decide +kernel
theorem dX9_drawn_44 : decode cX9_drawn 44 = .ok (.aload_n 0, 1) := by decide +kernel
theorem dX9_drawn_45 : decode cX9_drawn 45 = .ok (.invokevirtual 361, 3) := by decide +kernel
theorem dX9_drawn_48 : decode cX9_drawn 48 = .ok (.ireturn, 1) := by decide +kernel
theorem dX9_empty_0 : decode cX9_empty 0 = .ok (.aload_n 0, 1) := by decide +kernel
theorem dX9_empty_1 : decode cX9_empty 1 = .ok (.getfield 34, 3) := by decide +kernel
theorem dX9_empty_4 : decode cX9_empty 4 = .ok (.sipush 701, 3) := by decide +kernel
theorem dX9_empty_7 : decode cX9_empty 7 = .ok (.iload_n 1, 1) := by decide +kernel
theorem dX9_empty_8 : decode cX9_empty 8 = .ok (.imul, 1) := by decide +kernel
theorem dX9_empty_9 : decode cX9_empty 9 = .ok (.iconst 0, 1) := by decide +kernel
theorem dX9_empty_10 : decode cX9_empty 10 = .ok (.iastore, 1) := by decide +kernel
theorem dX9_empty_11 : decode cX9_empty 11 = .ok (.return_, 1) := by decide +kernel
theorem dX9_end_0 : decode cX9_end 0 = .ok (.iload_n 1, 1) := by decide +kernel
theorem dX9_end_1 : decode cX9_end 1 = .ok (.i2l, 1) := by decide +kernel
theorem dX9_end_2 : decode cX9_end 2 = .ok (.lconst 0, 1) := by decide +kernel
theorem dX9_end_3 : decode cX9_end 3 = .ok (.aload_n 0, 1) := by decide +kernel
theorem dX9_end_4 : decode cX9_end 4 = .ok (.getfield 100, 3) := by decide +kernel
theorem dX9_end_7 : decode cX9_end 7 = .ok (.i2l, 1) := by decide +kernel
theorem dX9_end_8 : decode cX9_end 8 = .ok (.invokestatic 85, 3) := by decide +kernel
theorem dX9_end_11 : decode cX9_end 11 = .ok (.ifCond .ne 5, 3) := by decide +kernel
theorem dX9_end_14 : decode cX9_end 14 = .ok (.iconst (-1), 1) := by decide +kernel
theorem dX9_end_15 : decode cX9_end 15 = .ok (.ireturn, 1) := by decide +kernel
theorem dX9_end_16 : decode cX9_end 16 = .ok (.aload_n 0, 1) := by decide +kernel
theorem dX9_end_17 : decode cX9_end 17 = .ok (.iload_n 1, 1) := by decide +kernel
theorem dX9_end_18 : decode cX9_end 18 = .ok (.putfield 100, 3) := by decide +kernel
theorem dX9_end_21 : decode cX9_end 21 = .ok (.iload_n 1, 1) := by decide +kernel
theorem dX9_end_22 : decode cX9_end 22 = .ok (.ireturn, 1) := by decide +kernel
theorem dX9_even_0 : decode cX9_even 0 = .ok (.aload_n 0, 1) := by decide +kernel
theorem dX9_even_1 : decode cX9_even 1 = .ok (.iload_n 1, 1) := by decide +kernel
theorem dX9_even_2 : decode cX9_even 2 = .ok (.invokevirtual 272, 3) := by decide +kernel
theorem dX9_even_5 : decode cX9_even 5 = .ok (.ifCond .ne 6, 3) := by decide +kernel
theorem dX9_even_8 : decode cX9_even 8 = .ok (.bipush (-2), 2) := by decide +kernel
theorem dX9_even_10 : decode cX9_even 10 = .ok (.ireturn, 1) := by decide +kernel
theorem dX9_even_11 : decode cX9_even 11 = .ok (.aload_n 0, 1) := by decide +kernel
theorem dX9_even_12 : decode cX9_even 12 = .ok (.iload_n 1, 1) := by decide +kernel
theorem dX9_even_13 : decode cX9_even 13 = .ok (.invokevirtual 286, 3) := by decide +kernel
theorem dX9_even_16 : decode cX9_even 16 = .ok (.aload_n 0, 1) := by decide +kernel
theorem dX9_even_17 : decode cX9_even 17 = .ok (.iload_n 1, 1) := by decide +kernel
theorem dX9_even_18 : decode cX9_even 18 = .ok (.invokevirtual 207, 3) := by decide +kernel
theorem dX9_even_21 : decode cX9_even 21 = .ok (.if_icmp .ne 7, 3) := by decide +kernel
theorem dX9_even_24 : decode cX9_even 24 = .ok (.iconst 1, 1) := by decide +kernel
theorem dX9_even_25 : decode cX9_even 25 = .ok (.goto 4, 3) := by decide +kernel
theorem dX9_even_28 : decode cX9_even 28 = .ok (.iconst 0, 1) := by decide +kernel
theorem dX9_even_29 : decode cX9_even 29 = .ok (.istore_n 2, 1) := by decide +kernel
theorem dX9_even_30 : decode cX9_even 30 = .ok (.iconst 0, 1) := by decide +kernel
theorem dX9_even_31 : decode cX9_even 31 = .ok (.istore_n 3, 1) := by decide +kernel
theorem dX9_even_32 : decode cX9_even 32 = .ok (.iload_n 3, 1) := by decide +kernel
theorem dX9_even_33 : decode cX9_even 33 = .ok (.aload_n 0, 1) := by decide +kernel
theorem dX9_even_34 : decode cX9_even 34 = .ok (.iload_n 1, 1) := by decide +kernel
theorem dX9_even_35 : decode cX9_even 35 = .ok (.invokevirtual 207, 3) := by decide +kernel
theorem dX9_even_38 : decode cX9_even 38 = .ok (.if_icmp .ge 34, 3) := by decide +kernel
theorem dX9_even_41 : decode cX9_even 41 = .ok (.iload_n 2, 1) := by decide +kernel
theorem dX9_even_42 : decode cX9_even 42 = .ok (.ifCond .eq 30, 3) := by decide +kernel
theorem dX9_even_45 : decode cX9_even 45 = .ok (.aload_n 0, 1) := by decide +kernel
theorem dX9_even_46 : decode cX9_even 46 = .ok (.iload_n 1, 1) := by decide +kernel
theorem dX9_even_47 : decode cX9_even 47 = .ok (.iload_n 3, 1) := by decide +kernel
theorem dX9_even_48 : decode cX9_even 48 = .ok (.invokevirtual 299, 3) := by decide +kernel
theorem dX9_even_51 : decode cX9_even 51 = .ok (.aload_n 0, 1) := by decide +kernel
theorem dX9_even_52 : decode cX9_even 52 = .ok (.iload_n 1, 1) := by decide +kernel
theorem dX9_even_53 : decode cX9_even 53 = .ok (.iload_n 3, 1) := by decide +kernel
theorem dX9_even_54 : decode cX9_even 54 = .ok (.invokevirtual 210, 3) := by decide +kernel
theorem dX9_even_57 : decode cX9_even 57 = .ok (.if_icmp .ne 7, 3) := by decide +kernel
theorem dX9_even_60 : decode cX9_even 60 = .ok (.iconst 1, 1) := by decide +kernel
theorem dX9_even_61 : decode cX9_even 61 = .ok (.goto 4, 3) := by decide +kernel
theorem dX9_even_64 : decode cX9_even 64 = .ok (.iconst 0, 1) := by decide +kernel
theorem dX9_even_65 : decode cX9_even 65 = .ok (.istore_n 2, 1) := by decide +kernel
theorem dX9_even_66 : decode cX9_even 66 = .ok (.iinc 3 1, 3) := by decide +kernel
theorem dX9_even_69 : decode cX9_even 69 = .ok (.goto (-37), 3) := by decide +kernel
theorem dX9_even_72 : decode cX9_even 72 = .ok (.iload_n 2, 1) := by decide +kernel
theorem dX9_even_73 : decode cX9_even 73 = .ok (.ifCond .eq 7, 3) := by decide +kernel
theorem dX9_even_76 : decode cX9_even 76 = .ok (.iconst 1, 1) := by decide +kernel
theorem dX9_even_77 : decode cX9_even 77 = .ok (.goto 4, 3) := by decide +kernel
theorem dX9_even_80 : decode cX9_even 80 = .ok (.iconst 0, 1) := by decide +kernel
theorem dX9_even_81 : decode cX9_even 81 = .ok (.ireturn, 1) := by decide +kernel
theorem dX9_fault_0 : decode cX9_fault 0 = .ok (.iload_n 1, 1) := by decide +kernel
theorem dX9_fault_1 : decode cX9_fault 1 = .ok (.ifCond .ne 10, 3) := by decide +kernel
theorem dX9_fault_4 : decode cX9_fault 4 = .ok (.aload_n 0, 1) := by decide +kernel
theorem dX9_fault_5 : decode cX9_fault 5 = .ok (.getfield 137, 3) := by decide +kernel
theorem dX9_fault_8 : decode cX9_fault 8 = .ok (.goto 16, 3) := by decide +kernel
theorem dX9_fault_11 : decode cX9_fault 11 = .ok (.iload_n 1, 1) := by decide +kernel
theorem dX9_fault_12 : decode cX9_fault 12 = .ok (.iconst 1, 1) := by decide +kernel
theorem dX9_fault_13 : decode cX9_fault 13 = .ok (.if_icmp .ne 10, 3) := by decide +kernel
theorem dX9_fault_16 : decode cX9_fault 16 = .ok (.aload_n 0, 1) := by decide +kernel
theorem dX9_fault_17 : decode cX9_fault 17 = .ok (.getfield 27, 3) := by decide +kernel
theorem dX9_fault_20 : decode cX9_fault 20 = .ok (.goto 4, 3) := by decide +kernel
theorem dX9_fault_23 : decode cX9_fault 23 = .ok (.iconst (-1), 1) := by decide +kernel
theorem dX9_fault_24 : decode cX9_fault 24 = .ok (.ireturn, 1) := by decide +kernel
theorem dX9_feed_0 : decode cX9_feed 0 = .ok (.aload_n 0, 1) := by decide +kernel
theorem dX9_feed_1 : decode cX9_feed 1 = .ok (.getfield 100, 3) := by decide +kernel
theorem dX9_feed_4 : decode cX9_feed 4 = .ok (.bipush 20, 2) := by decide +kernel
theorem dX9_feed_6 : decode cX9_feed 6 = .ok (.iadd, 1) := by decide +kernel
theorem dX9_feed_7 : decode cX9_feed 7 = .ok (.sipush 500, 3) := by decide +kernel
theorem dX9_feed_10 : decode cX9_feed 10 = .ok (.if_icmp .le 5, 3) := by decide +kernel
theorem dX9_feed_13 : decode cX9_feed 13 = .ok (.iconst (-1), 1) := by decide +kernel
theorem dX9_feed_14 : decode cX9_feed 14 = .ok (.ireturn, 1) := by decide +kernel
theorem dX9_feed_15 : decode cX9_feed 15 = .ok (.aload_n 0, 1) := by decide +kernel
theorem dX9_feed_16 : decode cX9_feed 16 = .ok (.getfield 24, 3) := by decide +kernel
theorem dX9_feed_19 : decode cX9_feed 19 = .ok (.iconst 0, 1) := by decide +kernel
theorem dX9_feed_20 : decode cX9_feed 20 = .ok (.iload_n 1, 1) := by decide +kernel
theorem dX9_feed_21 : decode cX9_feed 21 = .ok (.iastore, 1) := by decide +kernel
theorem dX9_feed_22 : decode cX9_feed 22 = .ok (.aload_n 0, 1) := by decide +kernel
theorem dX9_feed_23 : decode cX9_feed 23 = .ok (.getfield 24, 3) := by decide +kernel
theorem dX9_feed_26 : decode cX9_feed 26 = .ok (.iconst 1, 1) := by decide +kernel
theorem dX9_feed_27 : decode cX9_feed 27 = .ok (.iload_n 2, 1) := by decide +kernel
theorem dX9_feed_28 : decode cX9_feed 28 = .ok (.iastore, 1) := by decide +kernel
theorem dX9_feed_29 : decode cX9_feed 29 = .ok (.aload_n 0, 1) := by decide +kernel
theorem dX9_feed_30 : decode cX9_feed 30 = .ok (.getfield 24, 3) := by decide +kernel
theorem dX9_feed_33 : decode cX9_feed 33 = .ok (.iconst 2, 1) := by decide +kernel
theorem dX9_feed_34 : decode cX9_feed 34 = .ok (.iload_n 3, 1) := by decide +kernel
theorem dX9_feed_35 : decode cX9_feed 35 = .ok (.iastore, 1) := by decide +kernel
theorem dX9_feed_36 : decode cX9_feed 36 = .ok (.aload_n 0, 1) := by decide +kernel
theorem dX9_feed_37 : decode cX9_feed 37 = .ok (.getfield 24, 3) := by decide +kernel
theorem dX9_feed_40 : decode cX9_feed 40 = .ok (.iconst 3, 1) := by decide +kernel
theorem dX9_feed_41 : decode cX9_feed 41 = .ok (.iload 4, 2) := by decide +kernel
theorem dX9_feed_43 : decode cX9_feed 43 = .ok (.iastore, 1) := by decide +kernel
theorem dX9_feed_44 : decode cX9_feed 44 = .ok (.aload_n 0, 1) := by decide +kernel
theorem dX9_feed_45 : decode cX9_feed 45 = .ok (.getfield 24, 3) := by decide +kernel
theorem dX9_feed_48 : decode cX9_feed 48 = .ok (.iconst 4, 1) := by decide +kernel
theorem dX9_feed_49 : decode cX9_feed 49 = .ok (.iload 5, 2) := by decide +kernel
theorem dX9_feed_51 : decode cX9_feed 51 = .ok (.iastore, 1) := by decide +kernel
theorem dX9_feed_52 : decode cX9_feed 52 = .ok (.iconst 0, 1) := by decide +kernel
theorem dX9_feed_53 : decode cX9_feed 53 = .ok (.istore 6, 2) := by decide +kernel
theorem dX9_feed_55 : decode cX9_feed 55 = .ok (.iload 6, 2) := by decide +kernel
theorem dX9_feed_57 : decode cX9_feed 57 = .ok (.bipush 20, 2) := by decide +kernel
theorem dX9_feed_59 : decode cX9_feed 59 = .ok (.if_icmp .ge 42, 3) := by decide +kernel
theorem dX9_feed_62 : decode cX9_feed 62 = .ok (.aload_n 0, 1) := by decide +kernel
theorem dX9_feed_63 : decode cX9_feed 63 = .ok (.getfield 20, 3) := by decide +kernel
theorem dX9_feed_66 : decode cX9_feed 66 = .ok (.aload_n 0, 1) := by decide +kernel
theorem dX9_feed_67 : decode cX9_feed 67 = .ok (.getfield 100, 3) := by decide +kernel
theorem dX9_feed_70 : decode cX9_feed 70 = .ok (.iload 6, 2) := by decide +kernel
theorem dX9_feed_72 : decode cX9_feed 72 = .ok (.iadd, 1) := by decide +kernel
theorem dX9_feed_73 : decode cX9_feed 73 = .ok (.aload_n 0, 1) := by decide +kernel
theorem dX9_feed_74 : decode cX9_feed 74 = .ok (.getfield 24, 3) := by decide +kernel
theorem dX9_feed_77 : decode cX9_feed 77 = .ok (.iload 6, 2) := by decide +kernel
theorem dX9_feed_79 : decode cX9_feed 79 = .ok (.iconst 4, 1) := by decide +kernel
theorem dX9_feed_80 : decode cX9_feed 80 = .ok (.idiv, 1) := by decide +kernel
theorem dX9_feed_81 : decode cX9_feed 81 = .ok (.iaload, 1) := by decide +kernel
theorem dX9_feed_82 : decode cX9_feed 82 = .ok (.bipush 24, 2) := by decide +kernel
theorem dX9_feed_84 : decode cX9_feed 84 = .ok (.bipush 8, 2) := by decide +kernel
theorem dX9_feed_86 : decode cX9_feed 86 = .ok (.iload 6, 2) := by decide +kernel
theorem dX9_feed_88 : decode cX9_feed 88 = .ok (.iconst 4, 1) := by decide +kernel
theorem dX9_feed_89 : decode cX9_feed 89 = .ok (.irem, 1) := by decide +kernel
theorem dX9_feed_90 : decode cX9_feed 90 = .ok (.imul, 1) := by decide +kernel
theorem dX9_feed_91 : decode cX9_feed 91 = .ok (.isub, 1) := by decide +kernel
theorem dX9_feed_92 : decode cX9_feed 92 = .ok (.ishr, 1) := by decide +kernel
theorem dX9_feed_93 : decode cX9_feed 93 = .ok (.i2b, 1) := by decide +kernel
theorem dX9_feed_94 : decode cX9_feed 94 = .ok (.bastore, 1) := by decide +kernel
theorem dX9_feed_95 : decode cX9_feed 95 = .ok (.iinc 6 1, 3) := by decide +kernel
theorem dX9_feed_98 : decode cX9_feed 98 = .ok (.goto (-43), 3) := by decide +kernel
theorem dX9_feed_101 : decode cX9_feed 101 = .ok (.aload_n 0, 1) := by decide +kernel
theorem dX9_feed_102 : decode cX9_feed 102 = .ok (.dup, 1) := by decide +kernel
theorem dX9_feed_103 : decode cX9_feed 103 = .ok (.getfield 100, 3) := by decide +kernel
theorem dX9_feed_106 : decode cX9_feed 106 = .ok (.bipush 20, 2) := by decide +kernel
theorem dX9_feed_108 : decode cX9_feed 108 = .ok (.iadd, 1) := by decide +kernel
theorem dX9_feed_109 : decode cX9_feed 109 = .ok (.putfield 100, 3) := by decide +kernel
theorem dX9_feed_112 : decode cX9_feed 112 = .ok (.aload_n 0, 1) := by decide +kernel
theorem dX9_feed_113 : decode cX9_feed 113 = .ok (.getfield 100, 3) := by decide +kernel
theorem dX9_feed_116 : decode cX9_feed 116 = .ok (.ireturn, 1) := by decide +kernel
theorem dX9_flip_0 : decode cX9_flip 0 = .ok (.aload_n 0, 1) := by decide +kernel
theorem dX9_flip_1 : decode cX9_flip 1 = .ok (.iload_n 1, 1) := by decide +kernel
theorem dX9_flip_2 : decode cX9_flip 2 = .ok (.invokevirtual 272, 3) := by decide +kernel
theorem dX9_flip_5 : decode cX9_flip 5 = .ok (.ifCond .eq 7, 3) := by decide +kernel
theorem dX9_flip_8 : decode cX9_flip 8 = .ok (.iload_n 2, 1) := by decide +kernel
theorem dX9_flip_9 : decode cX9_flip 9 = .ok (.ifCond .ge 6, 3) := by decide +kernel
theorem dX9_flip_12 : decode cX9_flip 12 = .ok (.bipush (-2), 2) := by decide +kernel
theorem dX9_flip_14 : decode cX9_flip 14 = .ok (.ireturn, 1) := by decide +kernel
theorem dX9_flip_15 : decode cX9_flip 15 = .ok (.iload_n 2, 1) := by decide +kernel
theorem dX9_flip_16 : decode cX9_flip 16 = .ok (.aload_n 0, 1) := by decide +kernel
theorem dX9_flip_17 : decode cX9_flip 17 = .ok (.iload_n 1, 1) := by decide +kernel
theorem dX9_flip_18 : decode cX9_flip 18 = .ok (.invokevirtual 286, 3) := by decide +kernel
theorem dX9_flip_21 : decode cX9_flip 21 = .ok (.if_icmp .ge 12, 3) := by decide +kernel
theorem dX9_flip_24 : decode cX9_flip 24 = .ok (.aload_n 0, 1) := by decide +kernel
theorem dX9_flip_25 : decode cX9_flip 25 = .ok (.iload_n 1, 1) := by decide +kernel
theorem dX9_flip_26 : decode cX9_flip 26 = .ok (.iload_n 2, 1) := by decide +kernel
theorem dX9_flip_27 : decode cX9_flip 27 = .ok (.invokevirtual 299, 3) := by decide +kernel
theorem dX9_flip_30 : decode cX9_flip 30 = .ok (.goto 4, 3) := by decide +kernel
theorem dX9_flip_33 : decode cX9_flip 33 = .ok (.iconst (-1), 1) := by decide +kernel
theorem dX9_flip_34 : decode cX9_flip 34 = .ok (.ireturn, 1) := by decide +kernel
theorem dX9_from_0 : decode cX9_from 0 = .ok (.iload_n 2, 1) := by decide +kernel
theorem dX9_from_1 : decode cX9_from 1 = .ok (.ifCond .ge 8, 3) := by decide +kernel
theorem dX9_from_4 : decode cX9_from 4 = .ok (.bipush (-2), 2) := by decide +kernel
theorem dX9_from_6 : decode cX9_from 6 = .ok (.goto 8, 3) := by decide +kernel
theorem dX9_from_9 : decode cX9_from 9 = .ok (.aload_n 0, 1) := by decide +kernel
theorem dX9_from_10 : decode cX9_from 10 = .ok (.iload_n 1, 1) := by decide +kernel
theorem dX9_from_11 : decode cX9_from 11 = .ok (.invokevirtual 358, 3) := by decide +kernel
theorem dX9_from_14 : decode cX9_from 14 = .ok (.istore_n 3, 1) := by decide +kernel
theorem dX9_from_15 : decode cX9_from 15 = .ok (.iload_n 3, 1) := by decide +kernel
theorem dX9_from_16 : decode cX9_from 16 = .ok (.ifCond .ge 5, 3) := by decide +kernel
theorem dX9_from_19 : decode cX9_from 19 = .ok (.iload_n 3, 1) := by decide +kernel
theorem dX9_from_20 : decode cX9_from 20 = .ok (.ireturn, 1) := by decide +kernel
theorem dX9_from_21 : decode cX9_from 21 = .ok (.iconst 0, 1) := by decide +kernel
theorem dX9_from_22 : decode cX9_from 22 = .ok (.istore 4, 2) := by decide +kernel
theorem dX9_from_24 : decode cX9_from 24 = .ok (.iload 4, 2) := by decide +kernel
theorem dX9_from_26 : decode cX9_from 26 = .ok (.aload_n 0, 1) := by decide +kernel
theorem dX9_from_27 : decode cX9_from 27 = .ok (.getfield 316, 3) := by decide +kernel
theorem dX9_from_30 : decode cX9_from 30 = .ok (.if_icmp .ge 60, 3) := by decide +kernel
theorem dX9_from_33 : decode cX9_from 33 = .ok (.aload_n 0, 1) := by decide +kernel
theorem dX9_from_34 : decode cX9_from 34 = .ok (.getfield 52, 3) := by decide +kernel
theorem dX9_from_37 : decode cX9_from 37 = .ok (.iload 4, 2) := by decide +kernel
theorem dX9_from_39 : decode cX9_from 39 = .ok (.iaload, 1) := by decide +kernel
theorem dX9_from_40 : decode cX9_from 40 = .ok (.aload_n 0, 1) := by decide +kernel
theorem dX9_from_41 : decode cX9_from 41 = .ok (.getfield 355, 3) := by decide +kernel
theorem dX9_from_44 : decode cX9_from 44 = .ok (.if_icmp .eq 6, 3) := by decide +kernel
theorem dX9_from_47 : decode cX9_from 47 = .ok (.goto 37, 3) := by decide +kernel
theorem dX9_from_50 : decode cX9_from 50 = .ok (.bipush 15, 2) := by decide +kernel
theorem dX9_from_52 : decode cX9_from 52 = .ok (.iload 4, 2) := by decide +kernel
theorem dX9_from_54 : decode cX9_from 54 = .ok (.imul, 1) := by decide +kernel
theorem dX9_from_55 : decode cX9_from 55 = .ok (.istore 5, 2) := by decide +kernel
theorem dX9_from_57 : decode cX9_from 57 = .ok (.iload_n 2, 1) := by decide +kernel
theorem dX9_from_58 : decode cX9_from 58 = .ok (.aload_n 0, 1) := by decide +kernel
theorem dX9_from_59 : decode cX9_from 59 = .ok (.getfield 49, 3) := by decide +kernel
theorem dX9_from_62 : decode cX9_from 62 = .ok (.iload 5, 2) := by decide +kernel
theorem dX9_from_64 : decode cX9_from 64 = .ok (.iaload, 1) := by decide +kernel
theorem dX9_from_65 : decode cX9_from 65 = .ok (.if_icmp .ge 17, 3) := by decide +kernel
theorem dX9_from_68 : decode cX9_from 68 = .ok (.aload_n 0, 1) := by decide +kernel
theorem dX9_from_69 : decode cX9_from 69 = .ok (.getfield 49, 3) := by decide +kernel
theorem dX9_from_72 : decode cX9_from 72 = .ok (.iload 5, 2) := by decide +kernel
theorem dX9_from_74 : decode cX9_from 74 = .ok (.iconst 1, 1) := by decide +kernel
theorem dX9_from_75 : decode cX9_from 75 = .ok (.iadd, 1) := by decide +kernel
theorem dX9_from_76 : decode cX9_from 76 = .ok (.iload_n 2, 1) := by decide +kernel
theorem dX9_from_77 : decode cX9_from 77 = .ok (.iadd, 1) := by decide +kernel
theorem dX9_from_78 : decode cX9_from 78 = .ok (.iaload, 1) := by decide +kernel
theorem dX9_from_79 : decode cX9_from 79 = .ok (.goto 4, 3) := by decide +kernel
theorem dX9_from_82 : decode cX9_from 82 = .ok (.iconst (-1), 1) := by decide +kernel
theorem dX9_from_83 : decode cX9_from 83 = .ok (.ireturn, 1) := by decide +kernel
theorem dX9_from_84 : decode cX9_from 84 = .ok (.iinc 4 1, 3) := by decide +kernel
theorem dX9_from_87 : decode cX9_from 87 = .ok (.goto (-63), 3) := by decide +kernel
theorem dX9_from_90 : decode cX9_from 90 = .ok (.iconst (-1), 1) := by decide +kernel
theorem dX9_from_91 : decode cX9_from 91 = .ok (.ireturn, 1) := by decide +kernel
theorem dX9_gardens_0 : decode cX9_gardens 0 = .ok (.aload_n 0, 1) := by decide +kernel
theorem dX9_gardens_1 : decode cX9_gardens 1 = .ok (.iload_n 1, 1) := by decide +kernel
theorem dX9_gardens_2 : decode cX9_gardens 2 = .ok (.invokevirtual 342, 3) := by decide +kernel
theorem dX9_gardens_5 : decode cX9_gardens 5 = .ok (.ifCond .ne 6, 3) := by decide +kernel
theorem dX9_gardens_8 : decode cX9_gardens 8 = .ok (.bipush (-2), 2) := by decide +kernel
theorem dX9_gardens_10 : decode cX9_gardens 10 = .ok (.ireturn, 1) := by decide +kernel
theorem dX9_gardens_11 : decode cX9_gardens 11 = .ok (.iconst 0, 1) := by decide +kernel
theorem dX9_gardens_12 : decode cX9_gardens 12 = .ok (.istore_n 2, 1) := by decide +kernel
theorem dX9_gardens_13 : decode cX9_gardens 13 = .ok (.iconst 0, 1) := by decide +kernel
theorem dX9_gardens_14 : decode cX9_gardens 14 = .ok (.istore_n 3, 1) := by decide +kernel
theorem dX9_gardens_15 : decode cX9_gardens 15 = .ok (.iload_n 3, 1) := by decide +kernel
theorem dX9_gardens_16 : decode cX9_gardens 16 = .ok (.aload_n 0, 1) := by decide +kernel
theorem dX9_gardens_17 : decode cX9_gardens 17 = .ok (.getfield 316, 3) := by decide +kernel
theorem dX9_gardens_20 : decode cX9_gardens 20 = .ok (.if_icmp .ge 25, 3) := by decide +kernel
theorem dX9_gardens_23 : decode cX9_gardens 23 = .ok (.iload_n 2, 1) := by decide +kernel
theorem dX9_gardens_24 : decode cX9_gardens 24 = .ok (.aload_n 0, 1) := by decide +kernel
theorem dX9_gardens_25 : decode cX9_gardens 25 = .ok (.iload_n 3, 1) := by decide +kernel
theorem dX9_gardens_26 : decode cX9_gardens 26 = .ok (.invokevirtual 345, 3) := by decide +kernel
theorem dX9_gardens_29 : decode cX9_gardens 29 = .ok (.ifCond .ne 7, 3) := by decide +kernel
theorem dX9_gardens_32 : decode cX9_gardens 32 = .ok (.iconst 1, 1) := by decide +kernel
theorem dX9_gardens_33 : decode cX9_gardens 33 = .ok (.goto 4, 3) := by decide +kernel
theorem dX9_gardens_36 : decode cX9_gardens 36 = .ok (.iconst 0, 1) := by decide +kernel
theorem dX9_gardens_37 : decode cX9_gardens 37 = .ok (.iadd, 1) := by decide +kernel
theorem dX9_gardens_38 : decode cX9_gardens 38 = .ok (.istore_n 2, 1) := by decide +kernel
theorem dX9_gardens_39 : decode cX9_gardens 39 = .ok (.iinc 3 1, 3) := by decide +kernel
theorem dX9_gardens_42 : decode cX9_gardens 42 = .ok (.goto (-27), 3) := by decide +kernel
theorem dX9_gardens_45 : decode cX9_gardens 45 = .ok (.iload_n 2, 1) := by decide +kernel
theorem dX9_gardens_46 : decode cX9_gardens 46 = .ok (.ireturn, 1) := by decide +kernel
theorem dX9_gets_0 : decode cX9_gets 0 = .ok (.aload_n 0, 1) := by decide +kernel
theorem dX9_gets_1 : decode cX9_gets 1 = .ok (.iload_n 1, 1) := by decide +kernel
theorem dX9_gets_2 : decode cX9_gets 2 = .ok (.iload_n 2, 1) := by decide +kernel
theorem dX9_gets_3 : decode cX9_gets 3 = .ok (.invokevirtual 429, 3) := by decide +kernel
theorem dX9_gets_6 : decode cX9_gets 6 = .ok (.ifCond .eq 49, 3) := by decide +kernel
theorem dX9_gets_9 : decode cX9_gets 9 = .ok (.iload_n 3, 1) := by decide +kernel
theorem dX9_gets_10 : decode cX9_gets 10 = .ok (.i2l, 1) := by decide +kernel
theorem dX9_gets_11 : decode cX9_gets 11 = .ok (.lconst 0, 1) := by decide +kernel
theorem dX9_gets_12 : decode cX9_gets 12 = .ok (.lconst 1, 1) := by decide +kernel
theorem dX9_gets_13 : decode cX9_gets 13 = .ok (.invokestatic 85, 3) := by decide +kernel
theorem dX9_gets_16 : decode cX9_gets 16 = .ok (.ifCond .eq 39, 3) := by decide +kernel
theorem dX9_gets_19 : decode cX9_gets 19 = .ok (.iload 4, 2) := by decide +kernel
theorem dX9_gets_21 : decode cX9_gets 21 = .ok (.i2l, 1) := by decide +kernel
theorem dX9_gets_22 : decode cX9_gets 22 = .ok (.lconst 0, 1) := by decide +kernel
theorem dX9_gets_23 : decode cX9_gets 23 = .ok (.lconst 1, 1) := by decide +kernel
theorem dX9_gets_24 : decode cX9_gets 24 = .ok (.invokestatic 85, 3) := by decide +kernel
theorem dX9_gets_27 : decode cX9_gets 27 = .ok (.ifCond .eq 28, 3) := by decide +kernel
theorem dX9_gets_30 : decode cX9_gets 30 = .ok (.iload 5, 2) := by decide +kernel
theorem dX9_gets_32 : decode cX9_gets 32 = .ok (.i2l, 1) := by decide +kernel
theorem dX9_gets_33 : decode cX9_gets 33 = .ok (.lconst 0, 1) := by decide +kernel
theorem dX9_gets_34 : decode cX9_gets 34 = .ok (.lconst 1, 1) := by decide +kernel
theorem dX9_gets_35 : decode cX9_gets 35 = .ok (.invokestatic 85, 3) := by decide +kernel
theorem dX9_gets_38 : decode cX9_gets 38 = .ok (.ifCond .eq 17, 3) := by decide +kernel
theorem dX9_gets_41 : decode cX9_gets 41 = .ok (.aload_n 0, 1) := by decide +kernel
theorem dX9_gets_42 : decode cX9_gets 42 = .ok (.iload_n 1, 1) := by decide +kernel
theorem dX9_gets_43 : decode cX9_gets 43 = .ok (.iload_n 2, 1) := by decide +kernel
theorem dX9_gets_44 : decode cX9_gets 44 = .ok (.iload_n 3, 1) := by decide +kernel
theorem dX9_gets_45 : decode cX9_gets 45 = .ok (.iload 4, 2) := by decide +kernel
theorem dX9_gets_47 : decode cX9_gets 47 = .ok (.iload 5, 2) := by decide +kernel
theorem dX9_gets_49 : decode cX9_gets 49 = .ok (.invokevirtual 432, 3) := by decide +kernel
theorem dX9_gets_52 : decode cX9_gets 52 = .ok (.goto 6, 3) := by decide +kernel
theorem dX9_gets_55 : decode cX9_gets 55 = .ok (.sipush (-1000), 3) := by decide +kernel
theorem dX9_gets_58 : decode cX9_gets 58 = .ok (.ireturn, 1) := by decide +kernel
theorem dX9_goAll_0 : decode cX9_goAll 0 = .ok (.aload_n 0, 1) := by decide +kernel
theorem dX9_goAll_1 : decode cX9_goAll 1 = .ok (.bipush 17, 2) := by decide +kernel
theorem dX9_goAll_3 : decode cX9_goAll 3 = .ok (.invokevirtual 229, 3) := by decide +kernel
theorem dX9_goAll_6 : decode cX9_goAll 6 = .ok (.iconst 0, 1) := by decide +kernel
theorem dX9_goAll_7 : decode cX9_goAll 7 = .ok (.istore_n 1, 1) := by decide +kernel
theorem dX9_goAll_8 : decode cX9_goAll 8 = .ok (.iload_n 1, 1) := by decide +kernel
theorem dX9_goAll_9 : decode cX9_goAll 9 = .ok (.aload_n 0, 1) := by decide +kernel
theorem dX9_goAll_10 : decode cX9_goAll 10 = .ok (.getfield 9, 3) := by decide +kernel
theorem dX9_goAll_13 : decode cX9_goAll 13 = .ok (.iconst 3, 1) := by decide +kernel
theorem dX9_goAll_14 : decode cX9_goAll 14 = .ok (.iaload, 1) := by decide +kernel
theorem dX9_goAll_15 : decode cX9_goAll 15 = .ok (.if_icmp .ge 21, 3) := by decide +kernel
theorem dX9_goAll_18 : decode cX9_goAll 18 = .ok (.aload_n 0, 1) := by decide +kernel
theorem dX9_goAll_19 : decode cX9_goAll 19 = .ok (.bipush 17, 2) := by decide +kernel
theorem dX9_goAll_21 : decode cX9_goAll 21 = .ok (.aload_n 0, 1) := by decide +kernel
theorem dX9_goAll_22 : decode cX9_goAll 22 = .ok (.getfield 37, 3) := by decide +kernel
theorem dX9_goAll_25 : decode cX9_goAll 25 = .ok (.iload_n 1, 1) := by decide +kernel
theorem dX9_goAll_26 : decode cX9_goAll 26 = .ok (.iaload, 1) := by decide +kernel
theorem dX9_goAll_27 : decode cX9_goAll 27 = .ok (.invokevirtual 232, 3) := by decide +kernel
theorem dX9_goAll_30 : decode cX9_goAll 30 = .ok (.iinc 1 1, 3) := by decide +kernel
theorem dX9_goAll_33 : decode cX9_goAll 33 = .ok (.goto (-25), 3) := by decide +kernel
theorem dX9_goAll_36 : decode cX9_goAll 36 = .ok (.iconst 0, 1) := by decide +kernel
theorem dX9_goAll_37 : decode cX9_goAll 37 = .ok (.istore_n 1, 1) := by decide +kernel
theorem dX9_goAll_38 : decode cX9_goAll 38 = .ok (.iload_n 1, 1) := by decide +kernel
theorem dX9_goAll_39 : decode cX9_goAll 39 = .ok (.aload_n 0, 1) := by decide +kernel
theorem dX9_goAll_40 : decode cX9_goAll 40 = .ok (.invokevirtual 93, 3) := by decide +kernel
theorem dX9_goAll_43 : decode cX9_goAll 43 = .ok (.if_icmp .gt 77, 3) := by decide +kernel
theorem dX9_goAll_46 : decode cX9_goAll 46 = .ok (.aload_n 0, 1) := by decide +kernel
theorem dX9_goAll_47 : decode cX9_goAll 47 = .ok (.iload_n 1, 1) := by decide +kernel
theorem dX9_goAll_48 : decode cX9_goAll 48 = .ok (.invokevirtual 253, 3) := by decide +kernel
theorem dX9_goAll_51 : decode cX9_goAll 51 = .ok (.aload_n 0, 1) := by decide +kernel
theorem dX9_goAll_52 : decode cX9_goAll 52 = .ok (.bipush 17, 2) := by decide +kernel
theorem dX9_goAll_54 : decode cX9_goAll 54 = .ok (.iload_n 1, 1) := by decide +kernel
theorem dX9_goAll_55 : decode cX9_goAll 55 = .ok (.invokevirtual 225, 3) := by decide +kernel
theorem dX9_goAll_58 : decode cX9_goAll 58 = .ok (.iload_n 1, 1) := by decide +kernel
theorem dX9_goAll_59 : decode cX9_goAll 59 = .ok (.aload_n 0, 1) := by decide +kernel
theorem dX9_goAll_60 : decode cX9_goAll 60 = .ok (.invokevirtual 93, 3) := by decide +kernel
theorem dX9_goAll_63 : decode cX9_goAll 63 = .ok (.if_icmp .ne 4, 3) := by decide +kernel
theorem dX9_goAll_66 : decode cX9_goAll 66 = .ok (.return_, 1) := by decide +kernel
theorem dX9_goAll_67 : decode cX9_goAll 67 = .ok (.aload_n 0, 1) := by decide +kernel
theorem dX9_goAll_68 : decode cX9_goAll 68 = .ok (.iconst 0, 1) := by decide +kernel
theorem dX9_goAll_69 : decode cX9_goAll 69 = .ok (.putfield 216, 3) := by decide +kernel
theorem dX9_goAll_72 : decode cX9_goAll 72 = .ok (.aload_n 0, 1) := by decide +kernel
theorem dX9_goAll_73 : decode cX9_goAll 73 = .ok (.iconst 0, 1) := by decide +kernel
theorem dX9_goAll_74 : decode cX9_goAll 74 = .ok (.putfield 219, 3) := by decide +kernel
theorem dX9_goAll_77 : decode cX9_goAll 77 = .ok (.aload_n 0, 1) := by decide +kernel
theorem dX9_goAll_78 : decode cX9_goAll 78 = .ok (.getfield 235, 3) := by decide +kernel
theorem dX9_goAll_81 : decode cX9_goAll 81 = .ok (.iload_n 1, 1) := by decide +kernel
theorem dX9_goAll_82 : decode cX9_goAll 82 = .ok (.invokestatic 244, 3) := by decide +kernel
theorem dX9_goAll_85 : decode cX9_goAll 85 = .ok (.ifCond .ne 9, 3) := by decide +kernel
theorem dX9_goAll_88 : decode cX9_goAll 88 = .ok (.aload_n 0, 1) := by decide +kernel
theorem dX9_goAll_89 : decode cX9_goAll 89 = .ok (.bipush 17, 2) := by decide +kernel
theorem dX9_goAll_91 : decode cX9_goAll 91 = .ok (.invokevirtual 256, 3) := by decide +kernel
theorem dX9_goAll_94 : decode cX9_goAll 94 = .ok (.aload_n 0, 1) := by decide +kernel
theorem dX9_goAll_95 : decode cX9_goAll 95 = .ok (.getfield 43, 3) := by decide +kernel
theorem dX9_goAll_98 : decode cX9_goAll 98 = .ok (.iload_n 1, 1) := by decide +kernel
theorem dX9_goAll_99 : decode cX9_goAll 99 = .ok (.aload_n 0, 1) := by decide +kernel
theorem dX9_goAll_100 : decode cX9_goAll 100 = .ok (.getfield 216, 3) := by decide +kernel
theorem dX9_goAll_103 : decode cX9_goAll 103 = .ok (.iastore, 1) := by decide +kernel
theorem dX9_goAll_104 : decode cX9_goAll 104 = .ok (.aload_n 0, 1) := by decide +kernel
theorem dX9_goAll_105 : decode cX9_goAll 105 = .ok (.getfield 46, 3) := by decide +kernel
theorem dX9_goAll_108 : decode cX9_goAll 108 = .ok (.iload_n 1, 1) := by decide +kernel
theorem dX9_goAll_109 : decode cX9_goAll 109 = .ok (.aload_n 0, 1) := by decide +kernel
theorem dX9_goAll_110 : decode cX9_goAll 110 = .ok (.getfield 219, 3) := by decide +kernel
theorem dX9_goAll_113 : decode cX9_goAll 113 = .ok (.iastore, 1) := by decide +kernel
theorem dX9_goAll_114 : decode cX9_goAll 114 = .ok (.iinc 1 1, 3) := by decide +kernel
theorem dX9_goAll_117 : decode cX9_goAll 117 = .ok (.goto (-79), 3) := by decide +kernel
theorem dX9_goAll_120 : decode cX9_goAll 120 = .ok (.return_, 1) := by decide +kernel
theorem dX9_gone_0 : decode cX9_gone 0 = .ok (.aload_n 0, 1) := by decide +kernel
theorem dX9_gone_1 : decode cX9_gone 1 = .ok (.invokevirtual 265, 3) := by decide +kernel
theorem dX9_gone_4 : decode cX9_gone 4 = .ok (.pop, 1) := by decide +kernel
theorem dX9_gone_5 : decode cX9_gone 5 = .ok (.aload_n 0, 1) := by decide +kernel
theorem dX9_gone_6 : decode cX9_gone 6 = .ok (.iload_n 1, 1) := by decide +kernel
theorem dX9_gone_7 : decode cX9_gone 7 = .ok (.i2l, 1) := by decide +kernel
theorem dX9_gone_8 : decode cX9_gone 8 = .ok (.invokevirtual 280, 3) := by decide +kernel
theorem dX9_gone_11 : decode cX9_gone 11 = .ok (.ifCond .eq 12, 3) := by decide +kernel
theorem dX9_gone_14 : decode cX9_gone 14 = .ok (.aload_n 0, 1) := by decide +kernel
theorem dX9_gone_15 : decode cX9_gone 15 = .ok (.getfield 46, 3) := by decide +kernel
theorem dX9_gone_18 : decode cX9_gone 18 = .ok (.iload_n 1, 1) := by decide +kernel
theorem dX9_gone_19 : decode cX9_gone 19 = .ok (.iaload, 1) := by decide +kernel
theorem dX9_gone_20 : decode cX9_gone 20 = .ok (.goto 5, 3) := by decide +kernel
theorem dX9_gone_23 : decode cX9_gone 23 = .ok (.bipush (-2), 2) := by decide +kernel
theorem dX9_gone_25 : decode cX9_gone 25 = .ok (.ireturn, 1) := by decide +kernel
theorem dX9_good_0 : decode cX9_good 0 = .ok (.aload_n 0, 1) := by decide +kernel
theorem dX9_good_1 : decode cX9_good 1 = .ok (.getfield 137, 3) := by decide +kernel
theorem dX9_good_4 : decode cX9_good 4 = .ok (.ifCond .ne 7, 3) := by decide +kernel
theorem dX9_good_7 : decode cX9_good 7 = .ok (.iconst 1, 1) := by decide +kernel
theorem dX9_good_8 : decode cX9_good 8 = .ok (.goto 4, 3) := by decide +kernel
theorem dX9_good_11 : decode cX9_good 11 = .ok (.iconst 0, 1) := by decide +kernel
theorem dX9_good_12 : decode cX9_good 12 = .ok (.ireturn, 1) := by decide +kernel
theorem dX9_greatest_0 : decode cX9_greatest 0 = .ok (.aload_n 0, 1) := by decide +kernel
theorem dX9_greatest_1 : decode cX9_greatest 1 = .ok (.iload_n 1, 1) := by decide +kernel
theorem dX9_greatest_2 : decode cX9_greatest 2 = .ok (.iload_n 2, 1) := by decide +kernel
theorem dX9_greatest_3 : decode cX9_greatest 3 = .ok (.invokevirtual 378, 3) := by decide +kernel
theorem dX9_greatest_6 : decode cX9_greatest 6 = .ok (.istore_n 3, 1) := by decide +kernel
theorem dX9_greatest_7 : decode cX9_greatest 7 = .ok (.iload_n 3, 1) := by decide +kernel
theorem dX9_greatest_8 : decode cX9_greatest 8 = .ok (.ifCond .ge 7, 3) := by decide +kernel
theorem dX9_greatest_11 : decode cX9_greatest 11 = .ok (.iload_n 3, 1) := by decide +kernel
theorem dX9_greatest_12 : decode cX9_greatest 12 = .ok (.goto 25, 3) := by decide +kernel
theorem dX9_greatest_15 : decode cX9_greatest 15 = .ok (.aload_n 0, 1) := by decide +kernel
theorem dX9_greatest_16 : decode cX9_greatest 16 = .ok (.getfield 372, 3) := by decide +kernel
theorem dX9_greatest_19 : decode cX9_greatest 19 = .ok (.ifCond .ne 7, 3) := by decide +kernel
theorem dX9_greatest_22 : decode cX9_greatest 22 = .ok (.iconst (-1), 1) := by decide +kernel
theorem dX9_greatest_23 : decode cX9_greatest 23 = .ok (.goto 14, 3) := by decide +kernel
theorem dX9_greatest_26 : decode cX9_greatest 26 = .ok (.aload_n 0, 1) := by decide +kernel
theorem dX9_greatest_27 : decode cX9_greatest 27 = .ok (.getfield 58, 3) := by decide +kernel
theorem dX9_greatest_30 : decode cX9_greatest 30 = .ok (.aload_n 0, 1) := by decide +kernel
theorem dX9_greatest_31 : decode cX9_greatest 31 = .ok (.getfield 372, 3) := by decide +kernel
theorem dX9_greatest_34 : decode cX9_greatest 34 = .ok (.iconst 1, 1) := by decide +kernel
theorem dX9_greatest_35 : decode cX9_greatest 35 = .ok (.isub, 1) := by decide +kernel
theorem dX9_greatest_36 : decode cX9_greatest 36 = .ok (.iaload, 1) := by decide +kernel
theorem dX9_greatest_37 : decode cX9_greatest 37 = .ok (.ireturn, 1) := by decide +kernel
theorem dX9_heap_0 : decode cX9_heap 0 = .ok (.aload_n 0, 1) := by decide +kernel
theorem dX9_heap_1 : decode cX9_heap 1 = .ok (.iload_n 1, 1) := by decide +kernel
theorem dX9_heap_2 : decode cX9_heap 2 = .ok (.invokevirtual 272, 3) := by decide +kernel
theorem dX9_heap_5 : decode cX9_heap 5 = .ok (.ifCond .eq 7, 3) := by decide +kernel
theorem dX9_heap_8 : decode cX9_heap 8 = .ok (.iload_n 2, 1) := by decide +kernel
theorem dX9_heap_9 : decode cX9_heap 9 = .ok (.ifCond .ge 6, 3) := by decide +kernel
theorem dX9_heap_12 : decode cX9_heap 12 = .ok (.bipush (-2), 2) := by decide +kernel
theorem dX9_heap_14 : decode cX9_heap 14 = .ok (.ireturn, 1) := by decide +kernel
theorem dX9_heap_15 : decode cX9_heap 15 = .ok (.iload_n 2, 1) := by decide +kernel
theorem dX9_heap_16 : decode cX9_heap 16 = .ok (.aload_n 0, 1) := by decide +kernel
theorem dX9_heap_17 : decode cX9_heap 17 = .ok (.iload_n 1, 1) := by decide +kernel
theorem dX9_heap_18 : decode cX9_heap 18 = .ok (.invokevirtual 207, 3) := by decide +kernel
theorem dX9_heap_21 : decode cX9_heap 21 = .ok (.if_icmp .ge 12, 3) := by decide +kernel
theorem dX9_heap_24 : decode cX9_heap 24 = .ok (.aload_n 0, 1) := by decide +kernel
theorem dX9_heap_25 : decode cX9_heap 25 = .ok (.iload_n 1, 1) := by decide +kernel
theorem dX9_heap_26 : decode cX9_heap 26 = .ok (.iload_n 2, 1) := by decide +kernel
theorem dX9_heap_27 : decode cX9_heap 27 = .ok (.invokevirtual 210, 3) := by decide +kernel
theorem dX9_heap_30 : decode cX9_heap 30 = .ok (.goto 4, 3) := by decide +kernel
theorem dX9_heap_33 : decode cX9_heap 33 = .ok (.iconst (-1), 1) := by decide +kernel
theorem dX9_heap_34 : decode cX9_heap 34 = .ok (.ireturn, 1) := by decide +kernel
theorem dX9_heaps_0 : decode cX9_heaps 0 = .ok (.aload_n 0, 1) := by decide +kernel
theorem dX9_heaps_1 : decode cX9_heaps 1 = .ok (.iload_n 1, 1) := by decide +kernel
theorem dX9_heaps_2 : decode cX9_heaps 2 = .ok (.invokevirtual 272, 3) := by decide +kernel
theorem dX9_heaps_5 : decode cX9_heaps 5 = .ok (.ifCond .eq 11, 3) := by decide +kernel
theorem dX9_heaps_8 : decode cX9_heaps 8 = .ok (.aload_n 0, 1) := by decide +kernel
theorem dX9_heaps_9 : decode cX9_heaps 9 = .ok (.iload_n 1, 1) := by decide +kernel
theorem dX9_heaps_10 : decode cX9_heaps 10 = .ok (.invokevirtual 207, 3) := by decide +kernel
theorem dX9_heaps_13 : decode cX9_heaps 13 = .ok (.goto 5, 3) := by decide +kernel
theorem dX9_heaps_16 : decode cX9_heaps 16 = .ok (.bipush (-2), 2) := by decide +kernel
theorem dX9_heaps_18 : decode cX9_heaps 18 = .ok (.ireturn, 1) := by decide +kernel
theorem dX9_heights_0 : decode cX9_heights 0 = .ok (.aload_n 0, 1) := by decide +kernel
theorem dX9_heights_1 : decode cX9_heights 1 = .ok (.iload_n 1, 1) := by decide +kernel
theorem dX9_heights_2 : decode cX9_heights 2 = .ok (.iload_n 2, 1) := by decide +kernel
theorem dX9_heights_3 : decode cX9_heights 3 = .ok (.invokevirtual 378, 3) := by decide +kernel
theorem dX9_heights_6 : decode cX9_heights 6 = .ok (.istore_n 3, 1) := by decide +kernel
theorem dX9_heights_7 : decode cX9_heights 7 = .ok (.iload_n 3, 1) := by decide +kernel
theorem dX9_heights_8 : decode cX9_heights 8 = .ok (.ifCond .ge 7, 3) := by decide +kernel
theorem dX9_heights_11 : decode cX9_heights 11 = .ok (.iload_n 3, 1) := by decide +kernel
theorem dX9_heights_12 : decode cX9_heights 12 = .ok (.goto 7, 3) := by decide +kernel
theorem dX9_heights_15 : decode cX9_heights 15 = .ok (.aload_n 0, 1) := by decide +kernel
theorem dX9_heights_16 : decode cX9_heights 16 = .ok (.getfield 372, 3) := by decide +kernel
theorem dX9_heights_19 : decode cX9_heights 19 = .ok (.ireturn, 1) := by decide +kernel
theorem dX9_image_0 : decode cX9_image 0 = .ok (.iload_n 1, 1) := by decide +kernel
theorem dX9_image_1 : decode cX9_image 1 = .ok (.i2l, 1) := by decide +kernel
theorem dX9_image_2 : decode cX9_image 2 = .ok (.lconst 0, 1) := by decide +kernel
theorem dX9_image_3 : decode cX9_image 3 = .ok (.ldc2_w 83, 3) := by decide +kernel
theorem dX9_image_6 : decode cX9_image 6 = .ok (.invokestatic 85, 3) := by decide +kernel
theorem dX9_image_9 : decode cX9_image 9 = .ok (.ifCond .ne 6, 3) := by decide +kernel
theorem dX9_image_12 : decode cX9_image 12 = .ok (.bipush (-2), 2) := by decide +kernel
theorem dX9_image_14 : decode cX9_image 14 = .ok (.ireturn, 1) := by decide +kernel
theorem dX9_image_15 : decode cX9_image 15 = .ok (.iconst 0, 1) := by decide +kernel
theorem dX9_image_16 : decode cX9_image 16 = .ok (.istore_n 2, 1) := by decide +kernel
theorem dX9_image_17 : decode cX9_image 17 = .ok (.iload_n 2, 1) := by decide +kernel
theorem dX9_image_18 : decode cX9_image 18 = .ok (.bipush 47, 2) := by decide +kernel
theorem dX9_image_20 : decode cX9_image 20 = .ok (.if_icmp .ge 26, 3) := by decide +kernel
theorem dX9_image_23 : decode cX9_image 23 = .ok (.aload_n 0, 1) := by decide +kernel
theorem dX9_image_24 : decode cX9_image 24 = .ok (.getfield 13, 3) := by decide +kernel
theorem dX9_image_27 : decode cX9_image 27 = .ok (.bipush 47, 2) := by decide +kernel
theorem dX9_image_29 : decode cX9_image 29 = .ok (.iload_n 1, 1) := by decide +kernel
theorem dX9_image_30 : decode cX9_image 30 = .ok (.imul, 1) := by decide +kernel
theorem dX9_image_31 : decode cX9_image 31 = .ok (.iload_n 2, 1) := by decide +kernel
theorem dX9_image_32 : decode cX9_image 32 = .ok (.iadd, 1) := by decide +kernel
theorem dX9_image_33 : decode cX9_image 33 = .ok (.aload_n 0, 1) := by decide +kernel
theorem dX9_image_34 : decode cX9_image 34 = .ok (.getfield 9, 3) := by decide +kernel
theorem dX9_image_37 : decode cX9_image 37 = .ok (.iload_n 2, 1) := by decide +kernel
theorem dX9_image_38 : decode cX9_image 38 = .ok (.iaload, 1) := by decide +kernel
theorem dX9_image_39 : decode cX9_image 39 = .ok (.iastore, 1) := by decide +kernel
theorem dX9_image_40 : decode cX9_image 40 = .ok (.iinc 2 1, 3) := by decide +kernel
theorem dX9_image_43 : decode cX9_image 43 = .ok (.goto (-26), 3) := by decide +kernel
theorem dX9_image_46 : decode cX9_image 46 = .ok (.aload_n 0, 1) := by decide +kernel
theorem dX9_image_47 : decode cX9_image 47 = .ok (.getfield 16, 3) := by decide +kernel
theorem dX9_image_50 : decode cX9_image 50 = .ok (.iload_n 1, 1) := by decide +kernel
theorem dX9_image_51 : decode cX9_image 51 = .ok (.iconst 1, 1) := by decide +kernel
theorem dX9_image_52 : decode cX9_image 52 = .ok (.bastore, 1) := by decide +kernel
theorem dX9_image_53 : decode cX9_image 53 = .ok (.iconst 0, 1) := by decide +kernel
theorem dX9_image_54 : decode cX9_image 54 = .ok (.ireturn, 1) := by decide +kernel
theorem dX9_in_0 : decode cX9_in 0 = .ok (.lload_n 0, 1) := by decide +kernel
theorem dX9_in_1 : decode cX9_in 1 = .ok (.lload_n 2, 1) := by decide +kernel
theorem dX9_in_2 : decode cX9_in 2 = .ok (.lcmp, 1) := by decide +kernel
theorem dX9_in_3 : decode cX9_in 3 = .ok (.ifCond .lt 14, 3) := by decide +kernel
theorem dX9_in_6 : decode cX9_in 6 = .ok (.lload_n 0, 1) := by decide +kernel
theorem dX9_in_7 : decode cX9_in 7 = .ok (.lload 4, 2) := by decide +kernel
theorem dX9_in_9 : decode cX9_in 9 = .ok (.lcmp, 1) := by decide +kernel
theorem dX9_in_10 : decode cX9_in 10 = .ok (.ifCond .gt 7, 3) := by decide +kernel
theorem dX9_in_13 : decode cX9_in 13 = .ok (.iconst 1, 1) := by decide +kernel
theorem dX9_in_14 : decode cX9_in 14 = .ok (.goto 4, 3) := by decide +kernel
theorem dX9_in_17 : decode cX9_in 17 = .ok (.iconst 0, 1) := by decide +kernel
theorem dX9_in_18 : decode cX9_in 18 = .ok (.ireturn, 1) := by decide +kernel
theorem dX9_isAhead_0 : decode cX9_isAhead 0 = .ok (.aload_n 0, 1) := by decide +kernel
theorem dX9_isAhead_1 : decode cX9_isAhead 1 = .ok (.invokevirtual 89, 3) := by decide +kernel
theorem dX9_isAhead_4 : decode cX9_isAhead 4 = .ok (.ifCond .eq 22, 3) := by decide +kernel
theorem dX9_isAhead_7 : decode cX9_isAhead 7 = .ok (.lload_n 1, 1) := by decide +kernel
theorem dX9_isAhead_8 : decode cX9_isAhead 8 = .ok (.lconst 0, 1) := by decide +kernel
theorem dX9_isAhead_9 : decode cX9_isAhead 9 = .ok (.aload_n 0, 1) := by decide +kernel
theorem dX9_isAhead_10 : decode cX9_isAhead 10 = .ok (.invokevirtual 93, 3) := by decide +kernel
theorem dX9_isAhead_13 : decode cX9_isAhead 13 = .ok (.iconst 1, 1) := by decide +kernel
theorem dX9_isAhead_14 : decode cX9_isAhead 14 = .ok (.isub, 1) := by decide +kernel
theorem dX9_isAhead_15 : decode cX9_isAhead 15 = .ok (.i2l, 1) := by decide +kernel
theorem dX9_isAhead_16 : decode cX9_isAhead 16 = .ok (.invokestatic 85, 3) := by decide +kernel
theorem dX9_isAhead_19 : decode cX9_isAhead 19 = .ok (.ifCond .eq 7, 3) := by decide +kernel
theorem dX9_isAhead_22 : decode cX9_isAhead 22 = .ok (.iconst 1, 1) := by decide +kernel
theorem dX9_isAhead_23 : decode cX9_isAhead 23 = .ok (.goto 4, 3) := by decide +kernel
theorem dX9_isAhead_26 : decode cX9_isAhead 26 = .ok (.iconst 0, 1) := by decide +kernel
theorem dX9_isAhead_27 : decode cX9_isAhead 27 = .ok (.ireturn, 1) := by decide +kernel
theorem dX9_isCart_0 : decode cX9_isCart 0 = .ok (.iload_n 1, 1) := by decide +kernel
theorem dX9_isCart_1 : decode cX9_isCart 1 = .ok (.i2l, 1) := by decide +kernel
theorem dX9_isCart_2 : decode cX9_isCart 2 = .ok (.lconst 0, 1) := by decide +kernel
theorem dX9_isCart_3 : decode cX9_isCart 3 = .ok (.aload_n 0, 1) := by decide +kernel
theorem dX9_isCart_4 : decode cX9_isCart 4 = .ok (.invokevirtual 97, 3) := by decide +kernel
theorem dX9_isCart_7 : decode cX9_isCart 7 = .ok (.iconst 1, 1) := by decide +kernel
theorem dX9_isCart_8 : decode cX9_isCart 8 = .ok (.isub, 1) := by decide +kernel
theorem dX9_isCart_9 : decode cX9_isCart 9 = .ok (.i2l, 1) := by decide +kernel
theorem dX9_isCart_10 : decode cX9_isCart 10 = .ok (.invokestatic 85, 3) := by decide +kernel
theorem dX9_isCart_13 : decode cX9_isCart 13 = .ok (.ireturn, 1) := by decide +kernel
theorem dX9_isDay_0 : decode cX9_isDay 0 = .ok (.aload_n 0, 1) := by decide +kernel
theorem dX9_isDay_1 : decode cX9_isDay 1 = .ok (.invokevirtual 89, 3) := by decide +kernel
theorem dX9_isDay_4 : decode cX9_isDay 4 = .ok (.ifCond .eq 20, 3) := by decide +kernel
theorem dX9_isDay_7 : decode cX9_isDay 7 = .ok (.lload_n 1, 1) := by decide +kernel
theorem dX9_isDay_8 : decode cX9_isDay 8 = .ok (.lconst 0, 1) := by decide +kernel
theorem dX9_isDay_9 : decode cX9_isDay 9 = .ok (.aload_n 0, 1) := by decide +kernel
theorem dX9_isDay_10 : decode cX9_isDay 10 = .ok (.invokevirtual 93, 3) := by decide +kernel
theorem dX9_isDay_13 : decode cX9_isDay 13 = .ok (.i2l, 1) := by decide +kernel
theorem dX9_isDay_14 : decode cX9_isDay 14 = .ok (.invokestatic 85, 3) := by decide +kernel
theorem dX9_isDay_17 : decode cX9_isDay 17 = .ok (.ifCond .eq 7, 3) := by decide +kernel
theorem dX9_isDay_20 : decode cX9_isDay 20 = .ok (.iconst 1, 1) := by decide +kernel
theorem dX9_isDay_21 : decode cX9_isDay 21 = .ok (.goto 4, 3) := by decide +kernel
theorem dX9_isDay_24 : decode cX9_isDay 24 = .ok (.iconst 0, 1) := by decide +kernel
theorem dX9_isDay_25 : decode cX9_isDay 25 = .ok (.ireturn, 1) := by decide +kernel
theorem dX9_isHeap_0 : decode cX9_isHeap 0 = .ok (.iload_n 1, 1) := by decide +kernel
theorem dX9_isHeap_1 : decode cX9_isHeap 1 = .ok (.i2l, 1) := by decide +kernel
theorem dX9_isHeap_2 : decode cX9_isHeap 2 = .ok (.lconst 0, 1) := by decide +kernel
theorem dX9_isHeap_3 : decode cX9_isHeap 3 = .ok (.aload_n 0, 1) := by decide +kernel
theorem dX9_isHeap_4 : decode cX9_isHeap 4 = .ok (.getfield 9, 3) := by decide +kernel
theorem dX9_isHeap_7 : decode cX9_isHeap 7 = .ok (.iconst 3, 1) := by decide +kernel
theorem dX9_isHeap_8 : decode cX9_isHeap 8 = .ok (.iaload, 1) := by decide +kernel
theorem dX9_isHeap_9 : decode cX9_isHeap 9 = .ok (.iconst 1, 1) := by decide +kernel
theorem dX9_isHeap_10 : decode cX9_isHeap 10 = .ok (.isub, 1) := by decide +kernel
theorem dX9_isHeap_11 : decode cX9_isHeap 11 = .ok (.i2l, 1) := by decide +kernel
theorem dX9_isHeap_12 : decode cX9_isHeap 12 = .ok (.invokestatic 85, 3) := by decide +kernel
theorem dX9_isHeap_15 : decode cX9_isHeap 15 = .ok (.ireturn, 1) := by decide +kernel
theorem dX9_isMoor_0 : decode cX9_isMoor 0 = .ok (.aload_n 0, 1) := by decide +kernel
theorem dX9_isMoor_1 : decode cX9_isMoor 1 = .ok (.getfield 9, 3) := by decide +kernel
theorem dX9_isMoor_4 : decode cX9_isMoor 4 = .ok (.bipush 6, 2) := by decide +kernel
theorem dX9_isMoor_6 : decode cX9_isMoor 6 = .ok (.iaload, 1) := by decide +kernel
theorem dX9_isMoor_7 : decode cX9_isMoor 7 = .ok (.ifCond .le 7, 3) := by decide +kernel
theorem dX9_isMoor_10 : decode cX9_isMoor 10 = .ok (.iconst 1, 1) := by decide +kernel
theorem dX9_isMoor_11 : decode cX9_isMoor 11 = .ok (.goto 4, 3) := by decide +kernel
theorem dX9_isMoor_14 : decode cX9_isMoor 14 = .ok (.iconst 0, 1) := by decide +kernel
theorem dX9_isMoor_15 : decode cX9_isMoor 15 = .ok (.ireturn, 1) := by decide +kernel
theorem dX9_isSlot_0 : decode cX9_isSlot 0 = .ok (.iload_n 0, 1) := by decide +kernel
theorem dX9_isSlot_1 : decode cX9_isSlot 1 = .ok (.i2l, 1) := by decide +kernel
theorem dX9_isSlot_2 : decode cX9_isSlot 2 = .ok (.lconst 0, 1) := by decide +kernel
theorem dX9_isSlot_3 : decode cX9_isSlot 3 = .ok (.ldc2_w 390, 3) := by decide +kernel
theorem dX9_isSlot_6 : decode cX9_isSlot 6 = .ok (.invokestatic 85, 3) := by decide +kernel
theorem dX9_isSlot_9 : decode cX9_isSlot 9 = .ok (.ireturn, 1) := by decide +kernel
theorem dX9_isWet_0 : decode cX9_isWet 0 = .ok (.aload_n 0, 1) := by decide +kernel
theorem dX9_isWet_1 : decode cX9_isWet 1 = .ok (.iload_n 1, 1) := by decide +kernel
theorem dX9_isWet_2 : decode cX9_isWet 2 = .ok (.i2l, 1) := by decide +kernel
theorem dX9_isWet_3 : decode cX9_isWet 3 = .ok (.invokevirtual 280, 3) := by decide +kernel
theorem dX9_isWet_6 : decode cX9_isWet 6 = .ok (.ifCond .eq 23, 3) := by decide +kernel
theorem dX9_isWet_9 : decode cX9_isWet 9 = .ok (.iload_n 1, 1) := by decide +kernel
theorem dX9_isWet_10 : decode cX9_isWet 10 = .ok (.bipush 7, 2) := by decide +kernel
theorem dX9_isWet_12 : decode cX9_isWet 12 = .ok (.if_icmp .gt 17, 3) := by decide +kernel
theorem dX9_isWet_15 : decode cX9_isWet 15 = .ok (.iload_n 2, 1) := by decide +kernel
theorem dX9_isWet_16 : decode cX9_isWet 16 = .ok (.i2l, 1) := by decide +kernel
theorem dX9_isWet_17 : decode cX9_isWet 17 = .ok (.lconst 0, 1) := by decide +kernel
theorem dX9_isWet_18 : decode cX9_isWet 18 = .ok (.lconst 1, 1) := by decide +kernel
theorem dX9_isWet_19 : decode cX9_isWet 19 = .ok (.invokestatic 85, 3) := by decide +kernel
theorem dX9_isWet_22 : decode cX9_isWet 22 = .ok (.ifCond .eq 7, 3) := by decide +kernel
theorem dX9_isWet_25 : decode cX9_isWet 25 = .ok (.iconst 1, 1) := by decide +kernel
theorem dX9_isWet_26 : decode cX9_isWet 26 = .ok (.goto 4, 3) := by decide +kernel
theorem dX9_isWet_29 : decode cX9_isWet 29 = .ok (.iconst 0, 1) := by decide +kernel
theorem dX9_isWet_30 : decode cX9_isWet 30 = .ok (.ireturn, 1) := by decide +kernel
theorem dX9_later_0 : decode cX9_later 0 = .ok (.aload_n 0, 1) := by decide +kernel
theorem dX9_later_1 : decode cX9_later 1 = .ok (.iload_n 1, 1) := by decide +kernel
theorem dX9_later_2 : decode cX9_later 2 = .ok (.invokevirtual 272, 3) := by decide +kernel
theorem dX9_later_5 : decode cX9_later 5 = .ok (.ifCond .eq 19, 3) := by decide +kernel
theorem dX9_later_8 : decode cX9_later 8 = .ok (.iload_n 2, 1) := by decide +kernel
theorem dX9_later_9 : decode cX9_later 9 = .ok (.i2l, 1) := by decide +kernel
theorem dX9_later_10 : decode cX9_later 10 = .ok (.lconst 0, 1) := by decide +kernel
theorem dX9_later_11 : decode cX9_later 11 = .ok (.ldc2_w 314, 3) := by decide +kernel
theorem dX9_later_14 : decode cX9_later 14 = .ok (.invokestatic 85, 3) := by decide +kernel
theorem dX9_later_17 : decode cX9_later 17 = .ok (.ifCond .eq 7, 3) := by decide +kernel
theorem dX9_later_20 : decode cX9_later 20 = .ok (.iload_n 3, 1) := by decide +kernel
theorem dX9_later_21 : decode cX9_later 21 = .ok (.ifCond .ge 6, 3) := by decide +kernel
theorem dX9_later_24 : decode cX9_later 24 = .ok (.bipush (-2), 2) := by decide +kernel
theorem dX9_later_26 : decode cX9_later 26 = .ok (.ireturn, 1) := by decide +kernel
theorem dX9_later_27 : decode cX9_later 27 = .ok (.aload_n 0, 1) := by decide +kernel
theorem dX9_later_28 : decode cX9_later 28 = .ok (.iload_n 1, 1) := by decide +kernel
theorem dX9_later_29 : decode cX9_later 29 = .ok (.bipush 18, 2) := by decide +kernel
theorem dX9_later_31 : decode cX9_later 31 = .ok (.invokevirtual 225, 3) := by decide +kernel
theorem dX9_later_34 : decode cX9_later 34 = .ok (.iconst 0, 1) := by decide +kernel
theorem dX9_later_35 : decode cX9_later 35 = .ok (.istore 4, 2) := by decide +kernel
theorem dX9_later_37 : decode cX9_later 37 = .ok (.iload 4, 2) := by decide +kernel
theorem dX9_later_39 : decode cX9_later 39 = .ok (.iload_n 2, 1) := by decide +kernel
theorem dX9_later_40 : decode cX9_later 40 = .ok (.if_icmp .ge 15, 3) := by decide +kernel
theorem dX9_later_43 : decode cX9_later 43 = .ok (.aload_n 0, 1) := by decide +kernel
theorem dX9_later_44 : decode cX9_later 44 = .ok (.bipush 18, 2) := by decide +kernel
theorem dX9_later_46 : decode cX9_later 46 = .ok (.invokevirtual 256, 3) := by decide +kernel
theorem dX9_later_49 : decode cX9_later 49 = .ok (.iinc 4 1, 3) := by decide +kernel
theorem dX9_later_52 : decode cX9_later 52 = .ok (.goto (-15), 3) := by decide +kernel
theorem dX9_later_55 : decode cX9_later 55 = .ok (.iload_n 3, 1) := by decide +kernel
theorem dX9_later_56 : decode cX9_later 56 = .ok (.aload_n 0, 1) := by decide +kernel
theorem dX9_later_57 : decode cX9_later 57 = .ok (.bipush 18, 2) := by decide +kernel
theorem dX9_later_59 : decode cX9_later 59 = .ok (.invokevirtual 207, 3) := by decide +kernel
theorem dX9_later_62 : decode cX9_later 62 = .ok (.if_icmp .ge 13, 3) := by decide +kernel
theorem dX9_later_65 : decode cX9_later 65 = .ok (.aload_n 0, 1) := by decide +kernel
theorem dX9_later_66 : decode cX9_later 66 = .ok (.bipush 18, 2) := by decide +kernel
theorem dX9_later_68 : decode cX9_later 68 = .ok (.iload_n 3, 1) := by decide +kernel
theorem dX9_later_69 : decode cX9_later 69 = .ok (.invokevirtual 210, 3) := by decide +kernel
theorem dX9_later_72 : decode cX9_later 72 = .ok (.goto 4, 3) := by decide +kernel
theorem dX9_later_75 : decode cX9_later 75 = .ok (.iconst (-1), 1) := by decide +kernel
theorem dX9_later_76 : decode cX9_later 76 = .ok (.ireturn, 1) := by decide +kernel
theorem dX9_latest_0 : decode cX9_latest 0 = .ok (.aload_n 0, 1) := by decide +kernel
theorem dX9_latest_1 : decode cX9_latest 1 = .ok (.invokevirtual 265, 3) := by decide +kernel
theorem dX9_latest_4 : decode cX9_latest 4 = .ok (.ifCond .eq 15, 3) := by decide +kernel
theorem dX9_latest_7 : decode cX9_latest 7 = .ok (.iload_n 1, 1) := by decide +kernel
theorem dX9_latest_8 : decode cX9_latest 8 = .ok (.i2l, 1) := by decide +kernel
theorem dX9_latest_9 : decode cX9_latest 9 = .ok (.lconst 0, 1) := by decide +kernel
theorem dX9_latest_10 : decode cX9_latest 10 = .ok (.ldc2_w 364, 3) := by decide +kernel
theorem dX9_latest_13 : decode cX9_latest 13 = .ok (.invokestatic 85, 3) := by decide +kernel
theorem dX9_latest_16 : decode cX9_latest 16 = .ok (.ifCond .ne 6, 3) := by decide +kernel
theorem dX9_latest_19 : decode cX9_latest 19 = .ok (.bipush (-2), 2) := by decide +kernel
theorem dX9_latest_21 : decode cX9_latest 21 = .ok (.ireturn, 1) := by decide +kernel
theorem dX9_latest_22 : decode cX9_latest 22 = .ok (.aload_n 0, 1) := by decide +kernel
theorem dX9_latest_23 : decode cX9_latest 23 = .ok (.invokevirtual 361, 3) := by decide +kernel
theorem dX9_latest_26 : decode cX9_latest 26 = .ok (.iload_n 1, 1) := by decide +kernel
theorem dX9_latest_27 : decode cX9_latest 27 = .ok (.if_icmp .lt 5, 3) := by decide +kernel
theorem dX9_latest_30 : decode cX9_latest 30 = .ok (.iconst (-1), 1) := by decide +kernel
theorem dX9_latest_31 : decode cX9_latest 31 = .ok (.ireturn, 1) := by decide +kernel
theorem dX9_latest_32 : decode cX9_latest 32 = .ok (.aload_n 0, 1) := by decide +kernel
theorem dX9_latest_33 : decode cX9_latest 33 = .ok (.invokevirtual 93, 3) := by decide +kernel
theorem dX9_latest_36 : decode cX9_latest 36 = .ok (.iconst 1, 1) := by decide +kernel
theorem dX9_latest_37 : decode cX9_latest 37 = .ok (.isub, 1) := by decide +kernel
theorem dX9_latest_38 : decode cX9_latest 38 = .ok (.istore_n 2, 1) := by decide +kernel
theorem dX9_latest_39 : decode cX9_latest 39 = .ok (.iload_n 2, 1) := by decide +kernel
theorem dX9_latest_40 : decode cX9_latest 40 = .ok (.ifCond .lt 20, 3) := by decide +kernel
theorem dX9_latest_43 : decode cX9_latest 43 = .ok (.aload_n 0, 1) := by decide +kernel
theorem dX9_latest_44 : decode cX9_latest 44 = .ok (.iload_n 2, 1) := by decide +kernel
theorem dX9_latest_45 : decode cX9_latest 45 = .ok (.bipush 20, 2) := by decide +kernel
theorem dX9_latest_47 : decode cX9_latest 47 = .ok (.invokevirtual 366, 3) := by decide +kernel
theorem dX9_latest_50 : decode cX9_latest 50 = .ok (.iload_n 1, 1) := by decide +kernel
theorem dX9_latest_51 : decode cX9_latest 51 = .ok (.if_icmp .ge 9, 3) := by decide +kernel
theorem dX9_latest_54 : decode cX9_latest 54 = .ok (.iinc 2 (-1), 3) := by decide +kernel
theorem dX9_latest_57 : decode cX9_latest 57 = .ok (.goto (-18), 3) := by decide +kernel
theorem dX9_latest_60 : decode cX9_latest 60 = .ok (.iload_n 2, 1) := by decide +kernel
theorem dX9_latest_61 : decode cX9_latest 61 = .ok (.ireturn, 1) := by decide +kernel
theorem dX9_law_0 : decode cX9_law 0 = .ok (.aload_n 0, 1) := by decide +kernel
theorem dX9_law_1 : decode cX9_law 1 = .ok (.invokevirtual 265, 3) := by decide +kernel
theorem dX9_law_4 : decode cX9_law 4 = .ok (.ifCond .ne 6, 3) := by decide +kernel
theorem dX9_law_7 : decode cX9_law 7 = .ok (.bipush (-2), 2) := by decide +kernel
theorem dX9_law_9 : decode cX9_law 9 = .ok (.ireturn, 1) := by decide +kernel
theorem dX9_law_10 : decode cX9_law 10 = .ok (.iconst 0, 1) := by decide +kernel
theorem dX9_law_11 : decode cX9_law 11 = .ok (.istore_n 1, 1) := by decide +kernel
theorem dX9_law_12 : decode cX9_law 12 = .ok (.iconst 1, 1) := by decide +kernel
theorem dX9_law_13 : decode cX9_law 13 = .ok (.istore_n 2, 1) := by decide +kernel
theorem dX9_law_14 : decode cX9_law 14 = .ok (.iload_n 2, 1) := by decide +kernel
theorem dX9_law_15 : decode cX9_law 15 = .ok (.iconst 4, 1) := by decide +kernel
theorem dX9_law_16 : decode cX9_law 16 = .ok (.if_icmp .ge 28, 3) := by decide +kernel
theorem dX9_law_19 : decode cX9_law 19 = .ok (.aload_n 0, 1) := by decide +kernel
theorem dX9_law_20 : decode cX9_law 20 = .ok (.iload_n 2, 1) := by decide +kernel
theorem dX9_law_21 : decode cX9_law 21 = .ok (.invokevirtual 392, 3) := by decide +kernel
theorem dX9_law_24 : decode cX9_law 24 = .ok (.aload_n 0, 1) := by decide +kernel
theorem dX9_law_25 : decode cX9_law 25 = .ok (.iload_n 1, 1) := by decide +kernel
theorem dX9_law_26 : decode cX9_law 26 = .ok (.invokevirtual 392, 3) := by decide +kernel
theorem dX9_law_29 : decode cX9_law 29 = .ok (.if_icmp .le 7, 3) := by decide +kernel
theorem dX9_law_32 : decode cX9_law 32 = .ok (.iload_n 2, 1) := by decide +kernel
theorem dX9_law_33 : decode cX9_law 33 = .ok (.goto 4, 3) := by decide +kernel
theorem dX9_law_36 : decode cX9_law 36 = .ok (.iload_n 1, 1) := by decide +kernel
theorem dX9_law_37 : decode cX9_law 37 = .ok (.istore_n 1, 1) := by decide +kernel
theorem dX9_law_38 : decode cX9_law 38 = .ok (.iinc 2 1, 3) := by decide +kernel
theorem dX9_law_41 : decode cX9_law 41 = .ok (.goto (-27), 3) := by decide +kernel
theorem dX9_law_44 : decode cX9_law 44 = .ok (.iload_n 1, 1) := by decide +kernel
theorem dX9_law_45 : decode cX9_law 45 = .ok (.ireturn, 1) := by decide +kernel
theorem dX9_laws_0 : decode cX9_laws 0 = .ok (.aload_n 0, 1) := by decide +kernel
theorem dX9_laws_1 : decode cX9_laws 1 = .ok (.iload_n 1, 1) := by decide +kernel
theorem dX9_laws_2 : decode cX9_laws 2 = .ok (.invokevirtual 369, 3) := by decide +kernel
theorem dX9_laws_5 : decode cX9_laws 5 = .ok (.istore_n 2, 1) := by decide +kernel
theorem dX9_laws_6 : decode cX9_laws 6 = .ok (.iload_n 2, 1) := by decide +kernel
theorem dX9_laws_7 : decode cX9_laws 7 = .ok (.ifCond .ge 5, 3) := by decide +kernel
theorem dX9_laws_10 : decode cX9_laws 10 = .ok (.iload_n 2, 1) := by decide +kernel
theorem dX9_laws_11 : decode cX9_laws 11 = .ok (.ireturn, 1) := by decide +kernel
theorem dX9_laws_12 : decode cX9_laws 12 = .ok (.iconst 0, 1) := by decide +kernel
theorem dX9_laws_13 : decode cX9_laws 13 = .ok (.istore_n 3, 1) := by decide +kernel
theorem dX9_laws_14 : decode cX9_laws 14 = .ok (.aload_n 0, 1) := by decide +kernel
theorem dX9_laws_15 : decode cX9_laws 15 = .ok (.iconst 0, 1) := by decide +kernel
theorem dX9_laws_16 : decode cX9_laws 16 = .ok (.putfield 213, 3) := by decide +kernel
theorem dX9_laws_19 : decode cX9_laws 19 = .ok (.aload_n 0, 1) := by decide +kernel
theorem dX9_laws_20 : decode cX9_laws 20 = .ok (.getfield 213, 3) := by decide +kernel
theorem dX9_laws_23 : decode cX9_laws 23 = .ok (.iconst 4, 1) := by decide +kernel
theorem dX9_laws_24 : decode cX9_laws 24 = .ok (.if_icmp .ge 37, 3) := by decide +kernel
theorem dX9_laws_27 : decode cX9_laws 27 = .ok (.iload_n 3, 1) := by decide +kernel
theorem dX9_laws_28 : decode cX9_laws 28 = .ok (.aload_n 0, 1) := by decide +kernel
theorem dX9_laws_29 : decode cX9_laws 29 = .ok (.iload_n 1, 1) := by decide +kernel
theorem dX9_laws_30 : decode cX9_laws 30 = .ok (.invokevirtual 375, 3) := by decide +kernel
theorem dX9_laws_33 : decode cX9_laws 33 = .ok (.ifCond .eq 12, 3) := by decide +kernel
theorem dX9_laws_36 : decode cX9_laws 36 = .ok (.iconst 1, 1) := by decide +kernel
theorem dX9_laws_37 : decode cX9_laws 37 = .ok (.aload_n 0, 1) := by decide +kernel
theorem dX9_laws_38 : decode cX9_laws 38 = .ok (.getfield 213, 3) := by decide +kernel
theorem dX9_laws_41 : decode cX9_laws 41 = .ok (.ishl, 1) := by decide +kernel
theorem dX9_laws_42 : decode cX9_laws 42 = .ok (.goto 4, 3) := by decide +kernel
theorem dX9_laws_45 : decode cX9_laws 45 = .ok (.iconst 0, 1) := by decide +kernel
theorem dX9_laws_46 : decode cX9_laws 46 = .ok (.ior, 1) := by decide +kernel
theorem dX9_laws_47 : decode cX9_laws 47 = .ok (.istore_n 3, 1) := by decide +kernel
theorem dX9_laws_48 : decode cX9_laws 48 = .ok (.aload_n 0, 1) := by decide +kernel
theorem dX9_laws_49 : decode cX9_laws 49 = .ok (.dup, 1) := by decide +kernel
theorem dX9_laws_50 : decode cX9_laws 50 = .ok (.getfield 213, 3) := by decide +kernel
theorem dX9_laws_53 : decode cX9_laws 53 = .ok (.iconst 1, 1) := by decide +kernel
theorem dX9_laws_54 : decode cX9_laws 54 = .ok (.iadd, 1) := by decide +kernel
theorem dX9_laws_55 : decode cX9_laws 55 = .ok (.putfield 213, 3) := by decide +kernel
theorem dX9_laws_58 : decode cX9_laws 58 = .ok (.goto (-39), 3) := by decide +kernel
theorem dX9_laws_61 : decode cX9_laws 61 = .ok (.iload_n 3, 1) := by decide +kernel
theorem dX9_laws_62 : decode cX9_laws 62 = .ok (.ireturn, 1) := by decide +kernel
theorem dX9_layFits_0 : decode cX9_layFits 0 = .ok (.aload_n 0, 1) := by decide +kernel
theorem dX9_layFits_1 : decode cX9_layFits 1 = .ok (.iload_n 2, 1) := by decide +kernel
theorem dX9_layFits_2 : decode cX9_layFits 2 = .ok (.invokevirtual 200, 3) := by decide +kernel
theorem dX9_layFits_5 : decode cX9_layFits 5 = .ok (.ifCond .ne 6, 3) := by decide +kernel
theorem dX9_layFits_8 : decode cX9_layFits 8 = .ok (.bipush (-2), 2) := by decide +kernel
theorem dX9_layFits_10 : decode cX9_layFits 10 = .ok (.ireturn, 1) := by decide +kernel
theorem dX9_layFits_11 : decode cX9_layFits 11 = .ok (.aload_n 0, 1) := by decide +kernel
theorem dX9_layFits_12 : decode cX9_layFits 12 = .ok (.iload_n 1, 1) := by decide +kernel
theorem dX9_layFits_13 : decode cX9_layFits 13 = .ok (.invokevirtual 369, 3) := by decide +kernel
theorem dX9_layFits_16 : decode cX9_layFits 16 = .ok (.istore_n 3, 1) := by decide +kernel
theorem dX9_layFits_17 : decode cX9_layFits 17 = .ok (.iload_n 3, 1) := by decide +kernel
theorem dX9_layFits_18 : decode cX9_layFits 18 = .ok (.ifCond .ge 5, 3) := by decide +kernel
theorem dX9_layFits_21 : decode cX9_layFits 21 = .ok (.iload_n 3, 1) := by decide +kernel
theorem dX9_layFits_22 : decode cX9_layFits 22 = .ok (.ireturn, 1) := by decide +kernel
theorem dX9_layFits_23 : decode cX9_layFits 23 = .ok (.aload_n 0, 1) := by decide +kernel
theorem dX9_layFits_24 : decode cX9_layFits 24 = .ok (.iconst 0, 1) := by decide +kernel
theorem dX9_layFits_25 : decode cX9_layFits 25 = .ok (.putfield 372, 3) := by decide +kernel
theorem dX9_layFits_28 : decode cX9_layFits 28 = .ok (.iconst 1, 1) := by decide +kernel
theorem dX9_layFits_29 : decode cX9_layFits 29 = .ok (.istore 4, 2) := by decide +kernel
theorem dX9_layFits_31 : decode cX9_layFits 31 = .ok (.iload 4, 2) := by decide +kernel
theorem dX9_layFits_33 : decode cX9_layFits 33 = .ok (.bipush 20, 2) := by decide +kernel
theorem dX9_layFits_35 : decode cX9_layFits 35 = .ok (.if_icmp .gt 88, 3) := by decide +kernel
theorem dX9_layFits_38 : decode cX9_layFits 38 = .ok (.aload_n 0, 1) := by decide +kernel
theorem dX9_layFits_39 : decode cX9_layFits 39 = .ok (.getfield 37, 3) := by decide +kernel
theorem dX9_layFits_42 : decode cX9_layFits 42 = .ok (.iload_n 2, 1) := by decide +kernel
theorem dX9_layFits_43 : decode cX9_layFits 43 = .ok (.iload 4, 2) := by decide +kernel
theorem dX9_layFits_45 : decode cX9_layFits 45 = .ok (.iastore, 1) := by decide +kernel
theorem dX9_layFits_46 : decode cX9_layFits 46 = .ok (.aload_n 0, 1) := by decide +kernel
theorem dX9_layFits_47 : decode cX9_layFits 47 = .ok (.iload_n 1, 1) := by decide +kernel
theorem dX9_layFits_48 : decode cX9_layFits 48 = .ok (.invokevirtual 375, 3) := by decide +kernel
theorem dX9_layFits_51 : decode cX9_layFits 51 = .ok (.ifCond .ne 6, 3) := by decide +kernel
theorem dX9_layFits_54 : decode cX9_layFits 54 = .ok (.goto 63, 3) := by decide +kernel
theorem dX9_layFits_57 : decode cX9_layFits 57 = .ok (.aload_n 0, 1) := by decide +kernel
theorem dX9_layFits_58 : decode cX9_layFits 58 = .ok (.getfield 58, 3) := by decide +kernel
theorem dX9_layFits_61 : decode cX9_layFits 61 = .ok (.aload_n 0, 1) := by decide +kernel
theorem dX9_layFits_62 : decode cX9_layFits 62 = .ok (.getfield 372, 3) := by decide +kernel
theorem dX9_layFits_65 : decode cX9_layFits 65 = .ok (.iload 4, 2) := by decide +kernel
theorem dX9_layFits_67 : decode cX9_layFits 67 = .ok (.iastore, 1) := by decide +kernel
theorem dX9_layFits_68 : decode cX9_layFits 68 = .ok (.iconst 0, 1) := by decide +kernel
theorem dX9_layFits_69 : decode cX9_layFits 69 = .ok (.istore 5, 2) := by decide +kernel
theorem dX9_layFits_71 : decode cX9_layFits 71 = .ok (.iload 5, 2) := by decide +kernel
theorem dX9_layFits_73 : decode cX9_layFits 73 = .ok (.aload_n 0, 1) := by decide +kernel
theorem dX9_layFits_74 : decode cX9_layFits 74 = .ok (.invokevirtual 93, 3) := by decide +kernel
theorem dX9_layFits_77 : decode cX9_layFits 77 = .ok (.if_icmp .gt 30, 3) := by decide +kernel
theorem dX9_layFits_80 : decode cX9_layFits 80 = .ok (.aload_n 0, 1) := by decide +kernel
theorem dX9_layFits_81 : decode cX9_layFits 81 = .ok (.getfield 61, 3) := by decide +kernel
theorem dX9_layFits_84 : decode cX9_layFits 84 = .ok (.bipush 17, 2) := by decide +kernel
theorem dX9_layFits_86 : decode cX9_layFits 86 = .ok (.aload_n 0, 1) := by decide +kernel
theorem dX9_layFits_87 : decode cX9_layFits 87 = .ok (.getfield 372, 3) := by decide +kernel
theorem dX9_layFits_90 : decode cX9_layFits 90 = .ok (.imul, 1) := by decide +kernel
theorem dX9_layFits_91 : decode cX9_layFits 91 = .ok (.iload 5, 2) := by decide +kernel
theorem dX9_layFits_93 : decode cX9_layFits 93 = .ok (.iadd, 1) := by decide +kernel
theorem dX9_layFits_94 : decode cX9_layFits 94 = .ok (.aload_n 0, 1) := by decide +kernel
theorem dX9_layFits_95 : decode cX9_layFits 95 = .ok (.iload 5, 2) := by decide +kernel
theorem dX9_layFits_97 : decode cX9_layFits 97 = .ok (.invokevirtual 207, 3) := by decide +kernel
theorem dX9_layFits_100 : decode cX9_layFits 100 = .ok (.iastore, 1) := by decide +kernel
theorem dX9_layFits_101 : decode cX9_layFits 101 = .ok (.iinc 5 1, 3) := by decide +kernel
theorem dX9_layFits_104 : decode cX9_layFits 104 = .ok (.goto (-33), 3) := by decide +kernel
theorem dX9_layFits_107 : decode cX9_layFits 107 = .ok (.aload_n 0, 1) := by decide +kernel
theorem dX9_layFits_108 : decode cX9_layFits 108 = .ok (.dup, 1) := by decide +kernel
theorem dX9_layFits_109 : decode cX9_layFits 109 = .ok (.getfield 372, 3) := by decide +kernel
theorem dX9_layFits_112 : decode cX9_layFits 112 = .ok (.iconst 1, 1) := by decide +kernel
theorem dX9_layFits_113 : decode cX9_layFits 113 = .ok (.iadd, 1) := by decide +kernel
theorem dX9_layFits_114 : decode cX9_layFits 114 = .ok (.putfield 372, 3) := by decide +kernel
theorem dX9_layFits_117 : decode cX9_layFits 117 = .ok (.iinc 4 1, 3) := by decide +kernel
theorem dX9_layFits_120 : decode cX9_layFits 120 = .ok (.goto (-89), 3) := by decide +kernel
theorem dX9_layFits_123 : decode cX9_layFits 123 = .ok (.iconst 0, 1) := by decide +kernel
theorem dX9_layFits_124 : decode cX9_layFits 124 = .ok (.ireturn, 1) := by decide +kernel
theorem dX9_least_0 : decode cX9_least 0 = .ok (.aload_n 0, 1) := by decide +kernel
theorem dX9_least_1 : decode cX9_least 1 = .ok (.iload_n 1, 1) := by decide +kernel
theorem dX9_least_2 : decode cX9_least 2 = .ok (.iload_n 2, 1) := by decide +kernel
theorem dX9_least_3 : decode cX9_least 3 = .ok (.invokevirtual 378, 3) := by decide +kernel
theorem dX9_least_6 : decode cX9_least 6 = .ok (.istore_n 3, 1) := by decide +kernel
theorem dX9_least_7 : decode cX9_least 7 = .ok (.iload_n 3, 1) := by decide +kernel
theorem dX9_least_8 : decode cX9_least 8 = .ok (.ifCond .ge 7, 3) := by decide +kernel
theorem dX9_least_11 : decode cX9_least 11 = .ok (.iload_n 3, 1) := by decide +kernel
theorem dX9_least_12 : decode cX9_least 12 = .ok (.goto 20, 3) := by decide +kernel
theorem dX9_least_15 : decode cX9_least 15 = .ok (.aload_n 0, 1) := by decide +kernel
theorem dX9_least_16 : decode cX9_least 16 = .ok (.getfield 372, 3) := by decide +kernel
theorem dX9_least_19 : decode cX9_least 19 = .ok (.ifCond .ne 7, 3) := by decide +kernel
theorem dX9_least_22 : decode cX9_least 22 = .ok (.iconst (-1), 1) := by decide +kernel
theorem dX9_least_23 : decode cX9_least 23 = .ok (.goto 9, 3) := by decide +kernel
theorem dX9_least_26 : decode cX9_least 26 = .ok (.aload_n 0, 1) := by decide +kernel
theorem dX9_least_27 : decode cX9_least 27 = .ok (.getfield 58, 3) := by decide +kernel
theorem dX9_least_30 : decode cX9_least 30 = .ok (.iconst 0, 1) := by decide +kernel
theorem dX9_least_31 : decode cX9_least 31 = .ok (.iaload, 1) := by decide +kernel
theorem dX9_least_32 : decode cX9_least 32 = .ok (.ireturn, 1) := by decide +kernel
theorem dX9_leaves_0 : decode cX9_leaves 0 = .ok (.aload_n 0, 1) := by decide +kernel
theorem dX9_leaves_1 : decode cX9_leaves 1 = .ok (.iload_n 1, 1) := by decide +kernel
theorem dX9_leaves_2 : decode cX9_leaves 2 = .ok (.iload_n 2, 1) := by decide +kernel
theorem dX9_leaves_3 : decode cX9_leaves 3 = .ok (.invokevirtual 378, 3) := by decide +kernel
theorem dX9_leaves_6 : decode cX9_leaves 6 = .ok (.istore_n 3, 1) := by decide +kernel
theorem dX9_leaves_7 : decode cX9_leaves 7 = .ok (.iload_n 3, 1) := by decide +kernel
theorem dX9_leaves_8 : decode cX9_leaves 8 = .ok (.ifCond .ge 5, 3) := by decide +kernel
theorem dX9_leaves_11 : decode cX9_leaves 11 = .ok (.iload_n 3, 1) := by decide +kernel
theorem dX9_leaves_12 : decode cX9_leaves 12 = .ok (.ireturn, 1) := by decide +kernel
theorem dX9_leaves_13 : decode cX9_leaves 13 = .ok (.aload_n 0, 1) := by decide +kernel
theorem dX9_leaves_14 : decode cX9_leaves 14 = .ok (.invokevirtual 387, 3) := by decide +kernel
theorem dX9_leaves_17 : decode cX9_leaves 17 = .ok (.pop, 1) := by decide +kernel
theorem dX9_leaves_18 : decode cX9_leaves 18 = .ok (.aload_n 0, 1) := by decide +kernel
theorem dX9_leaves_19 : decode cX9_leaves 19 = .ok (.getfield 381, 3) := by decide +kernel
theorem dX9_leaves_22 : decode cX9_leaves 22 = .ok (.ireturn, 1) := by decide +kernel
theorem dX9_length_0 : decode cX9_length 0 = .ok (.aload_n 0, 1) := by decide +kernel
theorem dX9_length_1 : decode cX9_length 1 = .ok (.iload_n 1, 1) := by decide +kernel
theorem dX9_length_2 : decode cX9_length 2 = .ok (.invokevirtual 272, 3) := by decide +kernel
theorem dX9_length_5 : decode cX9_length 5 = .ok (.ifCond .ne 6, 3) := by decide +kernel
theorem dX9_length_8 : decode cX9_length 8 = .ok (.bipush (-2), 2) := by decide +kernel
theorem dX9_length_10 : decode cX9_length 10 = .ok (.ireturn, 1) := by decide +kernel
theorem dX9_length_11 : decode cX9_length 11 = .ok (.aload_n 0, 1) := by decide +kernel
theorem dX9_length_12 : decode cX9_length 12 = .ok (.iload_n 1, 1) := by decide +kernel
theorem dX9_length_13 : decode cX9_length 13 = .ok (.invokevirtual 311, 3) := by decide +kernel
theorem dX9_length_16 : decode cX9_length 16 = .ok (.ifCond .eq 10, 3) := by decide +kernel
theorem dX9_length_19 : decode cX9_length 19 = .ok (.aload_n 0, 1) := by decide +kernel
theorem dX9_length_20 : decode cX9_length 20 = .ok (.getfield 305, 3) := by decide +kernel
theorem dX9_length_23 : decode cX9_length 23 = .ok (.goto 4, 3) := by decide +kernel
theorem dX9_length_26 : decode cX9_length 26 = .ok (.iconst (-1), 1) := by decide +kernel
theorem dX9_length_27 : decode cX9_length 27 = .ok (.ireturn, 1) := by decide +kernel
theorem dX9_longest_0 : decode cX9_longest 0 = .ok (.aload_n 0, 1) := by decide +kernel
theorem dX9_longest_1 : decode cX9_longest 1 = .ok (.iload_n 1, 1) := by decide +kernel
theorem dX9_longest_2 : decode cX9_longest 2 = .ok (.invokevirtual 342, 3) := by decide +kernel
theorem dX9_longest_5 : decode cX9_longest 5 = .ok (.ifCond .ne 6, 3) := by decide +kernel
theorem dX9_longest_8 : decode cX9_longest 8 = .ok (.bipush (-2), 2) := by decide +kernel
theorem dX9_longest_10 : decode cX9_longest 10 = .ok (.ireturn, 1) := by decide +kernel
theorem dX9_longest_11 : decode cX9_longest 11 = .ok (.iconst 0, 1) := by decide +kernel
theorem dX9_longest_12 : decode cX9_longest 12 = .ok (.istore_n 2, 1) := by decide +kernel
theorem dX9_longest_13 : decode cX9_longest 13 = .ok (.iconst 0, 1) := by decide +kernel
theorem dX9_longest_14 : decode cX9_longest 14 = .ok (.istore_n 3, 1) := by decide +kernel
theorem dX9_longest_15 : decode cX9_longest 15 = .ok (.iload_n 3, 1) := by decide +kernel
theorem dX9_longest_16 : decode cX9_longest 16 = .ok (.aload_n 0, 1) := by decide +kernel
theorem dX9_longest_17 : decode cX9_longest 17 = .ok (.getfield 316, 3) := by decide +kernel
theorem dX9_longest_20 : decode cX9_longest 20 = .ok (.if_icmp .ge 20, 3) := by decide +kernel
theorem dX9_longest_23 : decode cX9_longest 23 = .ok (.iload_n 2, 1) := by decide +kernel
theorem dX9_longest_24 : decode cX9_longest 24 = .ok (.aload_n 0, 1) := by decide +kernel
theorem dX9_longest_25 : decode cX9_longest 25 = .ok (.getfield 55, 3) := by decide +kernel
theorem dX9_longest_28 : decode cX9_longest 28 = .ok (.iload_n 3, 1) := by decide +kernel
theorem dX9_longest_29 : decode cX9_longest 29 = .ok (.iaload, 1) := by decide +kernel
theorem dX9_longest_30 : decode cX9_longest 30 = .ok (.invokestatic 283, 3) := by decide +kernel
theorem dX9_longest_33 : decode cX9_longest 33 = .ok (.istore_n 2, 1) := by decide +kernel
theorem dX9_longest_34 : decode cX9_longest 34 = .ok (.iinc 3 1, 3) := by decide +kernel
theorem dX9_longest_37 : decode cX9_longest 37 = .ok (.goto (-22), 3) := by decide +kernel
theorem dX9_longest_40 : decode cX9_longest 40 = .ok (.iload_n 2, 1) := by decide +kernel
theorem dX9_longest_41 : decode cX9_longest 41 = .ok (.ireturn, 1) := by decide +kernel
theorem dX9_luck_0 : decode cX9_luck 0 = .ok (.aload_n 0, 1) := by decide +kernel
theorem dX9_luck_1 : decode cX9_luck 1 = .ok (.invokevirtual 89, 3) := by decide +kernel
theorem dX9_luck_4 : decode cX9_luck 4 = .ok (.ifCond .eq 34, 3) := by decide +kernel
theorem dX9_luck_7 : decode cX9_luck 7 = .ok (.iload_n 1, 1) := by decide +kernel
theorem dX9_luck_8 : decode cX9_luck 8 = .ok (.invokestatic 471, 3) := by decide +kernel
theorem dX9_luck_11 : decode cX9_luck 11 = .ok (.ifCond .eq 27, 3) := by decide +kernel
theorem dX9_luck_14 : decode cX9_luck 14 = .ok (.iload_n 2, 1) := by decide +kernel
theorem dX9_luck_15 : decode cX9_luck 15 = .ok (.i2l, 1) := by decide +kernel
theorem dX9_luck_16 : decode cX9_luck 16 = .ok (.lconst 1, 1) := by decide +kernel
theorem dX9_luck_17 : decode cX9_luck 17 = .ok (.ldc2_w 454, 3) := by decide +kernel
theorem dX9_luck_20 : decode cX9_luck 20 = .ok (.invokestatic 85, 3) := by decide +kernel
theorem dX9_luck_23 : decode cX9_luck 23 = .ok (.ifCond .eq 15, 3) := by decide +kernel
theorem dX9_luck_26 : decode cX9_luck 26 = .ok (.iload_n 3, 1) := by decide +kernel
theorem dX9_luck_27 : decode cX9_luck 27 = .ok (.i2l, 1) := by decide +kernel
theorem dX9_luck_28 : decode cX9_luck 28 = .ok (.lconst 0, 1) := by decide +kernel
theorem dX9_luck_29 : decode cX9_luck 29 = .ok (.ldc2_w 278, 3) := by decide +kernel
theorem dX9_luck_32 : decode cX9_luck 32 = .ok (.invokestatic 85, 3) := by decide +kernel
theorem dX9_luck_35 : decode cX9_luck 35 = .ok (.ifCond .ne 6, 3) := by decide +kernel
theorem dX9_luck_38 : decode cX9_luck 38 = .ok (.bipush (-2), 2) := by decide +kernel
theorem dX9_luck_40 : decode cX9_luck 40 = .ok (.ireturn, 1) := by decide +kernel
theorem dX9_luck_41 : decode cX9_luck 41 = .ok (.iconst 0, 1) := by decide +kernel
theorem dX9_luck_42 : decode cX9_luck 42 = .ok (.istore 4, 2) := by decide +kernel
theorem dX9_luck_44 : decode cX9_luck 44 = .ok (.iconst 0, 1) := by decide +kernel
theorem dX9_luck_45 : decode cX9_luck 45 = .ok (.istore 5, 2) := by decide +kernel
theorem dX9_luck_47 : decode cX9_luck 47 = .ok (.iload 5, 2) := by decide +kernel
theorem dX9_luck_49 : decode cX9_luck 49 = .ok (.iload_n 2, 1) := by decide +kernel
theorem dX9_luck_50 : decode cX9_luck 50 = .ok (.if_icmp .ge 37, 3) := by decide +kernel
theorem dX9_luck_53 : decode cX9_luck 53 = .ok (.aload_n 0, 1) := by decide +kernel
theorem dX9_luck_54 : decode cX9_luck 54 = .ok (.iload_n 1, 1) := by decide +kernel
theorem dX9_luck_55 : decode cX9_luck 55 = .ok (.i2l, 1) := by decide +kernel
theorem dX9_luck_56 : decode cX9_luck 56 = .ok (.iload 5, 2) := by decide +kernel
theorem dX9_luck_58 : decode cX9_luck 58 = .ok (.i2l, 1) := by decide +kernel
theorem dX9_luck_59 : decode cX9_luck 59 = .ok (.ladd, 1) := by decide +kernel
theorem dX9_luck_60 : decode cX9_luck 60 = .ok (.invokevirtual 474, 3) := by decide +kernel
theorem dX9_luck_63 : decode cX9_luck 63 = .ok (.iload 4, 2) := by decide +kernel
theorem dX9_luck_65 : decode cX9_luck 65 = .ok (.aload_n 0, 1) := by decide +kernel
theorem dX9_luck_66 : decode cX9_luck 66 = .ok (.invokevirtual 361, 3) := by decide +kernel
theorem dX9_luck_69 : decode cX9_luck 69 = .ok (.iload_n 3, 1) := by decide +kernel
theorem dX9_luck_70 : decode cX9_luck 70 = .ok (.if_icmp .lt 7, 3) := by decide +kernel
theorem dX9_luck_73 : decode cX9_luck 73 = .ok (.iconst 1, 1) := by decide +kernel
theorem dX9_luck_74 : decode cX9_luck 74 = .ok (.goto 4, 3) := by decide +kernel
theorem dX9_luck_77 : decode cX9_luck 77 = .ok (.iconst 0, 1) := by decide +kernel
theorem dX9_luck_78 : decode cX9_luck 78 = .ok (.iadd, 1) := by decide +kernel
theorem dX9_luck_79 : decode cX9_luck 79 = .ok (.istore 4, 2) := by decide +kernel
theorem dX9_luck_81 : decode cX9_luck 81 = .ok (.iinc 5 1, 3) := by decide +kernel
theorem dX9_luck_84 : decode cX9_luck 84 = .ok (.goto (-37), 3) := by decide +kernel
theorem dX9_luck_87 : decode cX9_luck 87 = .ok (.iload 4, 2) := by decide +kernel
theorem dX9_luck_89 : decode cX9_luck 89 = .ok (.ireturn, 1) := by decide +kernel
theorem dX9_many_0 : decode cX9_many 0 = .ok (.aload_n 0, 1) := by decide +kernel
theorem dX9_many_1 : decode cX9_many 1 = .ok (.iload_n 1, 1) := by decide +kernel
theorem dX9_many_2 : decode cX9_many 2 = .ok (.invokevirtual 272, 3) := by decide +kernel
theorem dX9_many_5 : decode cX9_many 5 = .ok (.ifCond .eq 15, 3) := by decide +kernel
theorem dX9_many_8 : decode cX9_many 8 = .ok (.iload_n 2, 1) := by decide +kernel
theorem dX9_many_9 : decode cX9_many 9 = .ok (.i2l, 1) := by decide +kernel
theorem dX9_many_10 : decode cX9_many 10 = .ok (.lconst 1, 1) := by decide +kernel
theorem dX9_many_11 : decode cX9_many 11 = .ok (.ldc2_w 278, 3) := by decide +kernel
theorem dX9_many_14 : decode cX9_many 14 = .ok (.invokestatic 85, 3) := by decide +kernel
theorem dX9_many_17 : decode cX9_many 17 = .ok (.ifCond .ne 6, 3) := by decide +kernel
theorem dX9_many_20 : decode cX9_many 20 = .ok (.bipush (-2), 2) := by decide +kernel
theorem dX9_many_22 : decode cX9_many 22 = .ok (.ireturn, 1) := by decide +kernel
theorem dX9_many_23 : decode cX9_many 23 = .ok (.iconst 0, 1) := by decide +kernel
theorem dX9_many_24 : decode cX9_many 24 = .ok (.istore_n 3, 1) := by decide +kernel
theorem dX9_many_25 : decode cX9_many 25 = .ok (.iconst 0, 1) := by decide +kernel
theorem dX9_many_26 : decode cX9_many 26 = .ok (.istore 4, 2) := by decide +kernel
theorem dX9_many_28 : decode cX9_many 28 = .ok (.iload 4, 2) := by decide +kernel
theorem dX9_many_30 : decode cX9_many 30 = .ok (.aload_n 0, 1) := by decide +kernel
theorem dX9_many_31 : decode cX9_many 31 = .ok (.iload_n 1, 1) := by decide +kernel
theorem dX9_many_32 : decode cX9_many 32 = .ok (.invokevirtual 207, 3) := by decide +kernel
theorem dX9_many_35 : decode cX9_many 35 = .ok (.if_icmp .ge 28, 3) := by decide +kernel
theorem dX9_many_38 : decode cX9_many 38 = .ok (.iload_n 3, 1) := by decide +kernel
theorem dX9_many_39 : decode cX9_many 39 = .ok (.aload_n 0, 1) := by decide +kernel
theorem dX9_many_40 : decode cX9_many 40 = .ok (.iload_n 1, 1) := by decide +kernel
theorem dX9_many_41 : decode cX9_many 41 = .ok (.iload 4, 2) := by decide +kernel
theorem dX9_many_43 : decode cX9_many 43 = .ok (.invokevirtual 210, 3) := by decide +kernel
theorem dX9_many_46 : decode cX9_many 46 = .ok (.iload_n 2, 1) := by decide +kernel
theorem dX9_many_47 : decode cX9_many 47 = .ok (.if_icmp .ne 7, 3) := by decide +kernel
theorem dX9_many_50 : decode cX9_many 50 = .ok (.iconst 1, 1) := by decide +kernel
theorem dX9_many_51 : decode cX9_many 51 = .ok (.goto 4, 3) := by decide +kernel
theorem dX9_many_54 : decode cX9_many 54 = .ok (.iconst 0, 1) := by decide +kernel
theorem dX9_many_55 : decode cX9_many 55 = .ok (.iadd, 1) := by decide +kernel
theorem dX9_many_56 : decode cX9_many 56 = .ok (.istore_n 3, 1) := by decide +kernel
theorem dX9_many_57 : decode cX9_many 57 = .ok (.iinc 4 1, 3) := by decide +kernel
theorem dX9_many_60 : decode cX9_many 60 = .ok (.goto (-32), 3) := by decide +kernel
theorem dX9_many_63 : decode cX9_many 63 = .ok (.iload_n 3, 1) := by decide +kernel
theorem dX9_many_64 : decode cX9_many 64 = .ok (.ireturn, 1) := by decide +kernel
theorem dX9_manyOf_0 : decode cX9_manyOf 0 = .ok (.aload_n 0, 1) := by decide +kernel
theorem dX9_manyOf_1 : decode cX9_manyOf 1 = .ok (.getfield 34, 3) := by decide +kernel
theorem dX9_manyOf_4 : decode cX9_manyOf 4 = .ok (.sipush 701, 3) := by decide +kernel
theorem dX9_manyOf_7 : decode cX9_manyOf 7 = .ok (.iload_n 1, 1) := by decide +kernel
theorem dX9_manyOf_8 : decode cX9_manyOf 8 = .ok (.imul, 1) := by decide +kernel
theorem dX9_manyOf_9 : decode cX9_manyOf 9 = .ok (.iaload, 1) := by decide +kernel
theorem dX9_manyOf_10 : decode cX9_manyOf 10 = .ok (.ireturn, 1) := by decide +kernel
theorem dX9_mean_0 : decode cX9_mean 0 = .ok (.aload_n 0, 1) := by decide +kernel
theorem dX9_mean_1 : decode cX9_mean 1 = .ok (.iload_n 1, 1) := by decide +kernel
theorem dX9_mean_2 : decode cX9_mean 2 = .ok (.iload_n 2, 1) := by decide +kernel
theorem dX9_mean_3 : decode cX9_mean 3 = .ok (.invokevirtual 446, 3) := by decide +kernel
theorem dX9_mean_6 : decode cX9_mean 6 = .ok (.ifCond .ne 7, 3) := by decide +kernel
theorem dX9_mean_9 : decode cX9_mean 9 = .ok (.ldc2_w 449, 3) := by decide +kernel
theorem dX9_mean_12 : decode cX9_mean 12 = .ok (.lreturn, 1) := by decide +kernel
theorem dX9_mean_13 : decode cX9_mean 13 = .ok (.aload_n 0, 1) := by decide +kernel
theorem dX9_mean_14 : decode cX9_mean 14 = .ok (.iload_n 1, 1) := by decide +kernel
theorem dX9_mean_15 : decode cX9_mean 15 = .ok (.iconst 0, 1) := by decide +kernel
theorem dX9_mean_16 : decode cX9_mean 16 = .ok (.invokevirtual 451, 3) := by decide +kernel
theorem dX9_mean_19 : decode cX9_mean 19 = .ok (.aload_n 0, 1) := by decide +kernel
theorem dX9_mean_20 : decode cX9_mean 20 = .ok (.getfield 443, 3) := by decide +kernel
theorem dX9_mean_23 : decode cX9_mean 23 = .ok (.aload_n 0, 1) := by decide +kernel
theorem dX9_mean_24 : decode cX9_mean 24 = .ok (.getfield 436, 3) := by decide +kernel
theorem dX9_mean_27 : decode cX9_mean 27 = .ok (.iload_n 2, 1) := by decide +kernel
theorem dX9_mean_28 : decode cX9_mean 28 = .ok (.invokestatic 412, 3) := by decide +kernel
theorem dX9_mean_31 : decode cX9_mean 31 = .ok (.lreturn, 1) := by decide +kernel
theorem dX9_moor_0 : decode cX9_moor 0 = .ok (.aload_n 0, 1) := by decide +kernel
theorem dX9_moor_1 : decode cX9_moor 1 = .ok (.aload_n 0, 1) := by decide +kernel
theorem dX9_moor_2 : decode cX9_moor 2 = .ok (.getfield 100, 3) := by decide +kernel
theorem dX9_moor_5 : decode cX9_moor 5 = .ok (.putfield 103, 3) := by decide +kernel
theorem dX9_moor_8 : decode cX9_moor 8 = .ok (.aload_n 0, 1) := by decide +kernel
theorem dX9_moor_9 : decode cX9_moor 9 = .ok (.iconst 0, 1) := by decide +kernel
theorem dX9_moor_10 : decode cX9_moor 10 = .ok (.putfield 100, 3) := by decide +kernel
theorem dX9_moor_13 : decode cX9_moor 13 = .ok (.aload_n 0, 1) := by decide +kernel
theorem dX9_moor_14 : decode cX9_moor 14 = .ok (.iconst 0, 1) := by decide +kernel
theorem dX9_moor_15 : decode cX9_moor 15 = .ok (.putfield 106, 3) := by decide +kernel
theorem dX9_moor_18 : decode cX9_moor 18 = .ok (.aload_n 0, 1) := by decide +kernel
theorem dX9_moor_19 : decode cX9_moor 19 = .ok (.iconst 0, 1) := by decide +kernel
theorem dX9_moor_20 : decode cX9_moor 20 = .ok (.putfield 137, 3) := by decide +kernel
theorem dX9_moor_23 : decode cX9_moor 23 = .ok (.aload_n 0, 1) := by decide +kernel
theorem dX9_moor_24 : decode cX9_moor 24 = .ok (.iconst (-1), 1) := by decide +kernel
theorem dX9_moor_25 : decode cX9_moor 25 = .ok (.putfield 27, 3) := by decide +kernel
theorem dX9_moor_28 : decode cX9_moor 28 = .ok (.iconst 0, 1) := by decide +kernel
theorem dX9_moor_29 : decode cX9_moor 29 = .ok (.istore_n 1, 1) := by decide +kernel
theorem dX9_moor_30 : decode cX9_moor 30 = .ok (.iload_n 1, 1) := by decide +kernel
theorem dX9_moor_31 : decode cX9_moor 31 = .ok (.bipush 47, 2) := by decide +kernel
theorem dX9_moor_33 : decode cX9_moor 33 = .ok (.if_icmp .ge 16, 3) := by decide +kernel
theorem dX9_moor_36 : decode cX9_moor 36 = .ok (.aload_n 0, 1) := by decide +kernel
theorem dX9_moor_37 : decode cX9_moor 37 = .ok (.getfield 31, 3) := by decide +kernel
theorem dX9_moor_40 : decode cX9_moor 40 = .ok (.iload_n 1, 1) := by decide +kernel
theorem dX9_moor_41 : decode cX9_moor 41 = .ok (.iconst 0, 1) := by decide +kernel
theorem dX9_moor_42 : decode cX9_moor 42 = .ok (.iastore, 1) := by decide +kernel
theorem dX9_moor_43 : decode cX9_moor 43 = .ok (.iinc 1 1, 3) := by decide +kernel
theorem dX9_moor_46 : decode cX9_moor 46 = .ok (.goto (-16), 3) := by decide +kernel
theorem dX9_moor_49 : decode cX9_moor 49 = .ok (.aload_n 0, 1) := by decide +kernel
theorem dX9_moor_50 : decode cX9_moor 50 = .ok (.invokevirtual 156, 3) := by decide +kernel
theorem dX9_moor_53 : decode cX9_moor 53 = .ok (.aload_n 0, 1) := by decide +kernel
theorem dX9_moor_54 : decode cX9_moor 54 = .ok (.invokevirtual 140, 3) := by decide +kernel
theorem dX9_moor_57 : decode cX9_moor 57 = .ok (.ifCond .eq 17, 3) := by decide +kernel
theorem dX9_moor_60 : decode cX9_moor 60 = .ok (.aload_n 0, 1) := by decide +kernel
theorem dX9_moor_61 : decode cX9_moor 61 = .ok (.getfield 116, 3) := by decide +kernel
theorem dX9_moor_64 : decode cX9_moor 64 = .ok (.ifCond .eq 10, 3) := by decide +kernel
theorem dX9_moor_67 : decode cX9_moor 67 = .ok (.aload_n 0, 1) := by decide +kernel
theorem dX9_moor_68 : decode cX9_moor 68 = .ok (.invokevirtual 197, 3) := by decide +kernel
theorem dX9_moor_71 : decode cX9_moor 71 = .ok (.goto (-18), 3) := by decide +kernel
theorem dX9_moor_74 : decode cX9_moor 74 = .ok (.aload_n 0, 1) := by decide +kernel
theorem dX9_moor_75 : decode cX9_moor 75 = .ok (.invokevirtual 140, 3) := by decide +kernel
theorem dX9_moor_78 : decode cX9_moor 78 = .ok (.ifCond .ne 6, 3) := by decide +kernel
theorem dX9_moor_81 : decode cX9_moor 81 = .ok (.bipush (-4), 2) := by decide +kernel
theorem dX9_moor_83 : decode cX9_moor 83 = .ok (.ireturn, 1) := by decide +kernel
theorem dX9_moor_84 : decode cX9_moor 84 = .ok (.iconst 0, 1) := by decide +kernel
theorem dX9_moor_85 : decode cX9_moor 85 = .ok (.istore_n 1, 1) := by decide +kernel
theorem dX9_moor_86 : decode cX9_moor 86 = .ok (.iload_n 1, 1) := by decide +kernel
theorem dX9_moor_87 : decode cX9_moor 87 = .ok (.bipush 47, 2) := by decide +kernel
theorem dX9_moor_89 : decode cX9_moor 89 = .ok (.if_icmp .ge 21, 3) := by decide +kernel
theorem dX9_moor_92 : decode cX9_moor 92 = .ok (.aload_n 0, 1) := by decide +kernel
theorem dX9_moor_93 : decode cX9_moor 93 = .ok (.getfield 9, 3) := by decide +kernel
theorem dX9_moor_96 : decode cX9_moor 96 = .ok (.iload_n 1, 1) := by decide +kernel
theorem dX9_moor_97 : decode cX9_moor 97 = .ok (.aload_n 0, 1) := by decide +kernel
theorem dX9_moor_98 : decode cX9_moor 98 = .ok (.getfield 31, 3) := by decide +kernel
theorem dX9_moor_101 : decode cX9_moor 101 = .ok (.iload_n 1, 1) := by decide +kernel
theorem dX9_moor_102 : decode cX9_moor 102 = .ok (.iaload, 1) := by decide +kernel
theorem dX9_moor_103 : decode cX9_moor 103 = .ok (.iastore, 1) := by decide +kernel
theorem dX9_moor_104 : decode cX9_moor 104 = .ok (.iinc 1 1, 3) := by decide +kernel
theorem dX9_moor_107 : decode cX9_moor 107 = .ok (.goto (-21), 3) := by decide +kernel
theorem dX9_moor_110 : decode cX9_moor 110 = .ok (.aload_n 0, 1) := by decide +kernel
theorem dX9_moor_111 : decode cX9_moor 111 = .ok (.getfield 9, 3) := by decide +kernel
theorem dX9_moor_114 : decode cX9_moor 114 = .ok (.bipush 6, 2) := by decide +kernel
theorem dX9_moor_116 : decode cX9_moor 116 = .ok (.iaload, 1) := by decide +kernel
theorem dX9_moor_117 : decode cX9_moor 117 = .ok (.ireturn, 1) := by decide +kernel
theorem dX9_most_0 : decode cX9_most 0 = .ok (.aload_n 0, 1) := by decide +kernel
theorem dX9_most_1 : decode cX9_most 1 = .ok (.invokevirtual 265, 3) := by decide +kernel
theorem dX9_most_4 : decode cX9_most 4 = .ok (.ifCond .ne 6, 3) := by decide +kernel
theorem dX9_most_7 : decode cX9_most 7 = .ok (.bipush (-2), 2) := by decide +kernel
theorem dX9_most_9 : decode cX9_most 9 = .ok (.ireturn, 1) := by decide +kernel
theorem dX9_most_10 : decode cX9_most 10 = .ok (.iconst 0, 1) := by decide +kernel
theorem dX9_most_11 : decode cX9_most 11 = .ok (.istore_n 1, 1) := by decide +kernel
theorem dX9_most_12 : decode cX9_most 12 = .ok (.iconst 0, 1) := by decide +kernel
theorem dX9_most_13 : decode cX9_most 13 = .ok (.istore_n 2, 1) := by decide +kernel
theorem dX9_most_14 : decode cX9_most 14 = .ok (.iload_n 2, 1) := by decide +kernel
theorem dX9_most_15 : decode cX9_most 15 = .ok (.aload_n 0, 1) := by decide +kernel
theorem dX9_most_16 : decode cX9_most 16 = .ok (.invokevirtual 93, 3) := by decide +kernel
theorem dX9_most_19 : decode cX9_most 19 = .ok (.if_icmp .gt 19, 3) := by decide +kernel
theorem dX9_most_22 : decode cX9_most 22 = .ok (.iload_n 1, 1) := by decide +kernel
theorem dX9_most_23 : decode cX9_most 23 = .ok (.aload_n 0, 1) := by decide +kernel
theorem dX9_most_24 : decode cX9_most 24 = .ok (.iload_n 2, 1) := by decide +kernel
theorem dX9_most_25 : decode cX9_most 25 = .ok (.invokevirtual 207, 3) := by decide +kernel
theorem dX9_most_28 : decode cX9_most 28 = .ok (.invokestatic 283, 3) := by decide +kernel
theorem dX9_most_31 : decode cX9_most 31 = .ok (.istore_n 1, 1) := by decide +kernel
theorem dX9_most_32 : decode cX9_most 32 = .ok (.iinc 2 1, 3) := by decide +kernel
theorem dX9_most_35 : decode cX9_most 35 = .ok (.goto (-21), 3) := by decide +kernel
theorem dX9_most_38 : decode cX9_most 38 = .ok (.iload_n 1, 1) := by decide +kernel
theorem dX9_most_39 : decode cX9_most 39 = .ok (.ireturn, 1) := by decide +kernel
theorem dX9_move_0 : decode cX9_move 0 = .ok (.aload_n 0, 1) := by decide +kernel
theorem dX9_move_1 : decode cX9_move 1 = .ok (.iload_n 1, 1) := by decide +kernel
theorem dX9_move_2 : decode cX9_move 2 = .ok (.iload_n 2, 1) := by decide +kernel
theorem dX9_move_3 : decode cX9_move 3 = .ok (.invokevirtual 416, 3) := by decide +kernel
theorem dX9_move_6 : decode cX9_move 6 = .ok (.ifCond .ne 6, 3) := by decide +kernel
theorem dX9_move_9 : decode cX9_move 9 = .ok (.bipush (-2), 2) := by decide +kernel
theorem dX9_move_11 : decode cX9_move 11 = .ok (.ireturn, 1) := by decide +kernel
theorem dX9_move_12 : decode cX9_move 12 = .ok (.iconst 0, 1) := by decide +kernel
theorem dX9_move_13 : decode cX9_move 13 = .ok (.istore_n 3, 1) := by decide +kernel
theorem dX9_move_14 : decode cX9_move 14 = .ok (.iload_n 3, 1) := by decide +kernel
theorem dX9_move_15 : decode cX9_move 15 = .ok (.aload_n 0, 1) := by decide +kernel
theorem dX9_move_16 : decode cX9_move 16 = .ok (.iload_n 1, 1) := by decide +kernel
theorem dX9_move_17 : decode cX9_move 17 = .ok (.invokevirtual 207, 3) := by decide +kernel
theorem dX9_move_20 : decode cX9_move 20 = .ok (.if_icmp .ge 71, 3) := by decide +kernel
theorem dX9_move_23 : decode cX9_move 23 = .ok (.aload_n 0, 1) := by decide +kernel
theorem dX9_move_24 : decode cX9_move 24 = .ok (.iload_n 1, 1) := by decide +kernel
theorem dX9_move_25 : decode cX9_move 25 = .ok (.iload_n 3, 1) := by decide +kernel
theorem dX9_move_26 : decode cX9_move 26 = .ok (.invokevirtual 422, 3) := by decide +kernel
theorem dX9_move_29 : decode cX9_move 29 = .ok (.ifCond .ne 6, 3) := by decide +kernel
theorem dX9_move_32 : decode cX9_move 32 = .ok (.goto 53, 3) := by decide +kernel
theorem dX9_move_35 : decode cX9_move 35 = .ok (.iconst 1, 1) := by decide +kernel
theorem dX9_move_36 : decode cX9_move 36 = .ok (.istore 4, 2) := by decide +kernel
theorem dX9_move_38 : decode cX9_move 38 = .ok (.iload 4, 2) := by decide +kernel
theorem dX9_move_40 : decode cX9_move 40 = .ok (.iload_n 2, 1) := by decide +kernel
theorem dX9_move_41 : decode cX9_move 41 = .ok (.aload_n 0, 1) := by decide +kernel
theorem dX9_move_42 : decode cX9_move 42 = .ok (.iload_n 1, 1) := by decide +kernel
theorem dX9_move_43 : decode cX9_move 43 = .ok (.iload_n 3, 1) := by decide +kernel
theorem dX9_move_44 : decode cX9_move 44 = .ok (.invokevirtual 210, 3) := by decide +kernel
theorem dX9_move_47 : decode cX9_move 47 = .ok (.invokestatic 131, 3) := by decide +kernel
theorem dX9_move_50 : decode cX9_move 50 = .ok (.if_icmp .gt 35, 3) := by decide +kernel
theorem dX9_move_53 : decode cX9_move 53 = .ok (.aload_n 0, 1) := by decide +kernel
theorem dX9_move_54 : decode cX9_move 54 = .ok (.iload_n 1, 1) := by decide +kernel
theorem dX9_move_55 : decode cX9_move 55 = .ok (.iload_n 2, 1) := by decide +kernel
theorem dX9_move_56 : decode cX9_move 56 = .ok (.iload_n 3, 1) := by decide +kernel
theorem dX9_move_57 : decode cX9_move 57 = .ok (.iload 4, 2) := by decide +kernel
theorem dX9_move_59 : decode cX9_move 59 = .ok (.invokevirtual 425, 3) := by decide +kernel
theorem dX9_move_62 : decode cX9_move 62 = .ok (.ifCond .eq 17, 3) := by decide +kernel
theorem dX9_move_65 : decode cX9_move 65 = .ok (.sipush 1000, 3) := by decide +kernel
theorem dX9_move_68 : decode cX9_move 68 = .ok (.aload_n 0, 1) := by decide +kernel
theorem dX9_move_69 : decode cX9_move 69 = .ok (.iload_n 1, 1) := by decide +kernel
theorem dX9_move_70 : decode cX9_move 70 = .ok (.iload_n 3, 1) := by decide +kernel
theorem dX9_move_71 : decode cX9_move 71 = .ok (.invokevirtual 210, 3) := by decide +kernel
theorem dX9_move_74 : decode cX9_move 74 = .ok (.imul, 1) := by decide +kernel
theorem dX9_move_75 : decode cX9_move 75 = .ok (.iload 4, 2) := by decide +kernel
theorem dX9_move_77 : decode cX9_move 77 = .ok (.iadd, 1) := by decide +kernel
theorem dX9_move_78 : decode cX9_move 78 = .ok (.ireturn, 1) := by decide +kernel
theorem dX9_move_79 : decode cX9_move 79 = .ok (.iinc 4 1, 3) := by decide +kernel
theorem dX9_move_82 : decode cX9_move 82 = .ok (.goto (-44), 3) := by decide +kernel
theorem dX9_move_85 : decode cX9_move 85 = .ok (.iinc 3 1, 3) := by decide +kernel
theorem dX9_move_88 : decode cX9_move 88 = .ok (.goto (-74), 3) := by decide +kernel
theorem dX9_move_91 : decode cX9_move 91 = .ok (.iconst (-1), 1) := by decide +kernel
theorem dX9_move_92 : decode cX9_move 92 = .ok (.ireturn, 1) := by decide +kernel
theorem dX9_moves_0 : decode cX9_moves 0 = .ok (.aload_n 0, 1) := by decide +kernel
theorem dX9_moves_1 : decode cX9_moves 1 = .ok (.iload_n 1, 1) := by decide +kernel
theorem dX9_moves_2 : decode cX9_moves 2 = .ok (.iload_n 2, 1) := by decide +kernel
theorem dX9_moves_3 : decode cX9_moves 3 = .ok (.invokevirtual 416, 3) := by decide +kernel
theorem dX9_moves_6 : decode cX9_moves 6 = .ok (.ifCond .ne 6, 3) := by decide +kernel
theorem dX9_moves_9 : decode cX9_moves 9 = .ok (.bipush (-2), 2) := by decide +kernel
theorem dX9_moves_11 : decode cX9_moves 11 = .ok (.ireturn, 1) := by decide +kernel
theorem dX9_moves_12 : decode cX9_moves 12 = .ok (.iconst 0, 1) := by decide +kernel
theorem dX9_moves_13 : decode cX9_moves 13 = .ok (.istore_n 3, 1) := by decide +kernel
theorem dX9_moves_14 : decode cX9_moves 14 = .ok (.iconst 0, 1) := by decide +kernel
theorem dX9_moves_15 : decode cX9_moves 15 = .ok (.istore 4, 2) := by decide +kernel
theorem dX9_moves_17 : decode cX9_moves 17 = .ok (.iload 4, 2) := by decide +kernel
theorem dX9_moves_19 : decode cX9_moves 19 = .ok (.aload_n 0, 1) := by decide +kernel
theorem dX9_moves_20 : decode cX9_moves 20 = .ok (.iload_n 1, 1) := by decide +kernel
theorem dX9_moves_21 : decode cX9_moves 21 = .ok (.invokevirtual 207, 3) := by decide +kernel
theorem dX9_moves_24 : decode cX9_moves 24 = .ok (.if_icmp .ge 68, 3) := by decide +kernel
theorem dX9_moves_27 : decode cX9_moves 27 = .ok (.aload_n 0, 1) := by decide +kernel
theorem dX9_moves_28 : decode cX9_moves 28 = .ok (.iload_n 1, 1) := by decide +kernel
theorem dX9_moves_29 : decode cX9_moves 29 = .ok (.iload 4, 2) := by decide +kernel
theorem dX9_moves_31 : decode cX9_moves 31 = .ok (.invokevirtual 422, 3) := by decide +kernel
theorem dX9_moves_34 : decode cX9_moves 34 = .ok (.ifCond .ne 6, 3) := by decide +kernel
theorem dX9_moves_37 : decode cX9_moves 37 = .ok (.goto 49, 3) := by decide +kernel
theorem dX9_moves_40 : decode cX9_moves 40 = .ok (.iconst 1, 1) := by decide +kernel
theorem dX9_moves_41 : decode cX9_moves 41 = .ok (.istore 5, 2) := by decide +kernel
theorem dX9_moves_43 : decode cX9_moves 43 = .ok (.iload 5, 2) := by decide +kernel
theorem dX9_moves_45 : decode cX9_moves 45 = .ok (.iload_n 2, 1) := by decide +kernel
theorem dX9_moves_46 : decode cX9_moves 46 = .ok (.aload_n 0, 1) := by decide +kernel
theorem dX9_moves_47 : decode cX9_moves 47 = .ok (.iload_n 1, 1) := by decide +kernel
theorem dX9_moves_48 : decode cX9_moves 48 = .ok (.iload 4, 2) := by decide +kernel
theorem dX9_moves_50 : decode cX9_moves 50 = .ok (.invokevirtual 210, 3) := by decide +kernel
theorem dX9_moves_53 : decode cX9_moves 53 = .ok (.invokestatic 131, 3) := by decide +kernel
theorem dX9_moves_56 : decode cX9_moves 56 = .ok (.if_icmp .gt 30, 3) := by decide +kernel
theorem dX9_moves_59 : decode cX9_moves 59 = .ok (.iload_n 3, 1) := by decide +kernel
theorem dX9_moves_60 : decode cX9_moves 60 = .ok (.aload_n 0, 1) := by decide +kernel
theorem dX9_moves_61 : decode cX9_moves 61 = .ok (.iload_n 1, 1) := by decide +kernel
theorem dX9_moves_62 : decode cX9_moves 62 = .ok (.iload_n 2, 1) := by decide +kernel
theorem dX9_moves_63 : decode cX9_moves 63 = .ok (.iload 4, 2) := by decide +kernel
theorem dX9_moves_65 : decode cX9_moves 65 = .ok (.iload 5, 2) := by decide +kernel
theorem dX9_moves_67 : decode cX9_moves 67 = .ok (.invokevirtual 425, 3) := by decide +kernel
theorem dX9_moves_70 : decode cX9_moves 70 = .ok (.ifCond .eq 7, 3) := by decide +kernel
theorem dX9_moves_73 : decode cX9_moves 73 = .ok (.iconst 1, 1) := by decide +kernel
theorem dX9_moves_74 : decode cX9_moves 74 = .ok (.goto 4, 3) := by decide +kernel
theorem dX9_moves_77 : decode cX9_moves 77 = .ok (.iconst 0, 1) := by decide +kernel
theorem dX9_moves_78 : decode cX9_moves 78 = .ok (.iadd, 1) := by decide +kernel
theorem dX9_moves_79 : decode cX9_moves 79 = .ok (.istore_n 3, 1) := by decide +kernel
theorem dX9_moves_80 : decode cX9_moves 80 = .ok (.iinc 5 1, 3) := by decide +kernel
theorem dX9_moves_83 : decode cX9_moves 83 = .ok (.goto (-40), 3) := by decide +kernel
theorem dX9_moves_86 : decode cX9_moves 86 = .ok (.iinc 4 1, 3) := by decide +kernel
theorem dX9_moves_89 : decode cX9_moves 89 = .ok (.goto (-72), 3) := by decide +kernel
theorem dX9_moves_92 : decode cX9_moves 92 = .ok (.iload_n 3, 1) := by decide +kernel
theorem dX9_moves_93 : decode cX9_moves 93 = .ok (.ireturn, 1) := by decide +kernel
theorem dX9_odd_0 : decode cX9_odd 0 = .ok (.aload_n 0, 1) := by decide +kernel
theorem dX9_odd_1 : decode cX9_odd 1 = .ok (.iload_n 1, 1) := by decide +kernel
theorem dX9_odd_2 : decode cX9_odd 2 = .ok (.invokevirtual 272, 3) := by decide +kernel
theorem dX9_odd_5 : decode cX9_odd 5 = .ok (.ifCond .ne 6, 3) := by decide +kernel
theorem dX9_odd_8 : decode cX9_odd 8 = .ok (.bipush (-2), 2) := by decide +kernel
theorem dX9_odd_10 : decode cX9_odd 10 = .ok (.ireturn, 1) := by decide +kernel
theorem dX9_odd_11 : decode cX9_odd 11 = .ok (.iconst 0, 1) := by decide +kernel
theorem dX9_odd_12 : decode cX9_odd 12 = .ok (.istore_n 2, 1) := by decide +kernel
theorem dX9_odd_13 : decode cX9_odd 13 = .ok (.iconst 0, 1) := by decide +kernel
theorem dX9_odd_14 : decode cX9_odd 14 = .ok (.istore_n 3, 1) := by decide +kernel
theorem dX9_odd_15 : decode cX9_odd 15 = .ok (.iload_n 3, 1) := by decide +kernel
theorem dX9_odd_16 : decode cX9_odd 16 = .ok (.aload_n 0, 1) := by decide +kernel
theorem dX9_odd_17 : decode cX9_odd 17 = .ok (.iload_n 1, 1) := by decide +kernel
theorem dX9_odd_18 : decode cX9_odd 18 = .ok (.invokevirtual 207, 3) := by decide +kernel
theorem dX9_odd_21 : decode cX9_odd 21 = .ok (.if_icmp .ge 20, 3) := by decide +kernel
theorem dX9_odd_24 : decode cX9_odd 24 = .ok (.iload_n 2, 1) := by decide +kernel
theorem dX9_odd_25 : decode cX9_odd 25 = .ok (.aload_n 0, 1) := by decide +kernel
theorem dX9_odd_26 : decode cX9_odd 26 = .ok (.iload_n 1, 1) := by decide +kernel
theorem dX9_odd_27 : decode cX9_odd 27 = .ok (.iload_n 3, 1) := by decide +kernel
theorem dX9_odd_28 : decode cX9_odd 28 = .ok (.invokevirtual 210, 3) := by decide +kernel
theorem dX9_odd_31 : decode cX9_odd 31 = .ok (.iconst 2, 1) := by decide +kernel
theorem dX9_odd_32 : decode cX9_odd 32 = .ok (.irem, 1) := by decide +kernel
theorem dX9_odd_33 : decode cX9_odd 33 = .ok (.iadd, 1) := by decide +kernel
theorem dX9_odd_34 : decode cX9_odd 34 = .ok (.istore_n 2, 1) := by decide +kernel
theorem dX9_odd_35 : decode cX9_odd 35 = .ok (.iinc 3 1, 3) := by decide +kernel
theorem dX9_odd_38 : decode cX9_odd 38 = .ok (.goto (-23), 3) := by decide +kernel
theorem dX9_odd_41 : decode cX9_odd 41 = .ok (.iload_n 2, 1) := by decide +kernel
theorem dX9_odd_42 : decode cX9_odd 42 = .ok (.ireturn, 1) := by decide +kernel
theorem dX9_paste_0 : decode cX9_paste 0 = .ok (.iload_n 1, 1) := by decide +kernel
theorem dX9_paste_1 : decode cX9_paste 1 = .ok (.invokestatic 348, 3) := by decide +kernel
theorem dX9_paste_4 : decode cX9_paste 4 = .ok (.ifCond .eq 10, 3) := by decide +kernel
theorem dX9_paste_7 : decode cX9_paste 7 = .ok (.iload_n 3, 1) := by decide +kernel
theorem dX9_paste_8 : decode cX9_paste 8 = .ok (.invokestatic 348, 3) := by decide +kernel
theorem dX9_paste_11 : decode cX9_paste 11 = .ok (.ifCond .ne 6, 3) := by decide +kernel
theorem dX9_paste_14 : decode cX9_paste 14 = .ok (.bipush (-2), 2) := by decide +kernel
theorem dX9_paste_16 : decode cX9_paste 16 = .ok (.ireturn, 1) := by decide +kernel
theorem dX9_paste_17 : decode cX9_paste 17 = .ok (.aload_n 0, 1) := by decide +kernel
theorem dX9_paste_18 : decode cX9_paste 18 = .ok (.getfield 67, 3) := by decide +kernel
theorem dX9_paste_21 : decode cX9_paste 21 = .ok (.iload_n 1, 1) := by decide +kernel
theorem dX9_paste_22 : decode cX9_paste 22 = .ok (.iaload, 1) := by decide +kernel
theorem dX9_paste_23 : decode cX9_paste 23 = .ok (.iconst (-1), 1) := by decide +kernel
theorem dX9_paste_24 : decode cX9_paste 24 = .ok (.if_icmp .eq 13, 3) := by decide +kernel
theorem dX9_paste_27 : decode cX9_paste 27 = .ok (.aload_n 0, 1) := by decide +kernel
theorem dX9_paste_28 : decode cX9_paste 28 = .ok (.getfield 67, 3) := by decide +kernel
theorem dX9_paste_31 : decode cX9_paste 31 = .ok (.iload_n 3, 1) := by decide +kernel
theorem dX9_paste_32 : decode cX9_paste 32 = .ok (.iaload, 1) := by decide +kernel
theorem dX9_paste_33 : decode cX9_paste 33 = .ok (.iconst (-1), 1) := by decide +kernel
theorem dX9_paste_34 : decode cX9_paste 34 = .ok (.if_icmp .ne 6, 3) := by decide +kernel
theorem dX9_paste_37 : decode cX9_paste 37 = .ok (.bipush (-6), 2) := by decide +kernel
theorem dX9_paste_39 : decode cX9_paste 39 = .ok (.ireturn, 1) := by decide +kernel
theorem dX9_paste_40 : decode cX9_paste 40 = .ok (.aload_n 0, 1) := by decide +kernel
theorem dX9_paste_41 : decode cX9_paste 41 = .ok (.getfield 70, 3) := by decide +kernel
theorem dX9_paste_44 : decode cX9_paste 44 = .ok (.iload_n 1, 1) := by decide +kernel
theorem dX9_paste_45 : decode cX9_paste 45 = .ok (.iaload, 1) := by decide +kernel
theorem dX9_paste_46 : decode cX9_paste 46 = .ok (.aload_n 0, 1) := by decide +kernel
theorem dX9_paste_47 : decode cX9_paste 47 = .ok (.getfield 70, 3) := by decide +kernel
theorem dX9_paste_50 : decode cX9_paste 50 = .ok (.iload_n 3, 1) := by decide +kernel
theorem dX9_paste_51 : decode cX9_paste 51 = .ok (.iaload, 1) := by decide +kernel
theorem dX9_paste_52 : decode cX9_paste 52 = .ok (.if_icmp .eq 6, 3) := by decide +kernel
theorem dX9_paste_55 : decode cX9_paste 55 = .ok (.bipush (-8), 2) := by decide +kernel
theorem dX9_paste_57 : decode cX9_paste 57 = .ok (.ireturn, 1) := by decide +kernel
theorem dX9_paste_58 : decode cX9_paste 58 = .ok (.iload_n 2, 1) := by decide +kernel
theorem dX9_paste_59 : decode cX9_paste 59 = .ok (.ifCond .lt 48, 3) := by decide +kernel
theorem dX9_paste_62 : decode cX9_paste 62 = .ok (.iload 4, 2) := by decide +kernel
theorem dX9_paste_64 : decode cX9_paste 64 = .ok (.ifCond .lt 43, 3) := by decide +kernel
theorem dX9_paste_67 : decode cX9_paste 67 = .ok (.iload 5, 2) := by decide +kernel
theorem dX9_paste_69 : decode cX9_paste 69 = .ok (.ifCond .lt 38, 3) := by decide +kernel
theorem dX9_paste_72 : decode cX9_paste 72 = .ok (.iload_n 2, 1) := by decide +kernel
theorem dX9_paste_73 : decode cX9_paste 73 = .ok (.i2l, 1) := by decide +kernel
theorem dX9_paste_74 : decode cX9_paste 74 = .ok (.iload 5, 2) := by decide +kernel
theorem dX9_paste_76 : decode cX9_paste 76 = .ok (.i2l, 1) := by decide +kernel
theorem dX9_paste_77 : decode cX9_paste 77 = .ok (.ladd, 1) := by decide +kernel
theorem dX9_paste_78 : decode cX9_paste 78 = .ok (.aload_n 0, 1) := by decide +kernel
theorem dX9_paste_79 : decode cX9_paste 79 = .ok (.getfield 67, 3) := by decide +kernel
theorem dX9_paste_82 : decode cX9_paste 82 = .ok (.iload_n 1, 1) := by decide +kernel
theorem dX9_paste_83 : decode cX9_paste 83 = .ok (.iaload, 1) := by decide +kernel
theorem dX9_paste_84 : decode cX9_paste 84 = .ok (.i2l, 1) := by decide +kernel
theorem dX9_paste_85 : decode cX9_paste 85 = .ok (.lcmp, 1) := by decide +kernel
theorem dX9_paste_86 : decode cX9_paste 86 = .ok (.ifCond .gt 21, 3) := by decide +kernel
theorem dX9_paste_89 : decode cX9_paste 89 = .ok (.iload 4, 2) := by decide +kernel
theorem dX9_paste_91 : decode cX9_paste 91 = .ok (.i2l, 1) := by decide +kernel
theorem dX9_paste_92 : decode cX9_paste 92 = .ok (.iload 5, 2) := by decide +kernel
theorem dX9_paste_94 : decode cX9_paste 94 = .ok (.i2l, 1) := by decide +kernel
theorem dX9_paste_95 : decode cX9_paste 95 = .ok (.ladd, 1) := by decide +kernel
theorem dX9_paste_96 : decode cX9_paste 96 = .ok (.aload_n 0, 1) := by decide +kernel
theorem dX9_paste_97 : decode cX9_paste 97 = .ok (.getfield 67, 3) := by decide +kernel
theorem dX9_paste_100 : decode cX9_paste 100 = .ok (.iload_n 3, 1) := by decide +kernel
theorem dX9_paste_101 : decode cX9_paste 101 = .ok (.iaload, 1) := by decide +kernel
theorem dX9_paste_102 : decode cX9_paste 102 = .ok (.i2l, 1) := by decide +kernel
theorem dX9_paste_103 : decode cX9_paste 103 = .ok (.lcmp, 1) := by decide +kernel
theorem dX9_paste_104 : decode cX9_paste 104 = .ok (.ifCond .le 6, 3) := by decide +kernel
theorem dX9_paste_107 : decode cX9_paste 107 = .ok (.bipush (-7), 2) := by decide +kernel
theorem dX9_paste_109 : decode cX9_paste 109 = .ok (.ireturn, 1) := by decide +kernel
theorem dX9_paste_110 : decode cX9_paste 110 = .ok (.iconst 0, 1) := by decide +kernel
theorem dX9_paste_111 : decode cX9_paste 111 = .ok (.istore 6, 2) := by decide +kernel
theorem dX9_paste_113 : decode cX9_paste 113 = .ok (.iload 6, 2) := by decide +kernel
theorem dX9_paste_115 : decode cX9_paste 115 = .ok (.iload 5, 2) := by decide +kernel
theorem dX9_paste_117 : decode cX9_paste 117 = .ok (.if_icmp .ge 30, 3) := by decide +kernel
theorem dX9_paste_120 : decode cX9_paste 120 = .ok (.aload_n 0, 1) := by decide +kernel
theorem dX9_paste_121 : decode cX9_paste 121 = .ok (.getfield 77, 3) := by decide +kernel
theorem dX9_paste_124 : decode cX9_paste 124 = .ok (.iload 6, 2) := by decide +kernel
theorem dX9_paste_126 : decode cX9_paste 126 = .ok (.aload_n 0, 1) := by decide +kernel
theorem dX9_paste_127 : decode cX9_paste 127 = .ok (.getfield 73, 3) := by decide +kernel
theorem dX9_paste_130 : decode cX9_paste 130 = .ok (.bipush 60, 2) := by decide +kernel
theorem dX9_paste_132 : decode cX9_paste 132 = .ok (.iload_n 1, 1) := by decide +kernel
theorem dX9_paste_133 : decode cX9_paste 133 = .ok (.imul, 1) := by decide +kernel
theorem dX9_paste_134 : decode cX9_paste 134 = .ok (.iload_n 2, 1) := by decide +kernel
theorem dX9_paste_135 : decode cX9_paste 135 = .ok (.iadd, 1) := by decide +kernel
theorem dX9_paste_136 : decode cX9_paste 136 = .ok (.iload 6, 2) := by decide +kernel
theorem dX9_paste_138 : decode cX9_paste 138 = .ok (.iadd, 1) := by decide +kernel
theorem dX9_paste_139 : decode cX9_paste 139 = .ok (.laload, 1) := by decide +kernel
theorem dX9_paste_140 : decode cX9_paste 140 = .ok (.lastore, 1) := by decide +kernel
theorem dX9_paste_141 : decode cX9_paste 141 = .ok (.iinc 6 1, 3) := by decide +kernel
theorem dX9_paste_144 : decode cX9_paste 144 = .ok (.goto (-31), 3) := by decide +kernel
theorem dX9_paste_147 : decode cX9_paste 147 = .ok (.iconst 0, 1) := by decide +kernel
theorem dX9_paste_148 : decode cX9_paste 148 = .ok (.istore 6, 2) := by decide +kernel
theorem dX9_paste_150 : decode cX9_paste 150 = .ok (.iload 6, 2) := by decide +kernel
theorem dX9_paste_152 : decode cX9_paste 152 = .ok (.iload 5, 2) := by decide +kernel
theorem dX9_paste_154 : decode cX9_paste 154 = .ok (.if_icmp .ge 31, 3) := by decide +kernel
theorem dX9_paste_157 : decode cX9_paste 157 = .ok (.aload_n 0, 1) := by decide +kernel
theorem dX9_paste_158 : decode cX9_paste 158 = .ok (.getfield 73, 3) := by decide +kernel
theorem dX9_paste_161 : decode cX9_paste 161 = .ok (.bipush 60, 2) := by decide +kernel
theorem dX9_paste_163 : decode cX9_paste 163 = .ok (.iload_n 3, 1) := by decide +kernel
theorem dX9_paste_164 : decode cX9_paste 164 = .ok (.imul, 1) := by decide +kernel
theorem dX9_paste_165 : decode cX9_paste 165 = .ok (.iload 4, 2) := by decide +kernel
theorem dX9_paste_167 : decode cX9_paste 167 = .ok (.iadd, 1) := by decide +kernel
theorem dX9_paste_168 : decode cX9_paste 168 = .ok (.iload 6, 2) := by decide +kernel
theorem dX9_paste_170 : decode cX9_paste 170 = .ok (.iadd, 1) := by decide +kernel
theorem dX9_paste_171 : decode cX9_paste 171 = .ok (.aload_n 0, 1) := by decide +kernel
theorem dX9_paste_172 : decode cX9_paste 172 = .ok (.getfield 77, 3) := by decide +kernel
theorem dX9_paste_175 : decode cX9_paste 175 = .ok (.iload 6, 2) := by decide +kernel
theorem dX9_paste_177 : decode cX9_paste 177 = .ok (.laload, 1) := by decide +kernel
theorem dX9_paste_178 : decode cX9_paste 178 = .ok (.lastore, 1) := by decide +kernel
theorem dX9_paste_179 : decode cX9_paste 179 = .ok (.iinc 6 1, 3) := by decide +kernel
theorem dX9_paste_182 : decode cX9_paste 182 = .ok (.goto (-32), 3) := by decide +kernel
theorem dX9_paste_185 : decode cX9_paste 185 = .ok (.iconst 0, 1) := by decide +kernel
theorem dX9_paste_186 : decode cX9_paste 186 = .ok (.ireturn, 1) := by decide +kernel
theorem dX9_peak_0 : decode cX9_peak 0 = .ok (.aload_n 0, 1) := by decide +kernel
theorem dX9_peak_1 : decode cX9_peak 1 = .ok (.invokevirtual 265, 3) := by decide +kernel
theorem dX9_peak_4 : decode cX9_peak 4 = .ok (.ifCond .ne 6, 3) := by decide +kernel
theorem dX9_peak_7 : decode cX9_peak 7 = .ok (.bipush (-2), 2) := by decide +kernel
theorem dX9_peak_9 : decode cX9_peak 9 = .ok (.ireturn, 1) := by decide +kernel
theorem dX9_peak_10 : decode cX9_peak 10 = .ok (.iconst 0, 1) := by decide +kernel
theorem dX9_peak_11 : decode cX9_peak 11 = .ok (.istore_n 1, 1) := by decide +kernel
theorem dX9_peak_12 : decode cX9_peak 12 = .ok (.iconst 1, 1) := by decide +kernel
theorem dX9_peak_13 : decode cX9_peak 13 = .ok (.istore_n 2, 1) := by decide +kernel
theorem dX9_peak_14 : decode cX9_peak 14 = .ok (.iload_n 2, 1) := by decide +kernel
theorem dX9_peak_15 : decode cX9_peak 15 = .ok (.aload_n 0, 1) := by decide +kernel
theorem dX9_peak_16 : decode cX9_peak 16 = .ok (.invokevirtual 93, 3) := by decide +kernel
theorem dX9_peak_19 : decode cX9_peak 19 = .ok (.if_icmp .gt 28, 3) := by decide +kernel
theorem dX9_peak_22 : decode cX9_peak 22 = .ok (.aload_n 0, 1) := by decide +kernel
theorem dX9_peak_23 : decode cX9_peak 23 = .ok (.iload_n 2, 1) := by decide +kernel
theorem dX9_peak_24 : decode cX9_peak 24 = .ok (.invokevirtual 286, 3) := by decide +kernel
theorem dX9_peak_27 : decode cX9_peak 27 = .ok (.aload_n 0, 1) := by decide +kernel
theorem dX9_peak_28 : decode cX9_peak 28 = .ok (.iload_n 1, 1) := by decide +kernel
theorem dX9_peak_29 : decode cX9_peak 29 = .ok (.invokevirtual 286, 3) := by decide +kernel
theorem dX9_peak_32 : decode cX9_peak 32 = .ok (.if_icmp .le 7, 3) := by decide +kernel
theorem dX9_peak_35 : decode cX9_peak 35 = .ok (.iload_n 2, 1) := by decide +kernel
theorem dX9_peak_36 : decode cX9_peak 36 = .ok (.goto 4, 3) := by decide +kernel
theorem dX9_peak_39 : decode cX9_peak 39 = .ok (.iload_n 1, 1) := by decide +kernel
theorem dX9_peak_40 : decode cX9_peak 40 = .ok (.istore_n 1, 1) := by decide +kernel
theorem dX9_peak_41 : decode cX9_peak 41 = .ok (.iinc 2 1, 3) := by decide +kernel
theorem dX9_peak_44 : decode cX9_peak 44 = .ok (.goto (-30), 3) := by decide +kernel
theorem dX9_peak_47 : decode cX9_peak 47 = .ok (.iload_n 1, 1) := by decide +kernel
theorem dX9_peak_48 : decode cX9_peak 48 = .ok (.ireturn, 1) := by decide +kernel
theorem dX9_rate_0 : decode cX9_rate 0 = .ok (.aload_n 0, 1) := by decide +kernel
theorem dX9_rate_1 : decode cX9_rate 1 = .ok (.iload_n 1, 1) := by decide +kernel
theorem dX9_rate_2 : decode cX9_rate 2 = .ok (.invokevirtual 200, 3) := by decide +kernel
theorem dX9_rate_5 : decode cX9_rate 5 = .ok (.ifCond .eq 15, 3) := by decide +kernel
theorem dX9_rate_8 : decode cX9_rate 8 = .ok (.iload_n 2, 1) := by decide +kernel
theorem dX9_rate_9 : decode cX9_rate 9 = .ok (.i2l, 1) := by decide +kernel
theorem dX9_rate_10 : decode cX9_rate 10 = .ok (.lconst 1, 1) := by decide +kernel
theorem dX9_rate_11 : decode cX9_rate 11 = .ok (.ldc2_w 454, 3) := by decide +kernel
theorem dX9_rate_14 : decode cX9_rate 14 = .ok (.invokestatic 85, 3) := by decide +kernel
theorem dX9_rate_17 : decode cX9_rate 17 = .ok (.ifCond .ne 6, 3) := by decide +kernel
theorem dX9_rate_20 : decode cX9_rate 20 = .ok (.bipush (-2), 2) := by decide +kernel
theorem dX9_rate_22 : decode cX9_rate 22 = .ok (.ireturn, 1) := by decide +kernel
theorem dX9_rate_23 : decode cX9_rate 23 = .ok (.aload_n 0, 1) := by decide +kernel
theorem dX9_rate_24 : decode cX9_rate 24 = .ok (.getfield 9, 3) := by decide +kernel
theorem dX9_rate_27 : decode cX9_rate 27 = .ok (.iconst 5, 1) := by decide +kernel
theorem dX9_rate_28 : decode cX9_rate 28 = .ok (.iaload, 1) := by decide +kernel
theorem dX9_rate_29 : decode cX9_rate 29 = .ok (.ifCond .le 6, 3) := by decide +kernel
theorem dX9_rate_32 : decode cX9_rate 32 = .ok (.bipush (-5), 2) := by decide +kernel
theorem dX9_rate_34 : decode cX9_rate 34 = .ok (.ireturn, 1) := by decide +kernel
theorem dX9_rate_35 : decode cX9_rate 35 = .ok (.aload_n 0, 1) := by decide +kernel
theorem dX9_rate_36 : decode cX9_rate 36 = .ok (.getfield 9, 3) := by decide +kernel
theorem dX9_rate_39 : decode cX9_rate 39 = .ok (.bipush 7, 2) := by decide +kernel
theorem dX9_rate_41 : decode cX9_rate 41 = .ok (.iload_n 1, 1) := by decide +kernel
theorem dX9_rate_42 : decode cX9_rate 42 = .ok (.iadd, 1) := by decide +kernel
theorem dX9_rate_43 : decode cX9_rate 43 = .ok (.iaload, 1) := by decide +kernel
theorem dX9_rate_44 : decode cX9_rate 44 = .ok (.istore_n 3, 1) := by decide +kernel
theorem dX9_rate_45 : decode cX9_rate 45 = .ok (.aload_n 0, 1) := by decide +kernel
theorem dX9_rate_46 : decode cX9_rate 46 = .ok (.getfield 9, 3) := by decide +kernel
theorem dX9_rate_49 : decode cX9_rate 49 = .ok (.bipush 7, 2) := by decide +kernel
theorem dX9_rate_51 : decode cX9_rate 51 = .ok (.iload_n 1, 1) := by decide +kernel
theorem dX9_rate_52 : decode cX9_rate 52 = .ok (.iadd, 1) := by decide +kernel
theorem dX9_rate_53 : decode cX9_rate 53 = .ok (.iload_n 2, 1) := by decide +kernel
theorem dX9_rate_54 : decode cX9_rate 54 = .ok (.iastore, 1) := by decide +kernel
theorem dX9_rate_55 : decode cX9_rate 55 = .ok (.iload_n 3, 1) := by decide +kernel
theorem dX9_rate_56 : decode cX9_rate 56 = .ok (.ireturn, 1) := by decide +kernel
theorem dX9_rests_0 : decode cX9_rests 0 = .ok (.aload_n 0, 1) := by decide +kernel
theorem dX9_rests_1 : decode cX9_rests 1 = .ok (.iload_n 1, 1) := by decide +kernel
theorem dX9_rests_2 : decode cX9_rests 2 = .ok (.iload_n 2, 1) := by decide +kernel
theorem dX9_rests_3 : decode cX9_rests 3 = .ok (.invokevirtual 429, 3) := by decide +kernel
theorem dX9_rests_6 : decode cX9_rests 6 = .ok (.ifCond .ne 6, 3) := by decide +kernel
theorem dX9_rests_9 : decode cX9_rests 9 = .ok (.bipush (-2), 2) := by decide +kernel
theorem dX9_rests_11 : decode cX9_rests 11 = .ok (.ireturn, 1) := by decide +kernel
theorem dX9_rests_12 : decode cX9_rests 12 = .ok (.iconst 0, 1) := by decide +kernel
theorem dX9_rests_13 : decode cX9_rests 13 = .ok (.istore_n 3, 1) := by decide +kernel
theorem dX9_rests_14 : decode cX9_rests 14 = .ok (.iconst 0, 1) := by decide +kernel
theorem dX9_rests_15 : decode cX9_rests 15 = .ok (.istore 4, 2) := by decide +kernel
theorem dX9_rests_17 : decode cX9_rests 17 = .ok (.iload 4, 2) := by decide +kernel
theorem dX9_rests_19 : decode cX9_rests 19 = .ok (.iconst 4, 1) := by decide +kernel
theorem dX9_rests_20 : decode cX9_rests 20 = .ok (.if_icmp .ge 98, 3) := by decide +kernel
theorem dX9_rests_23 : decode cX9_rests 23 = .ok (.iload 4, 2) := by decide +kernel
theorem dX9_rests_25 : decode cX9_rests 25 = .ok (.iconst 1, 1) := by decide +kernel
theorem dX9_rests_26 : decode cX9_rests 26 = .ok (.iand, 1) := by decide +kernel
theorem dX9_rests_27 : decode cX9_rests 27 = .ok (.istore 5, 2) := by decide +kernel
theorem dX9_rests_29 : decode cX9_rests 29 = .ok (.iload 4, 2) := by decide +kernel
theorem dX9_rests_31 : decode cX9_rests 31 = .ok (.iconst 1, 1) := by decide +kernel
theorem dX9_rests_32 : decode cX9_rests 32 = .ok (.ishr, 1) := by decide +kernel
theorem dX9_rests_33 : decode cX9_rests 33 = .ok (.istore 6, 2) := by decide +kernel
theorem dX9_rests_35 : decode cX9_rests 35 = .ok (.aload_n 0, 1) := by decide +kernel
theorem dX9_rests_36 : decode cX9_rests 36 = .ok (.iload_n 1, 1) := by decide +kernel
theorem dX9_rests_37 : decode cX9_rests 37 = .ok (.iload_n 2, 1) := by decide +kernel
theorem dX9_rests_38 : decode cX9_rests 38 = .ok (.iload 5, 2) := by decide +kernel
theorem dX9_rests_40 : decode cX9_rests 40 = .ok (.iload 6, 2) := by decide +kernel
theorem dX9_rests_42 : decode cX9_rests 42 = .ok (.iconst 0, 1) := by decide +kernel
theorem dX9_rests_43 : decode cX9_rests 43 = .ok (.invokevirtual 432, 3) := by decide +kernel
theorem dX9_rests_46 : decode cX9_rests 46 = .ok (.aload_n 0, 1) := by decide +kernel
theorem dX9_rests_47 : decode cX9_rests 47 = .ok (.iload_n 1, 1) := by decide +kernel
theorem dX9_rests_48 : decode cX9_rests 48 = .ok (.iload_n 2, 1) := by decide +kernel
theorem dX9_rests_49 : decode cX9_rests 49 = .ok (.iconst 1, 1) := by decide +kernel
theorem dX9_rests_50 : decode cX9_rests 50 = .ok (.iload 5, 2) := by decide +kernel
theorem dX9_rests_52 : decode cX9_rests 52 = .ok (.isub, 1) := by decide +kernel
theorem dX9_rests_53 : decode cX9_rests 53 = .ok (.iload 6, 2) := by decide +kernel
theorem dX9_rests_55 : decode cX9_rests 55 = .ok (.iconst 0, 1) := by decide +kernel
theorem dX9_rests_56 : decode cX9_rests 56 = .ok (.invokevirtual 432, 3) := by decide +kernel
theorem dX9_rests_59 : decode cX9_rests 59 = .ok (.if_icmp .lt 34, 3) := by decide +kernel
theorem dX9_rests_62 : decode cX9_rests 62 = .ok (.aload_n 0, 1) := by decide +kernel
theorem dX9_rests_63 : decode cX9_rests 63 = .ok (.iload_n 1, 1) := by decide +kernel
theorem dX9_rests_64 : decode cX9_rests 64 = .ok (.iload_n 2, 1) := by decide +kernel
theorem dX9_rests_65 : decode cX9_rests 65 = .ok (.iload 5, 2) := by decide +kernel
theorem dX9_rests_67 : decode cX9_rests 67 = .ok (.iload 6, 2) := by decide +kernel
theorem dX9_rests_69 : decode cX9_rests 69 = .ok (.iconst 1, 1) := by decide +kernel
theorem dX9_rests_70 : decode cX9_rests 70 = .ok (.invokevirtual 432, 3) := by decide +kernel
theorem dX9_rests_73 : decode cX9_rests 73 = .ok (.aload_n 0, 1) := by decide +kernel
theorem dX9_rests_74 : decode cX9_rests 74 = .ok (.iload_n 1, 1) := by decide +kernel
theorem dX9_rests_75 : decode cX9_rests 75 = .ok (.iload_n 2, 1) := by decide +kernel
theorem dX9_rests_76 : decode cX9_rests 76 = .ok (.iload 5, 2) := by decide +kernel
theorem dX9_rests_78 : decode cX9_rests 78 = .ok (.iconst 1, 1) := by decide +kernel
theorem dX9_rests_79 : decode cX9_rests 79 = .ok (.iload 6, 2) := by decide +kernel
theorem dX9_rests_81 : decode cX9_rests 81 = .ok (.isub, 1) := by decide +kernel
theorem dX9_rests_82 : decode cX9_rests 82 = .ok (.iconst 1, 1) := by decide +kernel
theorem dX9_rests_83 : decode cX9_rests 83 = .ok (.invokevirtual 432, 3) := by decide +kernel
theorem dX9_rests_86 : decode cX9_rests 86 = .ok (.if_icmp .lt 7, 3) := by decide +kernel
theorem dX9_rests_89 : decode cX9_rests 89 = .ok (.iconst 1, 1) := by decide +kernel
theorem dX9_rests_90 : decode cX9_rests 90 = .ok (.goto 4, 3) := by decide +kernel
theorem dX9_rests_93 : decode cX9_rests 93 = .ok (.iconst 0, 1) := by decide +kernel
theorem dX9_rests_94 : decode cX9_rests 94 = .ok (.istore 7, 2) := by decide +kernel
theorem dX9_rests_96 : decode cX9_rests 96 = .ok (.iload_n 3, 1) := by decide +kernel
theorem dX9_rests_97 : decode cX9_rests 97 = .ok (.iload 7, 2) := by decide +kernel
theorem dX9_rests_99 : decode cX9_rests 99 = .ok (.ifCond .eq 10, 3) := by decide +kernel
theorem dX9_rests_102 : decode cX9_rests 102 = .ok (.iconst 1, 1) := by decide +kernel
theorem dX9_rests_103 : decode cX9_rests 103 = .ok (.iload 4, 2) := by decide +kernel
theorem dX9_rests_105 : decode cX9_rests 105 = .ok (.ishl, 1) := by decide +kernel
theorem dX9_rests_106 : decode cX9_rests 106 = .ok (.goto 4, 3) := by decide +kernel
theorem dX9_rests_109 : decode cX9_rests 109 = .ok (.iconst 0, 1) := by decide +kernel
theorem dX9_rests_110 : decode cX9_rests 110 = .ok (.ior, 1) := by decide +kernel
theorem dX9_rests_111 : decode cX9_rests 111 = .ok (.istore_n 3, 1) := by decide +kernel
theorem dX9_rests_112 : decode cX9_rests 112 = .ok (.iinc 4 1, 3) := by decide +kernel
theorem dX9_rests_115 : decode cX9_rests 115 = .ok (.goto (-98), 3) := by decide +kernel
theorem dX9_rests_118 : decode cX9_rests 118 = .ok (.iload_n 3, 1) := by decide +kernel
theorem dX9_rests_119 : decode cX9_rests 119 = .ok (.ireturn, 1) := by decide +kernel
theorem dX9_ring_0 : decode cX9_ring 0 = .ok (.aload_n 0, 1) := by decide +kernel
theorem dX9_ring_1 : decode cX9_ring 1 = .ok (.iload_n 1, 1) := by decide +kernel
theorem dX9_ring_2 : decode cX9_ring 2 = .ok (.invokevirtual 272, 3) := by decide +kernel
theorem dX9_ring_5 : decode cX9_ring 5 = .ok (.ifCond .ne 6, 3) := by decide +kernel
theorem dX9_ring_8 : decode cX9_ring 8 = .ok (.bipush (-2), 2) := by decide +kernel
theorem dX9_ring_10 : decode cX9_ring 10 = .ok (.ireturn, 1) := by decide +kernel
theorem dX9_ring_11 : decode cX9_ring 11 = .ok (.aload_n 0, 1) := by decide +kernel
theorem dX9_ring_12 : decode cX9_ring 12 = .ok (.iload_n 1, 1) := by decide +kernel
theorem dX9_ring_13 : decode cX9_ring 13 = .ok (.invokevirtual 311, 3) := by decide +kernel
theorem dX9_ring_16 : decode cX9_ring 16 = .ok (.ifCond .ne 5, 3) := by decide +kernel
theorem dX9_ring_19 : decode cX9_ring 19 = .ok (.iconst (-1), 1) := by decide +kernel
theorem dX9_ring_20 : decode cX9_ring 20 = .ok (.ireturn, 1) := by decide +kernel
theorem dX9_ring_21 : decode cX9_ring 21 = .ok (.iconst 0, 1) := by decide +kernel
theorem dX9_ring_22 : decode cX9_ring 22 = .ok (.istore_n 2, 1) := by decide +kernel
theorem dX9_ring_23 : decode cX9_ring 23 = .ok (.iconst 0, 1) := by decide +kernel
theorem dX9_ring_24 : decode cX9_ring 24 = .ok (.istore_n 3, 1) := by decide +kernel
theorem dX9_ring_25 : decode cX9_ring 25 = .ok (.iload_n 3, 1) := by decide +kernel
theorem dX9_ring_26 : decode cX9_ring 26 = .ok (.aload_n 0, 1) := by decide +kernel
theorem dX9_ring_27 : decode cX9_ring 27 = .ok (.getfield 305, 3) := by decide +kernel
theorem dX9_ring_30 : decode cX9_ring 30 = .ok (.if_icmp .ge 26, 3) := by decide +kernel
theorem dX9_ring_33 : decode cX9_ring 33 = .ok (.iload_n 2, 1) := by decide +kernel
theorem dX9_ring_34 : decode cX9_ring 34 = .ok (.aload_n 0, 1) := by decide +kernel
theorem dX9_ring_35 : decode cX9_ring 35 = .ok (.bipush 18, 2) := by decide +kernel
theorem dX9_ring_37 : decode cX9_ring 37 = .ok (.invokevirtual 207, 3) := by decide +kernel
theorem dX9_ring_40 : decode cX9_ring 40 = .ok (.invokestatic 283, 3) := by decide +kernel
theorem dX9_ring_43 : decode cX9_ring 43 = .ok (.istore_n 2, 1) := by decide +kernel
theorem dX9_ring_44 : decode cX9_ring 44 = .ok (.aload_n 0, 1) := by decide +kernel
theorem dX9_ring_45 : decode cX9_ring 45 = .ok (.bipush 18, 2) := by decide +kernel
theorem dX9_ring_47 : decode cX9_ring 47 = .ok (.invokevirtual 256, 3) := by decide +kernel
theorem dX9_ring_50 : decode cX9_ring 50 = .ok (.iinc 3 1, 3) := by decide +kernel
theorem dX9_ring_53 : decode cX9_ring 53 = .ok (.goto (-28), 3) := by decide +kernel
theorem dX9_ring_56 : decode cX9_ring 56 = .ok (.iload_n 2, 1) := by decide +kernel
theorem dX9_ring_57 : decode cX9_ring 57 = .ok (.ireturn, 1) := by decide +kernel
theorem dX9_ringed_0 : decode cX9_ringed 0 = .ok (.aload_n 0, 1) := by decide +kernel
theorem dX9_ringed_1 : decode cX9_ringed 1 = .ok (.iload_n 1, 1) := by decide +kernel
theorem dX9_ringed_2 : decode cX9_ringed 2 = .ok (.invokevirtual 342, 3) := by decide +kernel
theorem dX9_ringed_5 : decode cX9_ringed 5 = .ok (.ifCond .ne 6, 3) := by decide +kernel
theorem dX9_ringed_8 : decode cX9_ringed 8 = .ok (.bipush (-2), 2) := by decide +kernel
theorem dX9_ringed_10 : decode cX9_ringed 10 = .ok (.ireturn, 1) := by decide +kernel
theorem dX9_ringed_11 : decode cX9_ringed 11 = .ok (.iconst 0, 1) := by decide +kernel
theorem dX9_ringed_12 : decode cX9_ringed 12 = .ok (.istore_n 2, 1) := by decide +kernel
theorem dX9_ringed_13 : decode cX9_ringed 13 = .ok (.iconst 0, 1) := by decide +kernel
theorem dX9_ringed_14 : decode cX9_ringed 14 = .ok (.istore_n 3, 1) := by decide +kernel
theorem dX9_ringed_15 : decode cX9_ringed 15 = .ok (.iload_n 3, 1) := by decide +kernel
theorem dX9_ringed_16 : decode cX9_ringed 16 = .ok (.aload_n 0, 1) := by decide +kernel
theorem dX9_ringed_17 : decode cX9_ringed 17 = .ok (.getfield 316, 3) := by decide +kernel
theorem dX9_ringed_20 : decode cX9_ringed 20 = .ok (.if_icmp .ge 26, 3) := by decide +kernel
theorem dX9_ringed_23 : decode cX9_ringed 23 = .ok (.iload_n 2, 1) := by decide +kernel
theorem dX9_ringed_24 : decode cX9_ringed 24 = .ok (.aload_n 0, 1) := by decide +kernel
theorem dX9_ringed_25 : decode cX9_ringed 25 = .ok (.getfield 55, 3) := by decide +kernel
theorem dX9_ringed_28 : decode cX9_ringed 28 = .ok (.iload_n 3, 1) := by decide +kernel
theorem dX9_ringed_29 : decode cX9_ringed 29 = .ok (.iaload, 1) := by decide +kernel
theorem dX9_ringed_30 : decode cX9_ringed 30 = .ok (.ifCond .ne 7, 3) := by decide +kernel
theorem dX9_ringed_33 : decode cX9_ringed 33 = .ok (.iconst 1, 1) := by decide +kernel
theorem dX9_ringed_34 : decode cX9_ringed 34 = .ok (.goto 4, 3) := by decide +kernel
theorem dX9_ringed_37 : decode cX9_ringed 37 = .ok (.iconst 0, 1) := by decide +kernel
theorem dX9_ringed_38 : decode cX9_ringed 38 = .ok (.iadd, 1) := by decide +kernel
theorem dX9_ringed_39 : decode cX9_ringed 39 = .ok (.istore_n 2, 1) := by decide +kernel
theorem dX9_ringed_40 : decode cX9_ringed 40 = .ok (.iinc 3 1, 3) := by decide +kernel
theorem dX9_ringed_43 : decode cX9_ringed 43 = .ok (.goto (-28), 3) := by decide +kernel
theorem dX9_ringed_46 : decode cX9_ringed 46 = .ok (.iload_n 2, 1) := by decide +kernel
theorem dX9_ringed_47 : decode cX9_ringed 47 = .ok (.ireturn, 1) := by decide +kernel
theorem dX9_rings_0 : decode cX9_rings 0 = .ok (.aload_n 0, 1) := by decide +kernel
theorem dX9_rings_1 : decode cX9_rings 1 = .ok (.iload_n 1, 1) := by decide +kernel
theorem dX9_rings_2 : decode cX9_rings 2 = .ok (.invokevirtual 342, 3) := by decide +kernel
theorem dX9_rings_5 : decode cX9_rings 5 = .ok (.ifCond .ne 6, 3) := by decide +kernel
theorem dX9_rings_8 : decode cX9_rings 8 = .ok (.bipush (-2), 2) := by decide +kernel
theorem dX9_rings_10 : decode cX9_rings 10 = .ok (.ireturn, 1) := by decide +kernel
theorem dX9_rings_11 : decode cX9_rings 11 = .ok (.iconst 0, 1) := by decide +kernel
theorem dX9_rings_12 : decode cX9_rings 12 = .ok (.istore_n 2, 1) := by decide +kernel
theorem dX9_rings_13 : decode cX9_rings 13 = .ok (.iconst 0, 1) := by decide +kernel
theorem dX9_rings_14 : decode cX9_rings 14 = .ok (.istore_n 3, 1) := by decide +kernel
theorem dX9_rings_15 : decode cX9_rings 15 = .ok (.iload_n 3, 1) := by decide +kernel
theorem dX9_rings_16 : decode cX9_rings 16 = .ok (.aload_n 0, 1) := by decide +kernel
theorem dX9_rings_17 : decode cX9_rings 17 = .ok (.getfield 316, 3) := by decide +kernel
theorem dX9_rings_20 : decode cX9_rings 20 = .ok (.if_icmp .ge 73, 3) := by decide +kernel
theorem dX9_rings_23 : decode cX9_rings 23 = .ok (.aload_n 0, 1) := by decide +kernel
theorem dX9_rings_24 : decode cX9_rings 24 = .ok (.getfield 55, 3) := by decide +kernel
theorem dX9_rings_27 : decode cX9_rings 27 = .ok (.iload_n 3, 1) := by decide +kernel
theorem dX9_rings_28 : decode cX9_rings 28 = .ok (.iaload, 1) := by decide +kernel
theorem dX9_rings_29 : decode cX9_rings 29 = .ok (.ifCond .le 6, 3) := by decide +kernel
theorem dX9_rings_32 : decode cX9_rings 32 = .ok (.goto 55, 3) := by decide +kernel
theorem dX9_rings_35 : decode cX9_rings 35 = .ok (.iload_n 3, 1) := by decide +kernel
theorem dX9_rings_36 : decode cX9_rings 36 = .ok (.istore 4, 2) := by decide +kernel
theorem dX9_rings_38 : decode cX9_rings 38 = .ok (.aload_n 0, 1) := by decide +kernel
theorem dX9_rings_39 : decode cX9_rings 39 = .ok (.getfield 52, 3) := by decide +kernel
theorem dX9_rings_42 : decode cX9_rings 42 = .ok (.iload_n 3, 1) := by decide +kernel
theorem dX9_rings_43 : decode cX9_rings 43 = .ok (.iaload, 1) := by decide +kernel
theorem dX9_rings_44 : decode cX9_rings 44 = .ok (.istore 5, 2) := by decide +kernel
theorem dX9_rings_46 : decode cX9_rings 46 = .ok (.iload 5, 2) := by decide +kernel
theorem dX9_rings_48 : decode cX9_rings 48 = .ok (.iload_n 3, 1) := by decide +kernel
theorem dX9_rings_49 : decode cX9_rings 49 = .ok (.if_icmp .eq 24, 3) := by decide +kernel
theorem dX9_rings_52 : decode cX9_rings 52 = .ok (.iload 4, 2) := by decide +kernel
theorem dX9_rings_54 : decode cX9_rings 54 = .ok (.iload 5, 2) := by decide +kernel
theorem dX9_rings_56 : decode cX9_rings 56 = .ok (.invokestatic 131, 3) := by decide +kernel
theorem dX9_rings_59 : decode cX9_rings 59 = .ok (.istore 4, 2) := by decide +kernel
theorem dX9_rings_61 : decode cX9_rings 61 = .ok (.aload_n 0, 1) := by decide +kernel
theorem dX9_rings_62 : decode cX9_rings 62 = .ok (.getfield 52, 3) := by decide +kernel
theorem dX9_rings_65 : decode cX9_rings 65 = .ok (.iload 5, 2) := by decide +kernel
theorem dX9_rings_67 : decode cX9_rings 67 = .ok (.iaload, 1) := by decide +kernel
theorem dX9_rings_68 : decode cX9_rings 68 = .ok (.istore 5, 2) := by decide +kernel
theorem dX9_rings_70 : decode cX9_rings 70 = .ok (.goto (-24), 3) := by decide +kernel
theorem dX9_rings_73 : decode cX9_rings 73 = .ok (.iload_n 2, 1) := by decide +kernel
theorem dX9_rings_74 : decode cX9_rings 74 = .ok (.iload 4, 2) := by decide +kernel
theorem dX9_rings_76 : decode cX9_rings 76 = .ok (.iload_n 3, 1) := by decide +kernel
theorem dX9_rings_77 : decode cX9_rings 77 = .ok (.if_icmp .ne 7, 3) := by decide +kernel
theorem dX9_rings_80 : decode cX9_rings 80 = .ok (.iconst 1, 1) := by decide +kernel
theorem dX9_rings_81 : decode cX9_rings 81 = .ok (.goto 4, 3) := by decide +kernel
theorem dX9_rings_84 : decode cX9_rings 84 = .ok (.iconst 0, 1) := by decide +kernel
theorem dX9_rings_85 : decode cX9_rings 85 = .ok (.iadd, 1) := by decide +kernel
theorem dX9_rings_86 : decode cX9_rings 86 = .ok (.istore_n 2, 1) := by decide +kernel
theorem dX9_rings_87 : decode cX9_rings 87 = .ok (.iinc 3 1, 3) := by decide +kernel
theorem dX9_rings_90 : decode cX9_rings 90 = .ok (.goto (-75), 3) := by decide +kernel
theorem dX9_rings_93 : decode cX9_rings 93 = .ok (.iload_n 2, 1) := by decide +kernel
theorem dX9_rings_94 : decode cX9_rings 94 = .ok (.ireturn, 1) := by decide +kernel
theorem dX9_row_0 : decode cX9_row 0 = .ok (.iload_n 1, 1) := by decide +kernel
theorem dX9_row_1 : decode cX9_row 1 = .ok (.invokestatic 348, 3) := by decide +kernel
theorem dX9_row_4 : decode cX9_row 4 = .ok (.ifCond .eq 21, 3) := by decide +kernel
theorem dX9_row_7 : decode cX9_row 7 = .ok (.iload_n 2, 1) := by decide +kernel
theorem dX9_row_8 : decode cX9_row 8 = .ok (.i2l, 1) := by decide +kernel
theorem dX9_row_9 : decode cX9_row 9 = .ok (.lconst 0, 1) := by decide +kernel
theorem dX9_row_10 : decode cX9_row 10 = .ok (.ldc2_w 390, 3) := by decide +kernel
theorem dX9_row_13 : decode cX9_row 13 = .ok (.invokestatic 85, 3) := by decide +kernel
theorem dX9_row_16 : decode cX9_row 16 = .ok (.ifCond .eq 9, 3) := by decide +kernel
theorem dX9_row_19 : decode cX9_row 19 = .ok (.iload_n 3, 1) := by decide +kernel
theorem dX9_row_20 : decode cX9_row 20 = .ok (.bipush 60, 2) := by decide +kernel
theorem dX9_row_22 : decode cX9_row 22 = .ok (.if_icmp .le 6, 3) := by decide +kernel
theorem dX9_row_25 : decode cX9_row 25 = .ok (.bipush (-2), 2) := by decide +kernel
theorem dX9_row_27 : decode cX9_row 27 = .ok (.ireturn, 1) := by decide +kernel
theorem dX9_row_28 : decode cX9_row 28 = .ok (.iload_n 3, 1) := by decide +kernel
theorem dX9_row_29 : decode cX9_row 29 = .ok (.ifCond .ge 6, 3) := by decide +kernel
theorem dX9_row_32 : decode cX9_row 32 = .ok (.bipush (-3), 2) := by decide +kernel
theorem dX9_row_34 : decode cX9_row 34 = .ok (.ireturn, 1) := by decide +kernel
theorem dX9_row_35 : decode cX9_row 35 = .ok (.aload_n 0, 1) := by decide +kernel
theorem dX9_row_36 : decode cX9_row 36 = .ok (.getfield 67, 3) := by decide +kernel
theorem dX9_row_39 : decode cX9_row 39 = .ok (.iload_n 1, 1) := by decide +kernel
theorem dX9_row_40 : decode cX9_row 40 = .ok (.iload_n 3, 1) := by decide +kernel
theorem dX9_row_41 : decode cX9_row 41 = .ok (.iastore, 1) := by decide +kernel
theorem dX9_row_42 : decode cX9_row 42 = .ok (.aload_n 0, 1) := by decide +kernel
theorem dX9_row_43 : decode cX9_row 43 = .ok (.getfield 70, 3) := by decide +kernel
theorem dX9_row_46 : decode cX9_row 46 = .ok (.iload_n 1, 1) := by decide +kernel
theorem dX9_row_47 : decode cX9_row 47 = .ok (.iload_n 2, 1) := by decide +kernel
theorem dX9_row_48 : decode cX9_row 48 = .ok (.iastore, 1) := by decide +kernel
theorem dX9_row_49 : decode cX9_row 49 = .ok (.iconst 0, 1) := by decide +kernel
theorem dX9_row_50 : decode cX9_row 50 = .ok (.istore 4, 2) := by decide +kernel
theorem dX9_row_52 : decode cX9_row 52 = .ok (.iload 4, 2) := by decide +kernel
theorem dX9_row_54 : decode cX9_row 54 = .ok (.bipush 60, 2) := by decide +kernel
theorem dX9_row_56 : decode cX9_row 56 = .ok (.if_icmp .ge 22, 3) := by decide +kernel
theorem dX9_row_59 : decode cX9_row 59 = .ok (.aload_n 0, 1) := by decide +kernel
theorem dX9_row_60 : decode cX9_row 60 = .ok (.getfield 73, 3) := by decide +kernel
theorem dX9_row_63 : decode cX9_row 63 = .ok (.bipush 60, 2) := by decide +kernel
theorem dX9_row_65 : decode cX9_row 65 = .ok (.iload_n 1, 1) := by decide +kernel
theorem dX9_row_66 : decode cX9_row 66 = .ok (.imul, 1) := by decide +kernel
theorem dX9_row_67 : decode cX9_row 67 = .ok (.iload 4, 2) := by decide +kernel
theorem dX9_row_69 : decode cX9_row 69 = .ok (.iadd, 1) := by decide +kernel
theorem dX9_row_70 : decode cX9_row 70 = .ok (.lconst 0, 1) := by decide +kernel
theorem dX9_row_71 : decode cX9_row 71 = .ok (.lastore, 1) := by decide +kernel
theorem dX9_row_72 : decode cX9_row 72 = .ok (.iinc 4 1, 3) := by decide +kernel
theorem dX9_row_75 : decode cX9_row 75 = .ok (.goto (-23), 3) := by decide +kernel
theorem dX9_row_78 : decode cX9_row 78 = .ok (.iconst 0, 1) := by decide +kernel
theorem dX9_row_79 : decode cX9_row 79 = .ok (.ireturn, 1) := by decide +kernel
theorem dX9_rows_0 : decode cX9_rows 0 = .ok (.aload_n 0, 1) := by decide +kernel
theorem dX9_rows_1 : decode cX9_rows 1 = .ok (.invokevirtual 265, 3) := by decide +kernel
theorem dX9_rows_4 : decode cX9_rows 4 = .ok (.ifCond .ne 6, 3) := by decide +kernel
theorem dX9_rows_7 : decode cX9_rows 7 = .ok (.bipush (-2), 2) := by decide +kernel
theorem dX9_rows_9 : decode cX9_rows 9 = .ok (.ireturn, 1) := by decide +kernel
theorem dX9_rows_10 : decode cX9_rows 10 = .ok (.iconst 0, 1) := by decide +kernel
theorem dX9_rows_11 : decode cX9_rows 11 = .ok (.istore_n 1, 1) := by decide +kernel
theorem dX9_rows_12 : decode cX9_rows 12 = .ok (.iconst 0, 1) := by decide +kernel
theorem dX9_rows_13 : decode cX9_rows 13 = .ok (.istore_n 2, 1) := by decide +kernel
theorem dX9_rows_14 : decode cX9_rows 14 = .ok (.iload_n 2, 1) := by decide +kernel
theorem dX9_rows_15 : decode cX9_rows 15 = .ok (.aload_n 0, 1) := by decide +kernel
theorem dX9_rows_16 : decode cX9_rows 16 = .ok (.invokevirtual 93, 3) := by decide +kernel
theorem dX9_rows_19 : decode cX9_rows 19 = .ok (.if_icmp .gt 26, 3) := by decide +kernel
theorem dX9_rows_22 : decode cX9_rows 22 = .ok (.iload_n 1, 1) := by decide +kernel
theorem dX9_rows_23 : decode cX9_rows 23 = .ok (.aload_n 0, 1) := by decide +kernel
theorem dX9_rows_24 : decode cX9_rows 24 = .ok (.iload_n 2, 1) := by decide +kernel
theorem dX9_rows_25 : decode cX9_rows 25 = .ok (.invokevirtual 293, 3) := by decide +kernel
theorem dX9_rows_28 : decode cX9_rows 28 = .ok (.iload_n 2, 1) := by decide +kernel
theorem dX9_rows_29 : decode cX9_rows 29 = .ok (.if_icmp .ne 7, 3) := by decide +kernel
theorem dX9_rows_32 : decode cX9_rows 32 = .ok (.iconst 1, 1) := by decide +kernel
theorem dX9_rows_33 : decode cX9_rows 33 = .ok (.goto 4, 3) := by decide +kernel
theorem dX9_rows_36 : decode cX9_rows 36 = .ok (.iconst 0, 1) := by decide +kernel
theorem dX9_rows_37 : decode cX9_rows 37 = .ok (.iadd, 1) := by decide +kernel
theorem dX9_rows_38 : decode cX9_rows 38 = .ok (.istore_n 1, 1) := by decide +kernel
theorem dX9_rows_39 : decode cX9_rows 39 = .ok (.iinc 2 1, 3) := by decide +kernel
theorem dX9_rows_42 : decode cX9_rows 42 = .ok (.goto (-28), 3) := by decide +kernel
theorem dX9_rows_45 : decode cX9_rows 45 = .ok (.iload_n 1, 1) := by decide +kernel
theorem dX9_rows_46 : decode cX9_rows 46 = .ok (.ireturn, 1) := by decide +kernel
theorem dX9_rowsOf_0 : decode cX9_rowsOf 0 = .ok (.aload_n 0, 1) := by decide +kernel
theorem dX9_rowsOf_1 : decode cX9_rowsOf 1 = .ok (.iload_n 1, 1) := by decide +kernel
theorem dX9_rowsOf_2 : decode cX9_rowsOf 2 = .ok (.invokevirtual 342, 3) := by decide +kernel
theorem dX9_rowsOf_5 : decode cX9_rowsOf 5 = .ok (.ifCond .eq 10, 3) := by decide +kernel
theorem dX9_rowsOf_8 : decode cX9_rowsOf 8 = .ok (.aload_n 0, 1) := by decide +kernel
theorem dX9_rowsOf_9 : decode cX9_rowsOf 9 = .ok (.getfield 316, 3) := by decide +kernel
theorem dX9_rowsOf_12 : decode cX9_rowsOf 12 = .ok (.goto 5, 3) := by decide +kernel
theorem dX9_rowsOf_15 : decode cX9_rowsOf 15 = .ok (.bipush (-2), 2) := by decide +kernel
theorem dX9_rowsOf_17 : decode cX9_rowsOf 17 = .ok (.ireturn, 1) := by decide +kernel
theorem dX9_same_0 : decode cX9_same 0 = .ok (.aload_n 0, 1) := by decide +kernel
theorem dX9_same_1 : decode cX9_same 1 = .ok (.iload_n 1, 1) := by decide +kernel
theorem dX9_same_2 : decode cX9_same 2 = .ok (.invokevirtual 272, 3) := by decide +kernel
theorem dX9_same_5 : decode cX9_same 5 = .ok (.ifCond .eq 11, 3) := by decide +kernel
theorem dX9_same_8 : decode cX9_same 8 = .ok (.aload_n 0, 1) := by decide +kernel
theorem dX9_same_9 : decode cX9_same 9 = .ok (.iload_n 1, 1) := by decide +kernel
theorem dX9_same_10 : decode cX9_same 10 = .ok (.invokevirtual 293, 3) := by decide +kernel
theorem dX9_same_13 : decode cX9_same 13 = .ok (.goto 5, 3) := by decide +kernel
theorem dX9_same_16 : decode cX9_same 16 = .ok (.bipush (-2), 2) := by decide +kernel
theorem dX9_same_18 : decode cX9_same 18 = .ok (.ireturn, 1) := by decide +kernel
theorem dX9_see_0 : decode cX9_see 0 = .ok (.iload_n 1, 1) := by decide +kernel
theorem dX9_see_1 : decode cX9_see 1 = .ok (.aload_n 0, 1) := by decide +kernel
theorem dX9_see_2 : decode cX9_see 2 = .ok (.getfield 103, 3) := by decide +kernel
theorem dX9_see_5 : decode cX9_see 5 = .ok (.if_icmp .ge 16, 3) := by decide +kernel
theorem dX9_see_8 : decode cX9_see 8 = .ok (.aload_n 0, 1) := by decide +kernel
theorem dX9_see_9 : decode cX9_see 9 = .ok (.getfield 20, 3) := by decide +kernel
theorem dX9_see_12 : decode cX9_see 12 = .ok (.iload_n 1, 1) := by decide +kernel
theorem dX9_see_13 : decode cX9_see 13 = .ok (.baload, 1) := by decide +kernel
theorem dX9_see_14 : decode cX9_see 14 = .ok (.sipush 255, 3) := by decide +kernel
theorem dX9_see_17 : decode cX9_see 17 = .ok (.iand, 1) := by decide +kernel
theorem dX9_see_18 : decode cX9_see 18 = .ok (.goto 4, 3) := by decide +kernel
theorem dX9_see_21 : decode cX9_see 21 = .ok (.iconst (-1), 1) := by decide +kernel
theorem dX9_see_22 : decode cX9_see 22 = .ok (.ireturn, 1) := by decide +kernel
theorem dX9_share_0 : decode cX9_share 0 = .ok (.aload_n 0, 1) := by decide +kernel
theorem dX9_share_1 : decode cX9_share 1 = .ok (.invokevirtual 259, 3) := by decide +kernel
theorem dX9_share_4 : decode cX9_share 4 = .ok (.aload_n 0, 1) := by decide +kernel
theorem dX9_share_5 : decode cX9_share 5 = .ok (.iload_n 1, 1) := by decide +kernel
theorem dX9_share_6 : decode cX9_share 6 = .ok (.invokevirtual 204, 3) := by decide +kernel
theorem dX9_share_9 : decode cX9_share 9 = .ok (.ifCond .eq 13, 3) := by decide +kernel
theorem dX9_share_12 : decode cX9_share 12 = .ok (.iload_n 2, 1) := by decide +kernel
theorem dX9_share_13 : decode cX9_share 13 = .ok (.i2l, 1) := by decide +kernel
theorem dX9_share_14 : decode cX9_share 14 = .ok (.lconst 0, 1) := by decide +kernel
theorem dX9_share_15 : decode cX9_share 15 = .ok (.lconst 1, 1) := by decide +kernel
theorem dX9_share_16 : decode cX9_share 16 = .ok (.invokestatic 85, 3) := by decide +kernel
theorem dX9_share_19 : decode cX9_share 19 = .ok (.ifCond .ne 7, 3) := by decide +kernel
theorem dX9_share_22 : decode cX9_share 22 = .ok (.sipush (-1000), 3) := by decide +kernel
theorem dX9_share_25 : decode cX9_share 25 = .ok (.ireturn, 1) := by decide +kernel
theorem dX9_share_26 : decode cX9_share 26 = .ok (.aload_n 0, 1) := by decide +kernel
theorem dX9_share_27 : decode cX9_share 27 = .ok (.invokevirtual 97, 3) := by decide +kernel
theorem dX9_share_30 : decode cX9_share 30 = .ok (.istore_n 3, 1) := by decide +kernel
theorem dX9_share_31 : decode cX9_share 31 = .ok (.iconst 0, 1) := by decide +kernel
theorem dX9_share_32 : decode cX9_share 32 = .ok (.istore 4, 2) := by decide +kernel
theorem dX9_share_34 : decode cX9_share 34 = .ok (.iload 4, 2) := by decide +kernel
theorem dX9_share_36 : decode cX9_share 36 = .ok (.iconst 1, 1) := by decide +kernel
theorem dX9_share_37 : decode cX9_share 37 = .ok (.iload_n 3, 1) := by decide +kernel
theorem dX9_share_38 : decode cX9_share 38 = .ok (.ishl, 1) := by decide +kernel
theorem dX9_share_39 : decode cX9_share 39 = .ok (.if_icmp .ge 22, 3) := by decide +kernel
theorem dX9_share_42 : decode cX9_share 42 = .ok (.aload_n 0, 1) := by decide +kernel
theorem dX9_share_43 : decode cX9_share 43 = .ok (.getfield 64, 3) := by decide +kernel
theorem dX9_share_46 : decode cX9_share 46 = .ok (.iload 4, 2) := by decide +kernel
theorem dX9_share_48 : decode cX9_share 48 = .ok (.aload_n 0, 1) := by decide +kernel
theorem dX9_share_49 : decode cX9_share 49 = .ok (.iload 4, 2) := by decide +kernel
theorem dX9_share_51 : decode cX9_share 51 = .ok (.invokevirtual 395, 3) := by decide +kernel
theorem dX9_share_54 : decode cX9_share 54 = .ok (.iastore, 1) := by decide +kernel
theorem dX9_share_55 : decode cX9_share 55 = .ok (.iinc 4 1, 3) := by decide +kernel
theorem dX9_share_58 : decode cX9_share 58 = .ok (.goto (-24), 3) := by decide +kernel
theorem dX9_share_61 : decode cX9_share 61 = .ok (.lconst 0, 1) := by decide +kernel
theorem dX9_share_62 : decode cX9_share 62 = .ok (.lstore 4, 2) := by decide +kernel
theorem dX9_share_64 : decode cX9_share 64 = .ok (.iconst 0, 1) := by decide +kernel
theorem dX9_share_65 : decode cX9_share 65 = .ok (.istore 6, 2) := by decide +kernel
theorem dX9_share_67 : decode cX9_share 67 = .ok (.iload 6, 2) := by decide +kernel
theorem dX9_share_69 : decode cX9_share 69 = .ok (.iconst 1, 1) := by decide +kernel
theorem dX9_share_70 : decode cX9_share 70 = .ok (.iload_n 3, 1) := by decide +kernel
theorem dX9_share_71 : decode cX9_share 71 = .ok (.ishl, 1) := by decide +kernel
theorem dX9_share_72 : decode cX9_share 72 = .ok (.if_icmp .ge 67, 3) := by decide +kernel
theorem dX9_share_75 : decode cX9_share 75 = .ok (.iload 6, 2) := by decide +kernel
theorem dX9_share_77 : decode cX9_share 77 = .ok (.iload_n 1, 1) := by decide +kernel
theorem dX9_share_78 : decode cX9_share 78 = .ok (.invokestatic 244, 3) := by decide +kernel
theorem dX9_share_81 : decode cX9_share 81 = .ok (.ifCond .ne 52, 3) := by decide +kernel
theorem dX9_share_84 : decode cX9_share 84 = .ok (.lload 4, 2) := by decide +kernel
theorem dX9_share_86 : decode cX9_share 86 = .ok (.iload 6, 2) := by decide +kernel
theorem dX9_share_88 : decode cX9_share 88 = .ok (.invokestatic 406, 3) := by decide +kernel
theorem dX9_share_91 : decode cX9_share 91 = .ok (.invokestatic 409, 3) := by decide +kernel
theorem dX9_share_94 : decode cX9_share 94 = .ok (.i2l, 1) := by decide +kernel
theorem dX9_share_95 : decode cX9_share 95 = .ok (.iload_n 3, 1) := by decide +kernel
theorem dX9_share_96 : decode cX9_share 96 = .ok (.iconst 1, 1) := by decide +kernel
theorem dX9_share_97 : decode cX9_share 97 = .ok (.isub, 1) := by decide +kernel
theorem dX9_share_98 : decode cX9_share 98 = .ok (.iload 6, 2) := by decide +kernel
theorem dX9_share_100 : decode cX9_share 100 = .ok (.invokestatic 406, 3) := by decide +kernel
theorem dX9_share_103 : decode cX9_share 103 = .ok (.isub, 1) := by decide +kernel
theorem dX9_share_104 : decode cX9_share 104 = .ok (.invokestatic 409, 3) := by decide +kernel
theorem dX9_share_107 : decode cX9_share 107 = .ok (.i2l, 1) := by decide +kernel
theorem dX9_share_108 : decode cX9_share 108 = .ok (.lmul, 1) := by decide +kernel
theorem dX9_share_109 : decode cX9_share 109 = .ok (.aload_n 0, 1) := by decide +kernel
theorem dX9_share_110 : decode cX9_share 110 = .ok (.getfield 64, 3) := by decide +kernel
theorem dX9_share_113 : decode cX9_share 113 = .ok (.iload 6, 2) := by decide +kernel
theorem dX9_share_115 : decode cX9_share 115 = .ok (.iconst 1, 1) := by decide +kernel
theorem dX9_share_116 : decode cX9_share 116 = .ok (.iload_n 1, 1) := by decide +kernel
theorem dX9_share_117 : decode cX9_share 117 = .ok (.ishl, 1) := by decide +kernel
theorem dX9_share_118 : decode cX9_share 118 = .ok (.ior, 1) := by decide +kernel
theorem dX9_share_119 : decode cX9_share 119 = .ok (.iaload, 1) := by decide +kernel
theorem dX9_share_120 : decode cX9_share 120 = .ok (.aload_n 0, 1) := by decide +kernel
theorem dX9_share_121 : decode cX9_share 121 = .ok (.getfield 64, 3) := by decide +kernel
theorem dX9_share_124 : decode cX9_share 124 = .ok (.iload 6, 2) := by decide +kernel
theorem dX9_share_126 : decode cX9_share 126 = .ok (.iaload, 1) := by decide +kernel
theorem dX9_share_127 : decode cX9_share 127 = .ok (.isub, 1) := by decide +kernel
theorem dX9_share_128 : decode cX9_share 128 = .ok (.i2l, 1) := by decide +kernel
theorem dX9_share_129 : decode cX9_share 129 = .ok (.lmul, 1) := by decide +kernel
theorem dX9_share_130 : decode cX9_share 130 = .ok (.ladd, 1) := by decide +kernel
theorem dX9_share_131 : decode cX9_share 131 = .ok (.lstore 4, 2) := by decide +kernel
theorem dX9_share_133 : decode cX9_share 133 = .ok (.iinc 6 1, 3) := by decide +kernel
theorem dX9_share_136 : decode cX9_share 136 = .ok (.goto (-69), 3) := by decide +kernel
theorem dX9_share_139 : decode cX9_share 139 = .ok (.lload 4, 2) := by decide +kernel
theorem dX9_share_141 : decode cX9_share 141 = .ok (.iload_n 3, 1) := by decide +kernel
theorem dX9_share_142 : decode cX9_share 142 = .ok (.invokestatic 409, 3) := by decide +kernel
theorem dX9_share_145 : decode cX9_share 145 = .ok (.i2l, 1) := by decide +kernel
theorem dX9_share_146 : decode cX9_share 146 = .ok (.iload_n 2, 1) := by decide +kernel
theorem dX9_share_147 : decode cX9_share 147 = .ok (.invokestatic 412, 3) := by decide +kernel
theorem dX9_share_150 : decode cX9_share 150 = .ok (.l2i, 1) := by decide +kernel
theorem dX9_share_151 : decode cX9_share 151 = .ok (.ireturn, 1) := by decide +kernel
theorem dX9_soon_0 : decode cX9_soon 0 = .ok (.aload_n 0, 1) := by decide +kernel
theorem dX9_soon_1 : decode cX9_soon 1 = .ok (.iload_n 1, 1) := by decide +kernel
theorem dX9_soon_2 : decode cX9_soon 2 = .ok (.invokevirtual 272, 3) := by decide +kernel
theorem dX9_soon_5 : decode cX9_soon 5 = .ok (.ifCond .ne 6, 3) := by decide +kernel
theorem dX9_soon_8 : decode cX9_soon 8 = .ok (.bipush (-2), 2) := by decide +kernel
theorem dX9_soon_10 : decode cX9_soon 10 = .ok (.ireturn, 1) := by decide +kernel
theorem dX9_soon_11 : decode cX9_soon 11 = .ok (.aload_n 0, 1) := by decide +kernel
theorem dX9_soon_12 : decode cX9_soon 12 = .ok (.iload_n 1, 1) := by decide +kernel
theorem dX9_soon_13 : decode cX9_soon 13 = .ok (.invokevirtual 311, 3) := by decide +kernel
theorem dX9_soon_16 : decode cX9_soon 16 = .ok (.ifCond .ne 5, 3) := by decide +kernel
theorem dX9_soon_19 : decode cX9_soon 19 = .ok (.iconst (-1), 1) := by decide +kernel
theorem dX9_soon_20 : decode cX9_soon 20 = .ok (.ireturn, 1) := by decide +kernel
theorem dX9_soon_21 : decode cX9_soon 21 = .ok (.aload_n 0, 1) := by decide +kernel
theorem dX9_soon_22 : decode cX9_soon 22 = .ok (.iload_n 1, 1) := by decide +kernel
theorem dX9_soon_23 : decode cX9_soon 23 = .ok (.bipush 18, 2) := by decide +kernel
theorem dX9_soon_25 : decode cX9_soon 25 = .ok (.invokevirtual 225, 3) := by decide +kernel
theorem dX9_soon_28 : decode cX9_soon 28 = .ok (.iconst 0, 1) := by decide +kernel
theorem dX9_soon_29 : decode cX9_soon 29 = .ok (.istore_n 2, 1) := by decide +kernel
theorem dX9_soon_30 : decode cX9_soon 30 = .ok (.iload_n 2, 1) := by decide +kernel
theorem dX9_soon_31 : decode cX9_soon 31 = .ok (.aload_n 0, 1) := by decide +kernel
theorem dX9_soon_32 : decode cX9_soon 32 = .ok (.getfield 308, 3) := by decide +kernel
theorem dX9_soon_35 : decode cX9_soon 35 = .ok (.aload_n 0, 1) := by decide +kernel
theorem dX9_soon_36 : decode cX9_soon 36 = .ok (.getfield 305, 3) := by decide +kernel
theorem dX9_soon_39 : decode cX9_soon 39 = .ok (.iadd, 1) := by decide +kernel
theorem dX9_soon_40 : decode cX9_soon 40 = .ok (.if_icmp .ge 26, 3) := by decide +kernel
theorem dX9_soon_43 : decode cX9_soon 43 = .ok (.aload_n 0, 1) := by decide +kernel
theorem dX9_soon_44 : decode cX9_soon 44 = .ok (.bipush 18, 2) := by decide +kernel
theorem dX9_soon_46 : decode cX9_soon 46 = .ok (.invokevirtual 296, 3) := by decide +kernel
theorem dX9_soon_49 : decode cX9_soon 49 = .ok (.ifCond .eq 5, 3) := by decide +kernel
theorem dX9_soon_52 : decode cX9_soon 52 = .ok (.iload_n 2, 1) := by decide +kernel
theorem dX9_soon_53 : decode cX9_soon 53 = .ok (.ireturn, 1) := by decide +kernel
theorem dX9_soon_54 : decode cX9_soon 54 = .ok (.aload_n 0, 1) := by decide +kernel
theorem dX9_soon_55 : decode cX9_soon 55 = .ok (.bipush 18, 2) := by decide +kernel
theorem dX9_soon_57 : decode cX9_soon 57 = .ok (.invokevirtual 256, 3) := by decide +kernel
theorem dX9_soon_60 : decode cX9_soon 60 = .ok (.iinc 2 1, 3) := by decide +kernel
theorem dX9_soon_63 : decode cX9_soon 63 = .ok (.goto (-33), 3) := by decide +kernel
theorem dX9_soon_66 : decode cX9_soon 66 = .ok (.iconst (-1), 1) := by decide +kernel
theorem dX9_soon_67 : decode cX9_soon 67 = .ok (.ireturn, 1) := by decide +kernel
theorem dX9_sorts_0 : decode cX9_sorts 0 = .ok (.aload_n 0, 1) := by decide +kernel
theorem dX9_sorts_1 : decode cX9_sorts 1 = .ok (.iload_n 1, 1) := by decide +kernel
theorem dX9_sorts_2 : decode cX9_sorts 2 = .ok (.invokevirtual 272, 3) := by decide +kernel
theorem dX9_sorts_5 : decode cX9_sorts 5 = .ok (.ifCond .ne 6, 3) := by decide +kernel
theorem dX9_sorts_8 : decode cX9_sorts 8 = .ok (.bipush (-2), 2) := by decide +kernel
theorem dX9_sorts_10 : decode cX9_sorts 10 = .ok (.ireturn, 1) := by decide +kernel
theorem dX9_sorts_11 : decode cX9_sorts 11 = .ok (.iconst 0, 1) := by decide +kernel
theorem dX9_sorts_12 : decode cX9_sorts 12 = .ok (.istore_n 2, 1) := by decide +kernel
theorem dX9_sorts_13 : decode cX9_sorts 13 = .ok (.iconst 0, 1) := by decide +kernel
theorem dX9_sorts_14 : decode cX9_sorts 14 = .ok (.istore_n 3, 1) := by decide +kernel
theorem dX9_sorts_15 : decode cX9_sorts 15 = .ok (.iload_n 3, 1) := by decide +kernel
theorem dX9_sorts_16 : decode cX9_sorts 16 = .ok (.aload_n 0, 1) := by decide +kernel
theorem dX9_sorts_17 : decode cX9_sorts 17 = .ok (.iload_n 1, 1) := by decide +kernel
theorem dX9_sorts_18 : decode cX9_sorts 18 = .ok (.invokevirtual 207, 3) := by decide +kernel
theorem dX9_sorts_21 : decode cX9_sorts 21 = .ok (.if_icmp .ge 38, 3) := by decide +kernel
theorem dX9_sorts_24 : decode cX9_sorts 24 = .ok (.iload_n 2, 1) := by decide +kernel
theorem dX9_sorts_25 : decode cX9_sorts 25 = .ok (.iload_n 3, 1) := by decide +kernel
theorem dX9_sorts_26 : decode cX9_sorts 26 = .ok (.ifCond .eq 20, 3) := by decide +kernel
theorem dX9_sorts_29 : decode cX9_sorts 29 = .ok (.aload_n 0, 1) := by decide +kernel
theorem dX9_sorts_30 : decode cX9_sorts 30 = .ok (.iload_n 1, 1) := by decide +kernel
theorem dX9_sorts_31 : decode cX9_sorts 31 = .ok (.iload_n 3, 1) := by decide +kernel
theorem dX9_sorts_32 : decode cX9_sorts 32 = .ok (.invokevirtual 210, 3) := by decide +kernel
theorem dX9_sorts_35 : decode cX9_sorts 35 = .ok (.aload_n 0, 1) := by decide +kernel
theorem dX9_sorts_36 : decode cX9_sorts 36 = .ok (.iload_n 1, 1) := by decide +kernel
theorem dX9_sorts_37 : decode cX9_sorts 37 = .ok (.iload_n 3, 1) := by decide +kernel
theorem dX9_sorts_38 : decode cX9_sorts 38 = .ok (.iconst 1, 1) := by decide +kernel
theorem dX9_sorts_39 : decode cX9_sorts 39 = .ok (.isub, 1) := by decide +kernel
theorem dX9_sorts_40 : decode cX9_sorts 40 = .ok (.invokevirtual 210, 3) := by decide +kernel
theorem dX9_sorts_43 : decode cX9_sorts 43 = .ok (.if_icmp .eq 7, 3) := by decide +kernel
theorem dX9_sorts_46 : decode cX9_sorts 46 = .ok (.iconst 1, 1) := by decide +kernel
theorem dX9_sorts_47 : decode cX9_sorts 47 = .ok (.goto 4, 3) := by decide +kernel
theorem dX9_sorts_50 : decode cX9_sorts 50 = .ok (.iconst 0, 1) := by decide +kernel
theorem dX9_sorts_51 : decode cX9_sorts 51 = .ok (.iadd, 1) := by decide +kernel
theorem dX9_sorts_52 : decode cX9_sorts 52 = .ok (.istore_n 2, 1) := by decide +kernel
theorem dX9_sorts_53 : decode cX9_sorts 53 = .ok (.iinc 3 1, 3) := by decide +kernel
theorem dX9_sorts_56 : decode cX9_sorts 56 = .ok (.goto (-41), 3) := by decide +kernel
theorem dX9_sorts_59 : decode cX9_sorts 59 = .ok (.iload_n 2, 1) := by decide +kernel
theorem dX9_sorts_60 : decode cX9_sorts 60 = .ok (.ireturn, 1) := by decide +kernel
theorem dX9_spare_0 : decode cX9_spare 0 = .ok (.aload_n 0, 1) := by decide +kernel
theorem dX9_spare_1 : decode cX9_spare 1 = .ok (.invokevirtual 265, 3) := by decide +kernel
theorem dX9_spare_4 : decode cX9_spare 4 = .ok (.ifCond .ne 6, 3) := by decide +kernel
theorem dX9_spare_7 : decode cX9_spare 7 = .ok (.bipush (-2), 2) := by decide +kernel
theorem dX9_spare_9 : decode cX9_spare 9 = .ok (.ireturn, 1) := by decide +kernel
theorem dX9_spare_10 : decode cX9_spare 10 = .ok (.aload_n 0, 1) := by decide +kernel
theorem dX9_spare_11 : decode cX9_spare 11 = .ok (.invokevirtual 361, 3) := by decide +kernel
theorem dX9_spare_14 : decode cX9_spare 14 = .ok (.istore_n 1, 1) := by decide +kernel
theorem dX9_spare_15 : decode cX9_spare 15 = .ok (.iconst (-1), 1) := by decide +kernel
theorem dX9_spare_16 : decode cX9_spare 16 = .ok (.istore_n 2, 1) := by decide +kernel
theorem dX9_spare_17 : decode cX9_spare 17 = .ok (.iconst 0, 1) := by decide +kernel
theorem dX9_spare_18 : decode cX9_spare 18 = .ok (.istore_n 3, 1) := by decide +kernel
theorem dX9_spare_19 : decode cX9_spare 19 = .ok (.iload_n 3, 1) := by decide +kernel
theorem dX9_spare_20 : decode cX9_spare 20 = .ok (.aload_n 0, 1) := by decide +kernel
theorem dX9_spare_21 : decode cX9_spare 21 = .ok (.invokevirtual 97, 3) := by decide +kernel
theorem dX9_spare_24 : decode cX9_spare 24 = .ok (.if_icmp .ge 43, 3) := by decide +kernel
theorem dX9_spare_27 : decode cX9_spare 27 = .ok (.aload_n 0, 1) := by decide +kernel
theorem dX9_spare_28 : decode cX9_spare 28 = .ok (.bipush 63, 2) := by decide +kernel
theorem dX9_spare_30 : decode cX9_spare 30 = .ok (.iconst 1, 1) := by decide +kernel
theorem dX9_spare_31 : decode cX9_spare 31 = .ok (.iload_n 3, 1) := by decide +kernel
theorem dX9_spare_32 : decode cX9_spare 32 = .ok (.ishl, 1) := by decide +kernel
theorem dX9_spare_33 : decode cX9_spare 33 = .ok (.iconst (-1), 1) := by decide +kernel
theorem dX9_spare_34 : decode cX9_spare 34 = .ok (.ixor, 1) := by decide +kernel
theorem dX9_spare_35 : decode cX9_spare 35 = .ok (.iand, 1) := by decide +kernel
theorem dX9_spare_36 : decode cX9_spare 36 = .ok (.putfield 238, 3) := by decide +kernel
theorem dX9_spare_39 : decode cX9_spare 39 = .ok (.aload_n 0, 1) := by decide +kernel
theorem dX9_spare_40 : decode cX9_spare 40 = .ok (.invokevirtual 262, 3) := by decide +kernel
theorem dX9_spare_43 : decode cX9_spare 43 = .ok (.aload_n 0, 1) := by decide +kernel
theorem dX9_spare_44 : decode cX9_spare 44 = .ok (.invokevirtual 361, 3) := by decide +kernel
theorem dX9_spare_47 : decode cX9_spare 47 = .ok (.iload_n 1, 1) := by decide +kernel
theorem dX9_spare_48 : decode cX9_spare 48 = .ok (.if_icmp .gt 6, 3) := by decide +kernel
theorem dX9_spare_51 : decode cX9_spare 51 = .ok (.goto 10, 3) := by decide +kernel
theorem dX9_spare_54 : decode cX9_spare 54 = .ok (.aload_n 0, 1) := by decide +kernel
theorem dX9_spare_55 : decode cX9_spare 55 = .ok (.invokevirtual 361, 3) := by decide +kernel
theorem dX9_spare_58 : decode cX9_spare 58 = .ok (.istore_n 1, 1) := by decide +kernel
theorem dX9_spare_59 : decode cX9_spare 59 = .ok (.iload_n 3, 1) := by decide +kernel
theorem dX9_spare_60 : decode cX9_spare 60 = .ok (.istore_n 2, 1) := by decide +kernel
theorem dX9_spare_61 : decode cX9_spare 61 = .ok (.iinc 3 1, 3) := by decide +kernel
theorem dX9_spare_64 : decode cX9_spare 64 = .ok (.goto (-45), 3) := by decide +kernel
theorem dX9_spare_67 : decode cX9_spare 67 = .ok (.iload_n 2, 1) := by decide +kernel
theorem dX9_spare_68 : decode cX9_spare 68 = .ok (.ireturn, 1) := by decide +kernel
theorem dX9_spread_0 : decode cX9_spread 0 = .ok (.aload_n 0, 1) := by decide +kernel
theorem dX9_spread_1 : decode cX9_spread 1 = .ok (.iload_n 1, 1) := by decide +kernel
theorem dX9_spread_2 : decode cX9_spread 2 = .ok (.invokevirtual 272, 3) := by decide +kernel
theorem dX9_spread_5 : decode cX9_spread 5 = .ok (.ifCond .ne 6, 3) := by decide +kernel
theorem dX9_spread_8 : decode cX9_spread 8 = .ok (.bipush (-2), 2) := by decide +kernel
theorem dX9_spread_10 : decode cX9_spread 10 = .ok (.ireturn, 1) := by decide +kernel
theorem dX9_spread_11 : decode cX9_spread 11 = .ok (.aload_n 0, 1) := by decide +kernel
theorem dX9_spread_12 : decode cX9_spread 12 = .ok (.iload_n 1, 1) := by decide +kernel
theorem dX9_spread_13 : decode cX9_spread 13 = .ok (.invokevirtual 207, 3) := by decide +kernel
theorem dX9_spread_16 : decode cX9_spread 16 = .ok (.ifCond .ne 7, 3) := by decide +kernel
theorem dX9_spread_19 : decode cX9_spread 19 = .ok (.iconst 0, 1) := by decide +kernel
theorem dX9_spread_20 : decode cX9_spread 20 = .ok (.goto 22, 3) := by decide +kernel
theorem dX9_spread_23 : decode cX9_spread 23 = .ok (.aload_n 0, 1) := by decide +kernel
theorem dX9_spread_24 : decode cX9_spread 24 = .ok (.iload_n 1, 1) := by decide +kernel
theorem dX9_spread_25 : decode cX9_spread 25 = .ok (.iconst 0, 1) := by decide +kernel
theorem dX9_spread_26 : decode cX9_spread 26 = .ok (.invokevirtual 210, 3) := by decide +kernel
theorem dX9_spread_29 : decode cX9_spread 29 = .ok (.aload_n 0, 1) := by decide +kernel
theorem dX9_spread_30 : decode cX9_spread 30 = .ok (.iload_n 1, 1) := by decide +kernel
theorem dX9_spread_31 : decode cX9_spread 31 = .ok (.aload_n 0, 1) := by decide +kernel
theorem dX9_spread_32 : decode cX9_spread 32 = .ok (.iload_n 1, 1) := by decide +kernel
theorem dX9_spread_33 : decode cX9_spread 33 = .ok (.invokevirtual 207, 3) := by decide +kernel
theorem dX9_spread_36 : decode cX9_spread 36 = .ok (.iconst 1, 1) := by decide +kernel
theorem dX9_spread_37 : decode cX9_spread 37 = .ok (.isub, 1) := by decide +kernel
theorem dX9_spread_38 : decode cX9_spread 38 = .ok (.invokevirtual 210, 3) := by decide +kernel
theorem dX9_spread_41 : decode cX9_spread 41 = .ok (.isub, 1) := by decide +kernel
theorem dX9_spread_42 : decode cX9_spread 42 = .ok (.ireturn, 1) := by decide +kernel
theorem dX9_square_0 : decode cX9_square 0 = .ok (.aload_n 0, 1) := by decide +kernel
theorem dX9_square_1 : decode cX9_square 1 = .ok (.iload_n 1, 1) := by decide +kernel
theorem dX9_square_2 : decode cX9_square 2 = .ok (.invokevirtual 272, 3) := by decide +kernel
theorem dX9_square_5 : decode cX9_square 5 = .ok (.ifCond .ne 6, 3) := by decide +kernel
theorem dX9_square_8 : decode cX9_square 8 = .ok (.bipush (-2), 2) := by decide +kernel
theorem dX9_square_10 : decode cX9_square 10 = .ok (.ireturn, 1) := by decide +kernel
theorem dX9_square_11 : decode cX9_square 11 = .ok (.iconst 0, 1) := by decide +kernel
theorem dX9_square_12 : decode cX9_square 12 = .ok (.istore_n 2, 1) := by decide +kernel
theorem dX9_square_13 : decode cX9_square 13 = .ok (.iload_n 2, 1) := by decide +kernel
theorem dX9_square_14 : decode cX9_square 14 = .ok (.aload_n 0, 1) := by decide +kernel
theorem dX9_square_15 : decode cX9_square 15 = .ok (.iload_n 1, 1) := by decide +kernel
theorem dX9_square_16 : decode cX9_square 16 = .ok (.invokevirtual 207, 3) := by decide +kernel
theorem dX9_square_19 : decode cX9_square 19 = .ok (.if_icmp .ge 19, 3) := by decide +kernel
theorem dX9_square_22 : decode cX9_square 22 = .ok (.aload_n 0, 1) := by decide +kernel
theorem dX9_square_23 : decode cX9_square 23 = .ok (.iload_n 1, 1) := by decide +kernel
theorem dX9_square_24 : decode cX9_square 24 = .ok (.iload_n 2, 1) := by decide +kernel
theorem dX9_square_25 : decode cX9_square 25 = .ok (.invokevirtual 210, 3) := by decide +kernel
theorem dX9_square_28 : decode cX9_square 28 = .ok (.iload_n 2, 1) := by decide +kernel
theorem dX9_square_29 : decode cX9_square 29 = .ok (.if_icmp .le 9, 3) := by decide +kernel
theorem dX9_square_32 : decode cX9_square 32 = .ok (.iinc 2 1, 3) := by decide +kernel
theorem dX9_square_35 : decode cX9_square 35 = .ok (.goto (-22), 3) := by decide +kernel
theorem dX9_square_38 : decode cX9_square 38 = .ok (.iload_n 2, 1) := by decide +kernel
theorem dX9_square_39 : decode cX9_square 39 = .ok (.ireturn, 1) := by decide +kernel
theorem dX9_stair_0 : decode cX9_stair 0 = .ok (.aload_n 0, 1) := by decide +kernel
theorem dX9_stair_1 : decode cX9_stair 1 = .ok (.iload_n 1, 1) := by decide +kernel
theorem dX9_stair_2 : decode cX9_stair 2 = .ok (.invokevirtual 272, 3) := by decide +kernel
theorem dX9_stair_5 : decode cX9_stair 5 = .ok (.ifCond .ne 6, 3) := by decide +kernel
theorem dX9_stair_8 : decode cX9_stair 8 = .ok (.bipush (-2), 2) := by decide +kernel
theorem dX9_stair_10 : decode cX9_stair 10 = .ok (.ireturn, 1) := by decide +kernel
theorem dX9_stair_11 : decode cX9_stair 11 = .ok (.aload_n 0, 1) := by decide +kernel
theorem dX9_stair_12 : decode cX9_stair 12 = .ok (.iload_n 1, 1) := by decide +kernel
theorem dX9_stair_13 : decode cX9_stair 13 = .ok (.invokevirtual 296, 3) := by decide +kernel
theorem dX9_stair_16 : decode cX9_stair 16 = .ok (.ifCond .eq 7, 3) := by decide +kernel
theorem dX9_stair_19 : decode cX9_stair 19 = .ok (.iconst 1, 1) := by decide +kernel
theorem dX9_stair_20 : decode cX9_stair 20 = .ok (.goto 4, 3) := by decide +kernel
theorem dX9_stair_23 : decode cX9_stair 23 = .ok (.iconst 0, 1) := by decide +kernel
theorem dX9_stair_24 : decode cX9_stair 24 = .ok (.ireturn, 1) := by decide +kernel
theorem dX9_stairs_0 : decode cX9_stairs 0 = .ok (.aload_n 0, 1) := by decide +kernel
theorem dX9_stairs_1 : decode cX9_stairs 1 = .ok (.invokevirtual 265, 3) := by decide +kernel
theorem dX9_stairs_4 : decode cX9_stairs 4 = .ok (.ifCond .ne 6, 3) := by decide +kernel
theorem dX9_stairs_7 : decode cX9_stairs 7 = .ok (.bipush (-2), 2) := by decide +kernel
theorem dX9_stairs_9 : decode cX9_stairs 9 = .ok (.ireturn, 1) := by decide +kernel
theorem dX9_stairs_10 : decode cX9_stairs 10 = .ok (.iconst 0, 1) := by decide +kernel
theorem dX9_stairs_11 : decode cX9_stairs 11 = .ok (.istore_n 1, 1) := by decide +kernel
theorem dX9_stairs_12 : decode cX9_stairs 12 = .ok (.iload_n 1, 1) := by decide +kernel
theorem dX9_stairs_13 : decode cX9_stairs 13 = .ok (.aload_n 0, 1) := by decide +kernel
theorem dX9_stairs_14 : decode cX9_stairs 14 = .ok (.invokevirtual 93, 3) := by decide +kernel
theorem dX9_stairs_17 : decode cX9_stairs 17 = .ok (.if_icmp .gt 19, 3) := by decide +kernel
theorem dX9_stairs_20 : decode cX9_stairs 20 = .ok (.aload_n 0, 1) := by decide +kernel
theorem dX9_stairs_21 : decode cX9_stairs 21 = .ok (.iload_n 1, 1) := by decide +kernel
theorem dX9_stairs_22 : decode cX9_stairs 22 = .ok (.invokevirtual 296, 3) := by decide +kernel
theorem dX9_stairs_25 : decode cX9_stairs 25 = .ok (.ifCond .eq 5, 3) := by decide +kernel
theorem dX9_stairs_28 : decode cX9_stairs 28 = .ok (.iload_n 1, 1) := by decide +kernel
theorem dX9_stairs_29 : decode cX9_stairs 29 = .ok (.ireturn, 1) := by decide +kernel
theorem dX9_stairs_30 : decode cX9_stairs 30 = .ok (.iinc 1 1, 3) := by decide +kernel
theorem dX9_stairs_33 : decode cX9_stairs 33 = .ok (.goto (-21), 3) := by decide +kernel
theorem dX9_stairs_36 : decode cX9_stairs 36 = .ok (.iconst (-1), 1) := by decide +kernel
theorem dX9_stairs_37 : decode cX9_stairs 37 = .ok (.ireturn, 1) := by decide +kernel
theorem dX9_still_0 : decode cX9_still 0 = .ok (.aload_n 0, 1) := by decide +kernel
theorem dX9_still_1 : decode cX9_still 1 = .ok (.invokevirtual 265, 3) := by decide +kernel
theorem dX9_still_4 : decode cX9_still 4 = .ok (.ifCond .ne 6, 3) := by decide +kernel
theorem dX9_still_7 : decode cX9_still 7 = .ok (.bipush (-2), 2) := by decide +kernel
theorem dX9_still_9 : decode cX9_still 9 = .ok (.ireturn, 1) := by decide +kernel
theorem dX9_still_10 : decode cX9_still 10 = .ok (.aload_n 0, 1) := by decide +kernel
theorem dX9_still_11 : decode cX9_still 11 = .ok (.invokevirtual 93, 3) := by decide +kernel
theorem dX9_still_14 : decode cX9_still 14 = .ok (.istore_n 1, 1) := by decide +kernel
theorem dX9_still_15 : decode cX9_still 15 = .ok (.iload_n 1, 1) := by decide +kernel
theorem dX9_still_16 : decode cX9_still 16 = .ok (.ifCond .le 20, 3) := by decide +kernel
theorem dX9_still_19 : decode cX9_still 19 = .ok (.aload_n 0, 1) := by decide +kernel
theorem dX9_still_20 : decode cX9_still 20 = .ok (.iload_n 1, 1) := by decide +kernel
theorem dX9_still_21 : decode cX9_still 21 = .ok (.iconst 1, 1) := by decide +kernel
theorem dX9_still_22 : decode cX9_still 22 = .ok (.isub, 1) := by decide +kernel
theorem dX9_still_23 : decode cX9_still 23 = .ok (.iload_n 1, 1) := by decide +kernel
theorem dX9_still_24 : decode cX9_still 24 = .ok (.invokevirtual 289, 3) := by decide +kernel
theorem dX9_still_27 : decode cX9_still 27 = .ok (.ifCond .eq 9, 3) := by decide +kernel
theorem dX9_still_30 : decode cX9_still 30 = .ok (.iinc 1 (-1), 3) := by decide +kernel
theorem dX9_still_33 : decode cX9_still 33 = .ok (.goto (-18), 3) := by decide +kernel
theorem dX9_still_36 : decode cX9_still 36 = .ok (.iload_n 1, 1) := by decide +kernel
theorem dX9_still_37 : decode cX9_still 37 = .ok (.ireturn, 1) := by decide +kernel
theorem dX9_tail_0 : decode cX9_tail 0 = .ok (.aload_n 0, 1) := by decide +kernel
theorem dX9_tail_1 : decode cX9_tail 1 = .ok (.iload_n 1, 1) := by decide +kernel
theorem dX9_tail_2 : decode cX9_tail 2 = .ok (.invokevirtual 272, 3) := by decide +kernel
theorem dX9_tail_5 : decode cX9_tail 5 = .ok (.ifCond .ne 6, 3) := by decide +kernel
theorem dX9_tail_8 : decode cX9_tail 8 = .ok (.bipush (-2), 2) := by decide +kernel
theorem dX9_tail_10 : decode cX9_tail 10 = .ok (.ireturn, 1) := by decide +kernel
theorem dX9_tail_11 : decode cX9_tail 11 = .ok (.aload_n 0, 1) := by decide +kernel
theorem dX9_tail_12 : decode cX9_tail 12 = .ok (.iload_n 1, 1) := by decide +kernel
theorem dX9_tail_13 : decode cX9_tail 13 = .ok (.invokevirtual 311, 3) := by decide +kernel
theorem dX9_tail_16 : decode cX9_tail 16 = .ok (.ifCond .eq 10, 3) := by decide +kernel
theorem dX9_tail_19 : decode cX9_tail 19 = .ok (.aload_n 0, 1) := by decide +kernel
theorem dX9_tail_20 : decode cX9_tail 20 = .ok (.getfield 308, 3) := by decide +kernel
theorem dX9_tail_23 : decode cX9_tail 23 = .ok (.goto 4, 3) := by decide +kernel
theorem dX9_tail_26 : decode cX9_tail 26 = .ok (.iconst (-1), 1) := by decide +kernel
theorem dX9_tail_27 : decode cX9_tail 27 = .ok (.ireturn, 1) := by decide +kernel
theorem dX9_taken_0 : decode cX9_taken 0 = .ok (.aload_n 0, 1) := by decide +kernel
theorem dX9_taken_1 : decode cX9_taken 1 = .ok (.invokevirtual 265, 3) := by decide +kernel
theorem dX9_taken_4 : decode cX9_taken 4 = .ok (.pop, 1) := by decide +kernel
theorem dX9_taken_5 : decode cX9_taken 5 = .ok (.aload_n 0, 1) := by decide +kernel
theorem dX9_taken_6 : decode cX9_taken 6 = .ok (.iload_n 1, 1) := by decide +kernel
theorem dX9_taken_7 : decode cX9_taken 7 = .ok (.i2l, 1) := by decide +kernel
theorem dX9_taken_8 : decode cX9_taken 8 = .ok (.invokevirtual 280, 3) := by decide +kernel
theorem dX9_taken_11 : decode cX9_taken 11 = .ok (.ifCond .eq 12, 3) := by decide +kernel
theorem dX9_taken_14 : decode cX9_taken 14 = .ok (.aload_n 0, 1) := by decide +kernel
theorem dX9_taken_15 : decode cX9_taken 15 = .ok (.getfield 43, 3) := by decide +kernel
theorem dX9_taken_18 : decode cX9_taken 18 = .ok (.iload_n 1, 1) := by decide +kernel
theorem dX9_taken_19 : decode cX9_taken 19 = .ok (.iaload, 1) := by decide +kernel
theorem dX9_taken_20 : decode cX9_taken 20 = .ok (.goto 5, 3) := by decide +kernel
theorem dX9_taken_23 : decode cX9_taken 23 = .ok (.bipush (-2), 2) := by decide +kernel
theorem dX9_taken_25 : decode cX9_taken 25 = .ok (.ireturn, 1) := by decide +kernel
theorem dX9_told_0 : decode cX9_told 0 = .ok (.aload_n 0, 1) := by decide +kernel
theorem dX9_told_1 : decode cX9_told 1 = .ok (.iload_n 1, 1) := by decide +kernel
theorem dX9_told_2 : decode cX9_told 2 = .ok (.invokevirtual 200, 3) := by decide +kernel
theorem dX9_told_5 : decode cX9_told 5 = .ok (.ifCond .eq 15, 3) := by decide +kernel
theorem dX9_told_8 : decode cX9_told 8 = .ok (.aload_n 0, 1) := by decide +kernel
theorem dX9_told_9 : decode cX9_told 9 = .ok (.getfield 9, 3) := by decide +kernel
theorem dX9_told_12 : decode cX9_told 12 = .ok (.bipush 7, 2) := by decide +kernel
theorem dX9_told_14 : decode cX9_told 14 = .ok (.iload_n 1, 1) := by decide +kernel
theorem dX9_told_15 : decode cX9_told 15 = .ok (.iadd, 1) := by decide +kernel
theorem dX9_told_16 : decode cX9_told 16 = .ok (.iaload, 1) := by decide +kernel
theorem dX9_told_17 : decode cX9_told 17 = .ok (.goto 5, 3) := by decide +kernel
theorem dX9_told_20 : decode cX9_told 20 = .ok (.bipush (-2), 2) := by decide +kernel
theorem dX9_told_22 : decode cX9_told 22 = .ok (.ireturn, 1) := by decide +kernel
theorem dX9_undo_0 : decode cX9_undo 0 = .ok (.aload_n 0, 1) := by decide +kernel
theorem dX9_undo_1 : decode cX9_undo 1 = .ok (.invokevirtual 89, 3) := by decide +kernel
theorem dX9_undo_4 : decode cX9_undo 4 = .ok (.ifCond .ne 6, 3) := by decide +kernel
theorem dX9_undo_7 : decode cX9_undo 7 = .ok (.bipush (-2), 2) := by decide +kernel
theorem dX9_undo_9 : decode cX9_undo 9 = .ok (.ireturn, 1) := by decide +kernel
theorem dX9_undo_10 : decode cX9_undo 10 = .ok (.aload_n 0, 1) := by decide +kernel
theorem dX9_undo_11 : decode cX9_undo 11 = .ok (.getfield 9, 3) := by decide +kernel
theorem dX9_undo_14 : decode cX9_undo 14 = .ok (.iconst 5, 1) := by decide +kernel
theorem dX9_undo_15 : decode cX9_undo 15 = .ok (.iaload, 1) := by decide +kernel
theorem dX9_undo_16 : decode cX9_undo 16 = .ok (.ifCond .ne 6, 3) := by decide +kernel
theorem dX9_undo_19 : decode cX9_undo 19 = .ok (.bipush (-5), 2) := by decide +kernel
theorem dX9_undo_21 : decode cX9_undo 21 = .ok (.ireturn, 1) := by decide +kernel
theorem dX9_undo_22 : decode cX9_undo 22 = .ok (.aload_n 0, 1) := by decide +kernel
theorem dX9_undo_23 : decode cX9_undo 23 = .ok (.getfield 9, 3) := by decide +kernel
theorem dX9_undo_26 : decode cX9_undo 26 = .ok (.iconst 5, 1) := by decide +kernel
theorem dX9_undo_27 : decode cX9_undo 27 = .ok (.dup2, 1) := by decide +kernel
theorem dX9_undo_28 : decode cX9_undo 28 = .ok (.iaload, 1) := by decide +kernel
theorem dX9_undo_29 : decode cX9_undo 29 = .ok (.iconst 1, 1) := by decide +kernel
theorem dX9_undo_30 : decode cX9_undo 30 = .ok (.isub, 1) := by decide +kernel
theorem dX9_undo_31 : decode cX9_undo 31 = .ok (.iastore, 1) := by decide +kernel
theorem dX9_undo_32 : decode cX9_undo 32 = .ok (.aload_n 0, 1) := by decide +kernel
theorem dX9_undo_33 : decode cX9_undo 33 = .ok (.getfield 9, 3) := by decide +kernel
theorem dX9_undo_36 : decode cX9_undo 36 = .ok (.iconst 5, 1) := by decide +kernel
theorem dX9_undo_37 : decode cX9_undo 37 = .ok (.iaload, 1) := by decide +kernel
theorem dX9_undo_38 : decode cX9_undo 38 = .ok (.ireturn, 1) := by decide +kernel
theorem dX9_way_0 : decode cX9_way 0 = .ok (.aload_n 0, 1) := by decide +kernel
theorem dX9_way_1 : decode cX9_way 1 = .ok (.iload_n 1, 1) := by decide +kernel
theorem dX9_way_2 : decode cX9_way 2 = .ok (.invokevirtual 358, 3) := by decide +kernel
theorem dX9_way_5 : decode cX9_way 5 = .ok (.istore_n 2, 1) := by decide +kernel
theorem dX9_way_6 : decode cX9_way 6 = .ok (.iload_n 2, 1) := by decide +kernel
theorem dX9_way_7 : decode cX9_way 7 = .ok (.ifCond .ge 7, 3) := by decide +kernel
theorem dX9_way_10 : decode cX9_way 10 = .ok (.iload_n 2, 1) := by decide +kernel
theorem dX9_way_11 : decode cX9_way 11 = .ok (.goto 12, 3) := by decide +kernel
theorem dX9_way_14 : decode cX9_way 14 = .ok (.aload_n 0, 1) := by decide +kernel
theorem dX9_way_15 : decode cX9_way 15 = .ok (.getfield 55, 3) := by decide +kernel
theorem dX9_way_18 : decode cX9_way 18 = .ok (.aload_n 0, 1) := by decide +kernel
theorem dX9_way_19 : decode cX9_way 19 = .ok (.getfield 355, 3) := by decide +kernel
theorem dX9_way_22 : decode cX9_way 22 = .ok (.iaload, 1) := by decide +kernel
theorem dX9_way_23 : decode cX9_way 23 = .ok (.ireturn, 1) := by decide +kernel
theorem dX9_wins_0 : decode cX9_wins 0 = .ok (.aload_n 0, 1) := by decide +kernel
theorem dX9_wins_1 : decode cX9_wins 1 = .ok (.iload_n 1, 1) := by decide +kernel
theorem dX9_wins_2 : decode cX9_wins 2 = .ok (.iload_n 2, 1) := by decide +kernel
theorem dX9_wins_3 : decode cX9_wins 3 = .ok (.invokevirtual 416, 3) := by decide +kernel
theorem dX9_wins_6 : decode cX9_wins 6 = .ok (.ifCond .ne 6, 3) := by decide +kernel
theorem dX9_wins_9 : decode cX9_wins 9 = .ok (.bipush (-2), 2) := by decide +kernel
theorem dX9_wins_11 : decode cX9_wins 11 = .ok (.ireturn, 1) := by decide +kernel
theorem dX9_wins_12 : decode cX9_wins 12 = .ok (.aload_n 0, 1) := by decide +kernel
theorem dX9_wins_13 : decode cX9_wins 13 = .ok (.iload_n 1, 1) := by decide +kernel
theorem dX9_wins_14 : decode cX9_wins 14 = .ok (.iload_n 2, 1) := by decide +kernel
theorem dX9_wins_15 : decode cX9_wins 15 = .ok (.invokevirtual 419, 3) := by decide +kernel
theorem dX9_wins_18 : decode cX9_wins 18 = .ok (.ifCond .ne 7, 3) := by decide +kernel
theorem dX9_wins_21 : decode cX9_wins 21 = .ok (.iconst 0, 1) := by decide +kernel
theorem dX9_wins_22 : decode cX9_wins 22 = .ok (.goto 4, 3) := by decide +kernel
theorem dX9_wins_25 : decode cX9_wins 25 = .ok (.iconst 1, 1) := by decide +kernel
theorem dX9_wins_26 : decode cX9_wins 26 = .ok (.ireturn, 1) := by decide +kernel
theorem dX9_worth_0 : decode cX9_worth 0 = .ok (.aload_n 0, 1) := by decide +kernel
theorem dX9_worth_1 : decode cX9_worth 1 = .ok (.invokevirtual 259, 3) := by decide +kernel
theorem dX9_worth_4 : decode cX9_worth 4 = .ok (.aload_n 0, 1) := by decide +kernel
theorem dX9_worth_5 : decode cX9_worth 5 = .ok (.invokevirtual 89, 3) := by decide +kernel
theorem dX9_worth_8 : decode cX9_worth 8 = .ok (.ifCond .eq 29, 3) := by decide +kernel
theorem dX9_worth_11 : decode cX9_worth 11 = .ok (.iload_n 1, 1) := by decide +kernel
theorem dX9_worth_12 : decode cX9_worth 12 = .ok (.i2l, 1) := by decide +kernel
theorem dX9_worth_13 : decode cX9_worth 13 = .ok (.lconst 0, 1) := by decide +kernel
theorem dX9_worth_14 : decode cX9_worth 14 = .ok (.iconst 1, 1) := by decide +kernel
theorem dX9_worth_15 : decode cX9_worth 15 = .ok (.aload_n 0, 1) := by decide +kernel
theorem dX9_worth_16 : decode cX9_worth 16 = .ok (.invokevirtual 97, 3) := by decide +kernel
theorem dX9_worth_19 : decode cX9_worth 19 = .ok (.ishl, 1) := by decide +kernel
theorem dX9_worth_20 : decode cX9_worth 20 = .ok (.iconst 1, 1) := by decide +kernel
theorem dX9_worth_21 : decode cX9_worth 21 = .ok (.isub, 1) := by decide +kernel
theorem dX9_worth_22 : decode cX9_worth 22 = .ok (.i2l, 1) := by decide +kernel
theorem dX9_worth_23 : decode cX9_worth 23 = .ok (.invokestatic 85, 3) := by decide +kernel
theorem dX9_worth_26 : decode cX9_worth 26 = .ok (.ifCond .eq 11, 3) := by decide +kernel
theorem dX9_worth_29 : decode cX9_worth 29 = .ok (.aload_n 0, 1) := by decide +kernel
theorem dX9_worth_30 : decode cX9_worth 30 = .ok (.iload_n 1, 1) := by decide +kernel
theorem dX9_worth_31 : decode cX9_worth 31 = .ok (.invokevirtual 395, 3) := by decide +kernel
theorem dX9_worth_34 : decode cX9_worth 34 = .ok (.goto 5, 3) := by decide +kernel
theorem dX9_worth_37 : decode cX9_worth 37 = .ok (.bipush (-2), 2) := by decide +kernel
theorem dX9_worth_39 : decode cX9_worth 39 = .ok (.ireturn, 1) := by decide +kernel
theorem dX9_write_0 : decode cX9_write 0 = .ok (.iload_n 1, 1) := by decide +kernel
theorem dX9_write_1 : decode cX9_write 1 = .ok (.invokestatic 348, 3) := by decide +kernel
theorem dX9_write_4 : decode cX9_write 4 = .ok (.ifCond .ne 6, 3) := by decide +kernel
theorem dX9_write_7 : decode cX9_write 7 = .ok (.bipush (-2), 2) := by decide +kernel
theorem dX9_write_9 : decode cX9_write 9 = .ok (.ireturn, 1) := by decide +kernel
theorem dX9_write_10 : decode cX9_write 10 = .ok (.aload_n 0, 1) := by decide +kernel
theorem dX9_write_11 : decode cX9_write 11 = .ok (.getfield 67, 3) := by decide +kernel
theorem dX9_write_14 : decode cX9_write 14 = .ok (.iload_n 1, 1) := by decide +kernel
theorem dX9_write_15 : decode cX9_write 15 = .ok (.iaload, 1) := by decide +kernel
theorem dX9_write_16 : decode cX9_write 16 = .ok (.iconst (-1), 1) := by decide +kernel
theorem dX9_write_17 : decode cX9_write 17 = .ok (.if_icmp .ne 6, 3) := by decide +kernel
theorem dX9_write_20 : decode cX9_write 20 = .ok (.bipush (-6), 2) := by decide +kernel
theorem dX9_write_22 : decode cX9_write 22 = .ok (.ireturn, 1) := by decide +kernel
theorem dX9_write_23 : decode cX9_write 23 = .ok (.iload_n 2, 1) := by decide +kernel
theorem dX9_write_24 : decode cX9_write 24 = .ok (.i2l, 1) := by decide +kernel
theorem dX9_write_25 : decode cX9_write 25 = .ok (.lconst 0, 1) := by decide +kernel
theorem dX9_write_26 : decode cX9_write 26 = .ok (.aload_n 0, 1) := by decide +kernel
theorem dX9_write_27 : decode cX9_write 27 = .ok (.getfield 67, 3) := by decide +kernel
theorem dX9_write_30 : decode cX9_write 30 = .ok (.iload_n 1, 1) := by decide +kernel
theorem dX9_write_31 : decode cX9_write 31 = .ok (.iaload, 1) := by decide +kernel
theorem dX9_write_32 : decode cX9_write 32 = .ok (.iconst 1, 1) := by decide +kernel
theorem dX9_write_33 : decode cX9_write 33 = .ok (.isub, 1) := by decide +kernel
theorem dX9_write_34 : decode cX9_write 34 = .ok (.i2l, 1) := by decide +kernel
theorem dX9_write_35 : decode cX9_write 35 = .ok (.invokestatic 85, 3) := by decide +kernel
theorem dX9_write_38 : decode cX9_write 38 = .ok (.ifCond .ne 6, 3) := by decide +kernel
theorem dX9_write_41 : decode cX9_write 41 = .ok (.bipush (-7), 2) := by decide +kernel
theorem dX9_write_43 : decode cX9_write 43 = .ok (.ireturn, 1) := by decide +kernel
theorem dX9_write_44 : decode cX9_write 44 = .ok (.aload_n 0, 1) := by decide +kernel
theorem dX9_write_45 : decode cX9_write 45 = .ok (.getfield 73, 3) := by decide +kernel
theorem dX9_write_48 : decode cX9_write 48 = .ok (.bipush 60, 2) := by decide +kernel
theorem dX9_write_50 : decode cX9_write 50 = .ok (.iload_n 1, 1) := by decide +kernel
theorem dX9_write_51 : decode cX9_write 51 = .ok (.imul, 1) := by decide +kernel
theorem dX9_write_52 : decode cX9_write 52 = .ok (.iload_n 2, 1) := by decide +kernel
theorem dX9_write_53 : decode cX9_write 53 = .ok (.iadd, 1) := by decide +kernel
theorem dX9_write_54 : decode cX9_write 54 = .ok (.lload_n 3, 1) := by decide +kernel
theorem dX9_write_55 : decode cX9_write 55 = .ok (.aload_n 0, 1) := by decide +kernel
theorem dX9_write_56 : decode cX9_write 56 = .ok (.getfield 70, 3) := by decide +kernel
theorem dX9_write_59 : decode cX9_write 59 = .ok (.iload_n 1, 1) := by decide +kernel
theorem dX9_write_60 : decode cX9_write 60 = .ok (.iaload, 1) := by decide +kernel
theorem dX9_write_61 : decode cX9_write 61 = .ok (.invokestatic 480, 3) := by decide +kernel
theorem dX9_write_64 : decode cX9_write 64 = .ok (.lastore, 1) := by decide +kernel
theorem dX9_write_65 : decode cX9_write 65 = .ok (.iconst 0, 1) := by decide +kernel
theorem dX9_write_66 : decode cX9_write 66 = .ok (.ireturn, 1) := by decide +kernel
end
section
abbrev rX8_noMoor : Room := { frames := 0, cells := 0, slots := 0, locals := 0 }
abbrev pX8_noMoor (z : Nat) (σ : hpMem) : Option Value → hpMem → Prop := fun r τ => r = some (.int (hpI 1)) ∧ σ = τ
set_option maxHeartbeats 4000000 in
set_option maxRecDepth 20000 in
theorem tX8_noMoor (l : Launch) (D : va_G) (cy : Nat → ClassId) (z : Nat) (σ : hpMem) (h_3_8 : σ 3 8 = 0) : hpM l D cy z yX8_noMoor cX8_noMoor 1 (some .boolean) rX8_noMoor [.ref (z + 0)] σ (pX8_noMoor z σ) := by
  refine hp_met rfl (Nat.le_of_ble_eq_true rfl) (fun p e s m below meth c C hr hk => ?_)
  refine h_aload_n C dX8_noMoor_0 0 rfl rfl ?_
  refine h_get C O8 1 kd_0 (by decide) wd_350 dX8_noMoor_1 fr_0_1 ?_
  refine h_getN C O1 8 kd_3 (by decide) nw_95 dX8_noMoor_4 (fi_3_8 h_3_8) ?_
  refine h_if_ne (tgt := 14) C dX8_noMoor_7 (by decide) ⟨by decide, by decide⟩ (fun h1 => ?_) (fun h1 => ?_)
  · exfalso; omega
  · refine h_iconst C dX8_noMoor_10 ?_
    refine h_goto (tgt := 15) C dX8_noMoor_11 (by decide) ?_
    refine h_zreturn C (by omega) hr hk dX8_noMoor_15 ?_
    exact ⟨rfl, rfl⟩
abbrev rX8_isDay : Room := { frames := 1, cells := 0, slots := 0, locals := 20 }
abbrev pX8_isDay (z : Nat) (σ : hpMem) (d : Int) : Option Value → hpMem → Prop := fun r τ => r = some (.int (hpI 0)) ∧ σ = τ
set_option maxHeartbeats 4000000 in
set_option maxRecDepth 20000 in
theorem tX8_isDay (l : Launch) (D : va_G) (cy : Nat → ClassId) (z : Nat) (σ : hpMem) (d : Int) (hd : hpR d) (h_3_8 : σ 3 8 = 0) : hpM l D cy z yX8_isDay cX8_isDay 2 (some .boolean) rX8_isDay [.ref (z + 0), .int (hpI d)] σ (pX8_isDay z σ d) := by
  obtain ⟨hd1, hd2⟩ := hd
  refine hp_met rfl (Nat.le_of_ble_eq_true rfl) (fun p e s m below meth c C hr hk => ?_)
  refine h_aload_n C dX8_isDay_0 0 rfl rfl ?_
  refine h_callV (As := []) (rest := []) C yyX8_noMoor wd_572 (tX8_noMoor l D cy z _ h_3_8) kd_0 rfl rfl ⟨rfl, rfl, Nat.le_of_ble_eq_true rfl, Nat.le_of_ble_eq_true rfl⟩ ⟨Nat.le_of_ble_eq_true rfl, Nat.le_of_ble_eq_true rfl⟩ (Nat.le_of_ble_eq_true rfl) dX8_isDay_1 (fun r1 τ1 hp1 => ?_)
  obtain ⟨rfl, rfl⟩ := hp1
  show hpV _ _ _ _ _ _ _ _ _ _ _ _ _ _ _ _ _ _ _ _ _ (_ :: _)
  refine h_if_ne (tgt := 26) C dX8_isDay_4 (by decide) ⟨by decide, by decide⟩ (fun h2 => ?_) (fun h2 => ?_)
  · refine h_iconst C dX8_isDay_26 ?_
    refine h_zreturn C (by omega) hr hk dX8_isDay_27 ?_
    exact ⟨rfl, rfl⟩
  · exfalso; omega
abbrev rX8_isDayAheadOfLast : Room := { frames := 2, cells := 0, slots := 0, locals := 41 }
abbrev pX8_isDayAheadOfLast (z : Nat) (σ : hpMem) (d : Int) : Option Value → hpMem → Prop := fun r τ => r = some (.int (hpI 0)) ∧ σ = τ
set_option maxHeartbeats 4000000 in
set_option maxRecDepth 20000 in
theorem tX8_isDayAheadOfLast (l : Launch) (D : va_G) (cy : Nat → ClassId) (z : Nat) (σ : hpMem) (d : Int) (hd : hpR d) (h_3_8 : σ 3 8 = 0) : hpM l D cy z yX8_isDayAheadOfLast cX8_isDayAheadOfLast 2 (some .boolean) rX8_isDayAheadOfLast [.ref (z + 0), .int (hpI d)] σ (pX8_isDayAheadOfLast z σ d) := by
  obtain ⟨hd1, hd2⟩ := hd
  refine hp_met rfl (Nat.le_of_ble_eq_true rfl) (fun p e s m below meth c C hr hk => ?_)
  refine h_aload_n C dX8_isDayAheadOfLast_0 0 rfl rfl ?_
  refine h_iload_n C dX8_isDayAheadOfLast_1 1 rfl rfl ?_
  refine h_callV (As := [.int (hpI d)]) (rest := []) C yyX8_isDay wd_568 (tX8_isDay l D cy z _ d ⟨by omega, by omega⟩ h_3_8) kd_0 rfl rfl ⟨rfl, rfl, Nat.le_of_ble_eq_true rfl, Nat.le_of_ble_eq_true rfl⟩ ⟨Nat.le_of_ble_eq_true rfl, Nat.le_of_ble_eq_true rfl⟩ (Nat.le_of_ble_eq_true rfl) dX8_isDayAheadOfLast_2 (fun r1 τ1 hp1 => ?_)
  obtain ⟨rfl, rfl⟩ := hp1
  show hpV _ _ _ _ _ _ _ _ _ _ _ _ _ _ _ _ _ _ _ _ _ (_ :: _)
  refine h_if_eq (tgt := 23) C dX8_isDayAheadOfLast_5 (by decide) ⟨by decide, by decide⟩ (fun h2 => ?_) (fun h2 => ?_)
  · refine h_iconst C dX8_isDayAheadOfLast_23 ?_
    refine h_zreturn C (by omega) hr hk dX8_isDayAheadOfLast_24 ?_
    exact ⟨rfl, rfl⟩
  · exfalso; omega
abbrev rX8_isChanceDay : Room := { frames := 3, cells := 0, slots := 0, locals := 62 }
abbrev pX8_isChanceDay (z : Nat) (σ : hpMem) (d : Int) : Option Value → hpMem → Prop := fun r τ => r = some (.int (hpI 0)) ∧ σ = τ
set_option maxHeartbeats 4000000 in
set_option maxRecDepth 20000 in
theorem tX8_isChanceDay (l : Launch) (D : va_G) (cy : Nat → ClassId) (z : Nat) (σ : hpMem) (d : Int) (hd : hpR d) (h_3_8 : σ 3 8 = 0) : hpM l D cy z yX8_isChanceDay cX8_isChanceDay 2 (some .boolean) rX8_isChanceDay [.ref (z + 0), .int (hpI d)] σ (pX8_isChanceDay z σ d) := by
  obtain ⟨hd1, hd2⟩ := hd
  refine hp_met rfl (Nat.le_of_ble_eq_true rfl) (fun p e s m below meth c C hr hk => ?_)
  refine h_aload_n C dX8_isChanceDay_0 0 rfl rfl ?_
  refine h_iload_n C dX8_isChanceDay_1 1 rfl rfl ?_
  refine h_callV (As := [.int (hpI d)]) (rest := []) C yyX8_isDayAheadOfLast wd_683 (tX8_isDayAheadOfLast l D cy z _ d ⟨by omega, by omega⟩ h_3_8) kd_0 rfl rfl ⟨rfl, rfl, Nat.le_of_ble_eq_true rfl, Nat.le_of_ble_eq_true rfl⟩ ⟨Nat.le_of_ble_eq_true rfl, Nat.le_of_ble_eq_true rfl⟩ (Nat.le_of_ble_eq_true rfl) dX8_isChanceDay_2 (fun r1 τ1 hp1 => ?_)
  obtain ⟨rfl, rfl⟩ := hp1
  show hpV _ _ _ _ _ _ _ _ _ _ _ _ _ _ _ _ _ _ _ _ _ (_ :: _)
  refine h_if_eq (tgt := 18) C dX8_isChanceDay_5 (by decide) ⟨by decide, by decide⟩ (fun h2 => ?_) (fun h2 => ?_)
  · refine h_iconst C dX8_isChanceDay_18 ?_
    refine h_zreturn C (by omega) hr hk dX8_isChanceDay_19 ?_
    exact ⟨rfl, rfl⟩
  · exfalso; omega
abbrev rX8_isOfAll : Room := { frames := 1, cells := 0, slots := 0, locals := 20 }
abbrev pX8_isOfAll (z : Nat) (σ : hpMem) (n : Int) : Option Value → hpMem → Prop := fun r τ => r = some (.int (hpI 0)) ∧ σ = τ
set_option maxHeartbeats 4000000 in
set_option maxRecDepth 20000 in
theorem tX8_isOfAll (l : Launch) (D : va_G) (cy : Nat → ClassId) (z : Nat) (σ : hpMem) (n : Int) (hn : hpR n) (h_3_8 : σ 3 8 = 0) : hpM l D cy z yX8_isOfAll cX8_isOfAll 2 (some .boolean) rX8_isOfAll [.ref (z + 0), .int (hpI n)] σ (pX8_isOfAll z σ n) := by
  obtain ⟨hn1, hn2⟩ := hn
  refine hp_met rfl (Nat.le_of_ble_eq_true rfl) (fun p e s m below meth c C hr hk => ?_)
  refine h_aload_n C dX8_isOfAll_0 0 rfl rfl ?_
  refine h_callV (As := []) (rest := []) C yyX8_noMoor wd_572 (tX8_noMoor l D cy z _ h_3_8) kd_0 rfl rfl ⟨rfl, rfl, Nat.le_of_ble_eq_true rfl, Nat.le_of_ble_eq_true rfl⟩ ⟨Nat.le_of_ble_eq_true rfl, Nat.le_of_ble_eq_true rfl⟩ (Nat.le_of_ble_eq_true rfl) dX8_isOfAll_1 (fun r1 τ1 hp1 => ?_)
  obtain ⟨rfl, rfl⟩ := hp1
  show hpV _ _ _ _ _ _ _ _ _ _ _ _ _ _ _ _ _ _ _ _ _ (_ :: _)
  refine h_if_ne (tgt := 22) C dX8_isOfAll_4 (by decide) ⟨by decide, by decide⟩ (fun h2 => ?_) (fun h2 => ?_)
  · refine h_iconst C dX8_isOfAll_22 ?_
    refine h_zreturn C (by omega) hr hk dX8_isOfAll_23 ?_
    exact ⟨rfl, rfl⟩
  · exfalso; omega
abbrev rX8_isTold : Room := { frames := 0, cells := 0, slots := 0, locals := 0 }
abbrev pX8_isTold (z : Nat) (σ : hpMem) (n : Int) : Option Value → hpMem → Prop := fun r τ => r = some (.int (hpI 0)) ∧ σ = τ
set_option maxHeartbeats 4000000 in
set_option maxRecDepth 20000 in
theorem tX8_isTold (l : Launch) (D : va_G) (cy : Nat → ClassId) (z : Nat) (σ : hpMem) (n : Int) (hn : hpR n) (h_3_9 : σ 3 9 = 0) : hpM l D cy z yX8_isTold cX8_isTold 2 (some .boolean) rX8_isTold [.ref (z + 0), .int (hpI n)] σ (pX8_isTold z σ n) := by
  obtain ⟨hn1, hn2⟩ := hn
  refine hp_met rfl (Nat.le_of_ble_eq_true rfl) (fun p e s m below meth c C hr hk => ?_)
  refine h_iload_n C dX8_isTold_0 1 rfl rfl ?_
  refine h_if_lt (tgt := 19) C dX8_isTold_1 (by decide) ⟨by omega, by omega⟩ (fun h1 => ?_) (fun h1 => ?_)
  · refine h_iconst C dX8_isTold_19 ?_
    refine h_zreturn C (by omega) hr hk dX8_isTold_20 ?_
    exact ⟨rfl, rfl⟩
  · refine h_iload_n C dX8_isTold_4 1 rfl rfl ?_
    refine h_aload_n C dX8_isTold_5 0 rfl rfl ?_
    refine h_get C O8 1 kd_0 (by decide) wd_350 dX8_isTold_6 fr_0_1 ?_
    refine h_getN C O1 9 kd_3 (by decide) nw_99 dX8_isTold_9 (fi_3_9 h_3_9) ?_
    refine h_icmp_ge (tgt := 19) C dX8_isTold_12 (by decide) ⟨by omega, by omega⟩ ⟨by decide, by decide⟩ (fun h2 => ?_) (fun h2 => ?_)
    · refine h_iconst C dX8_isTold_19 ?_
      refine h_zreturn C (by omega) hr hk dX8_isTold_20 ?_
      exact ⟨rfl, rfl⟩
    · refine h_iconst C dX8_isTold_15 ?_
      refine h_goto (tgt := 20) C dX8_isTold_16 (by decide) ?_
      refine h_zreturn C (by omega) hr hk dX8_isTold_20 ?_
      exact ⟨(by rw [show (1 : Int) = 0 by omega]), rfl⟩
abbrev rX8_isCart : Room := { frames := 0, cells := 0, slots := 0, locals := 0 }
abbrev pX8_isCart (z : Nat) (σ : hpMem) (n : Int) : Option Value → hpMem → Prop := fun r τ => r = some (.int (hpI 0)) ∧ σ = τ
set_option maxHeartbeats 4000000 in
set_option maxRecDepth 20000 in
theorem tX8_isCart (l : Launch) (D : va_G) (cy : Nat → ClassId) (z : Nat) (σ : hpMem) (n : Int) (hn : hpR n) (h_3_10 : σ 3 10 = 0) : hpM l D cy z yX8_isCart cX8_isCart 2 (some .boolean) rX8_isCart [.ref (z + 0), .int (hpI n)] σ (pX8_isCart z σ n) := by
  obtain ⟨hn1, hn2⟩ := hn
  refine hp_met rfl (Nat.le_of_ble_eq_true rfl) (fun p e s m below meth c C hr hk => ?_)
  refine h_iload_n C dX8_isCart_0 1 rfl rfl ?_
  refine h_if_lt (tgt := 19) C dX8_isCart_1 (by decide) ⟨by omega, by omega⟩ (fun h1 => ?_) (fun h1 => ?_)
  · refine h_iconst C dX8_isCart_19 ?_
    refine h_zreturn C (by omega) hr hk dX8_isCart_20 ?_
    exact ⟨rfl, rfl⟩
  · refine h_iload_n C dX8_isCart_4 1 rfl rfl ?_
    refine h_aload_n C dX8_isCart_5 0 rfl rfl ?_
    refine h_get C O8 1 kd_0 (by decide) wd_350 dX8_isCart_6 fr_0_1 ?_
    refine h_getN C O1 10 kd_3 (by decide) nw_103 dX8_isCart_9 (fi_3_10 h_3_10) ?_
    refine h_icmp_ge (tgt := 19) C dX8_isCart_12 (by decide) ⟨by omega, by omega⟩ ⟨by decide, by decide⟩ (fun h2 => ?_) (fun h2 => ?_)
    · refine h_iconst C dX8_isCart_19 ?_
      refine h_zreturn C (by omega) hr hk dX8_isCart_20 ?_
      exact ⟨rfl, rfl⟩
    · refine h_iconst C dX8_isCart_15 ?_
      refine h_goto (tgt := 20) C dX8_isCart_16 (by decide) ?_
      refine h_zreturn C (by omega) hr hk dX8_isCart_20 ?_
      exact ⟨(by rw [show (1 : Int) = 0 by omega]), rfl⟩
abbrev rX8_isSlot : Room := { frames := 0, cells := 0, slots := 0, locals := 0 }
abbrev pX8_isSlot (z : Nat) (σ : hpMem) (n : Int) : Option Value → hpMem → Prop := fun r τ => (∃ x : Int, r = some (.int (hpI x)) ∧ hpR x ∧ ((0 ≤ n ∧ n < 4 ∧ x = 1) ∨ ((n < 0 ∨ 4 ≤ n) ∧ x = 0))) ∧ σ = τ
set_option maxHeartbeats 4000000 in
set_option maxRecDepth 20000 in
theorem tX8_isSlot (l : Launch) (D : va_G) (cy : Nat → ClassId) (z : Nat) (σ : hpMem) (n : Int) (hn : hpR n) : hpM l D cy z yX8_isSlot cX8_isSlot 1 (some .boolean) rX8_isSlot [.int (hpI n)] σ (pX8_isSlot z σ n) := by
  obtain ⟨hn1, hn2⟩ := hn
  refine hp_met rfl (Nat.le_of_ble_eq_true rfl) (fun p e s m below meth c C hr hk => ?_)
  refine h_iload_n C dX8_isSlot_0 0 rfl rfl ?_
  refine h_if_lt (tgt := 13) C dX8_isSlot_1 (by decide) ⟨by omega, by omega⟩ (fun h1 => ?_) (fun h1 => ?_)
  · refine h_iconst C dX8_isSlot_13 ?_
    refine h_zreturn C (by omega) hr hk dX8_isSlot_14 ?_
    exact ⟨⟨_, rfl, ⟨by decide, by decide⟩, by omega⟩, rfl⟩
  · refine h_iload_n C dX8_isSlot_4 0 rfl rfl ?_
    refine h_iconst C dX8_isSlot_5 ?_
    refine h_icmp_ge (tgt := 13) C dX8_isSlot_6 (by decide) ⟨by omega, by omega⟩ ⟨by decide, by decide⟩ (fun h2 => ?_) (fun h2 => ?_)
    · refine h_iconst C dX8_isSlot_13 ?_
      refine h_zreturn C (by omega) hr hk dX8_isSlot_14 ?_
      exact ⟨⟨_, rfl, ⟨by decide, by decide⟩, by omega⟩, rfl⟩
    · refine h_iconst C dX8_isSlot_9 ?_
      refine h_goto (tgt := 14) C dX8_isSlot_10 (by decide) ?_
      refine h_zreturn C (by omega) hr hk dX8_isSlot_14 ?_
      exact ⟨⟨_, rfl, ⟨by decide, by decide⟩, by omega⟩, rfl⟩
abbrev rX8_asNumber : Room := { frames := 0, cells := 0, slots := 0, locals := 0 }
abbrev pX8_asNumber (z : Nat) (σ : hpMem) (b : Int) : Option Value → hpMem → Prop := fun r τ => (∃ x : Int, r = some (.int (hpI x)) ∧ hpR x ∧ ((b = 0 ∧ x = 0) ∨ (b ≠ 0 ∧ x = 1))) ∧ σ = τ
set_option maxHeartbeats 4000000 in
set_option maxRecDepth 20000 in
theorem tX8_asNumber (l : Launch) (D : va_G) (cy : Nat → ClassId) (z : Nat) (σ : hpMem) (b : Int) (hb : hpR b) : hpM l D cy z yX8_asNumber cX8_asNumber 1 (some .int) rX8_asNumber [.int (hpI b)] σ (pX8_asNumber z σ b) := by
  obtain ⟨hb1, hb2⟩ := hb
  refine hp_met rfl (Nat.le_of_ble_eq_true rfl) (fun p e s m below meth c C hr hk => ?_)
  refine h_iload_n C dX8_asNumber_0 0 rfl rfl ?_
  refine h_if_eq (tgt := 8) C dX8_asNumber_1 (by decide) ⟨by omega, by omega⟩ (fun h1 => ?_) (fun h1 => ?_)
  · refine h_iconst C dX8_asNumber_8 ?_
    refine h_ireturn C hr hk dX8_asNumber_9 ?_
    exact ⟨⟨_, rfl, ⟨by decide, by decide⟩, by omega⟩, rfl⟩
  · refine h_iconst C dX8_asNumber_4 ?_
    refine h_goto (tgt := 9) C dX8_asNumber_5 (by decide) ?_
    refine h_ireturn C hr hk dX8_asNumber_9 ?_
    exact ⟨⟨_, rfl, ⟨by decide, by decide⟩, by omega⟩, rfl⟩
abbrev rX8_slotsWithRow : Room := { frames := 1, cells := 0, slots := 0, locals := 20 }
abbrev pX8_slotsWithRow (z : Nat) (σ : hpMem) : Option Value → hpMem → Prop := fun r τ => r = some (.int (hpI 0)) ∧ σ = τ
set_option maxHeartbeats 4000000 in
set_option maxRecDepth 20000 in
theorem tX8_slotsWithRow (l : Launch) (D : va_G) (cy : Nat → ClassId) (z : Nat) (σ : hpMem) (h_187_1 : σ 187 1 = 0) (h_189_1 : σ 189 1 = 0) (h_191_1 : σ 191 1 = 0) (h_193_1 : σ 193 1 = 0) : hpM l D cy z yX8_slotsWithRow cX8_slotsWithRow 3 (some .int) rX8_slotsWithRow [.ref (z + 0)] σ (pX8_slotsWithRow z σ) := by
  refine hp_met rfl (Nat.le_of_ble_eq_true rfl) (fun p e s m below meth c C hr hk => ?_)
  refine h_iconst C dX8_slotsWithRow_0 ?_
  refine h_istore_n (lv' := [(1, .int (hpI 0)), (0, .ref (z + 0))]) C dX8_slotsWithRow_1 rfl (by decide) rfl ?_
  refine h_iconst C dX8_slotsWithRow_2 ?_
  refine h_istore_n (lv' := [(2, .int (hpI 0)), (1, .int (hpI 0)), (0, .ref (z + 0))]) C dX8_slotsWithRow_3 rfl (by decide) rfl ?_
  refine h_iload_n C dX8_slotsWithRow_4 0 rfl rfl ?_
  refine h_iconst C dX8_slotsWithRow_5 ?_
  refine h_icmp_ge (tgt := 30) C dX8_slotsWithRow_6 (by decide) ⟨by decide, by decide⟩ ⟨by decide, by decide⟩ (fun h1 => ?_) (fun h1 => ?_)
  · exfalso; omega
  · refine h_iload_n C dX8_slotsWithRow_9 1 rfl rfl ?_
    refine h_aload_n C dX8_slotsWithRow_10 2 rfl rfl ?_
    refine h_get C O8 4 kd_0 (by decide) wd_353 dX8_slotsWithRow_11 fr_0_4 ?_
    refine h_iload_n C dX8_slotsWithRow_14 0 rfl rfl ?_
    refine h_aaload (t0 := 6) C dX8_slotsWithRow_15 kd_16 (by decide) (by decide) rfl 0 rfl (by rw [ln_16]; decide) (by decide +kernel : hprf 16 0 = 187) ?_
    refine h_getN C O6 1 kd_187 (by decide) nw_335 dX8_slotsWithRow_16 (fi_187_1 h_187_1) ?_
    refine h_callS (As := [.int (hpI 0)]) (rest := [.int (hpI 0)]) C yyX8_asNumber rfl wd_742 (tX8_asNumber l D cy z _ 0 ⟨by decide, by decide⟩) rfl rfl ⟨rfl, rfl, Nat.le_of_ble_eq_true rfl, Nat.le_of_ble_eq_true rfl⟩ ⟨Nat.le_of_ble_eq_true rfl, Nat.le_of_ble_eq_true rfl⟩ (Nat.le_of_ble_eq_true rfl) dX8_slotsWithRow_19 (fun r2 τ2 hp2 => ?_)
    obtain ⟨⟨x2, rfl, ⟨hx2a, hx2b⟩, hx2⟩, rfl⟩ := hp2
    show hpV _ _ _ _ _ _ _ _ _ _ _ _ _ _ _ _ _ _ _ _ _ (_ :: _)
    refine h_iadd C dX8_slotsWithRow_22 rfl ?_
    refine h_istore_n (lv' := [(1, .int (hpI (0 + x2))), (2, .int (hpI 0)), (0, .ref (z + 0))]) C dX8_slotsWithRow_23 rfl (by decide) rfl ?_
    refine h_iinc (lv' := [(2, .int (hpI 1)), (1, .int (hpI (0 + x2))), (0, .ref (z + 0))]) C dX8_slotsWithRow_24 1 rfl rfl (by decide) rfl ?_
    refine h_goto (tgt := 4) C dX8_slotsWithRow_27 (by decide) ?_
    refine h_iload_n C dX8_slotsWithRow_4 0 rfl rfl ?_
    refine h_iconst C dX8_slotsWithRow_5 ?_
    refine h_icmp_ge (tgt := 30) C dX8_slotsWithRow_6 (by decide) ⟨by decide, by decide⟩ ⟨by decide, by decide⟩ (fun h3 => ?_) (fun h3 => ?_)
    · exfalso; omega
    · refine h_iload_n C dX8_slotsWithRow_9 1 rfl rfl ?_
      refine h_aload_n C dX8_slotsWithRow_10 2 rfl rfl ?_
      refine h_get C O8 4 kd_0 (by decide) wd_353 dX8_slotsWithRow_11 fr_0_4 ?_
      refine h_iload_n C dX8_slotsWithRow_14 0 rfl rfl ?_
      refine h_aaload (t0 := 6) C dX8_slotsWithRow_15 kd_16 (by decide) (by decide) rfl 1 rfl (by rw [ln_16]; decide) (by decide +kernel : hprf 16 1 = 189) ?_
      refine h_getN C O6 1 kd_189 (by decide) nw_335 dX8_slotsWithRow_16 (fi_189_1 h_189_1) ?_
      refine h_callS (As := [.int (hpI 0)]) (rest := [.int (hpI (0 + x2))]) C yyX8_asNumber rfl wd_742 (tX8_asNumber l D cy z _ 0 ⟨by decide, by decide⟩) rfl rfl ⟨rfl, rfl, Nat.le_of_ble_eq_true rfl, Nat.le_of_ble_eq_true rfl⟩ ⟨Nat.le_of_ble_eq_true rfl, Nat.le_of_ble_eq_true rfl⟩ (Nat.le_of_ble_eq_true rfl) dX8_slotsWithRow_19 (fun r4 τ4 hp4 => ?_)
      obtain ⟨⟨x4, rfl, ⟨hx4a, hx4b⟩, hx4⟩, rfl⟩ := hp4
      show hpV _ _ _ _ _ _ _ _ _ _ _ _ _ _ _ _ _ _ _ _ _ (_ :: _)
      refine h_iadd C dX8_slotsWithRow_22 rfl ?_
      refine h_istore_n (lv' := [(1, .int (hpI ((0 + x2) + x4))), (2, .int (hpI 1)), (0, .ref (z + 0))]) C dX8_slotsWithRow_23 rfl (by decide) rfl ?_
      refine h_iinc (lv' := [(2, .int (hpI 2)), (1, .int (hpI ((0 + x2) + x4))), (0, .ref (z + 0))]) C dX8_slotsWithRow_24 1 rfl rfl (by decide) rfl ?_
      refine h_goto (tgt := 4) C dX8_slotsWithRow_27 (by decide) ?_
      refine h_iload_n C dX8_slotsWithRow_4 0 rfl rfl ?_
      refine h_iconst C dX8_slotsWithRow_5 ?_
      refine h_icmp_ge (tgt := 30) C dX8_slotsWithRow_6 (by decide) ⟨by decide, by decide⟩ ⟨by decide, by decide⟩ (fun h5 => ?_) (fun h5 => ?_)
      · exfalso; omega
      · refine h_iload_n C dX8_slotsWithRow_9 1 rfl rfl ?_
        refine h_aload_n C dX8_slotsWithRow_10 2 rfl rfl ?_
        refine h_get C O8 4 kd_0 (by decide) wd_353 dX8_slotsWithRow_11 fr_0_4 ?_
        refine h_iload_n C dX8_slotsWithRow_14 0 rfl rfl ?_
        refine h_aaload (t0 := 6) C dX8_slotsWithRow_15 kd_16 (by decide) (by decide) rfl 2 rfl (by rw [ln_16]; decide) (by decide +kernel : hprf 16 2 = 191) ?_
        refine h_getN C O6 1 kd_191 (by decide) nw_335 dX8_slotsWithRow_16 (fi_191_1 h_191_1) ?_
        refine h_callS (As := [.int (hpI 0)]) (rest := [.int (hpI ((0 + x2) + x4))]) C yyX8_asNumber rfl wd_742 (tX8_asNumber l D cy z _ 0 ⟨by decide, by decide⟩) rfl rfl ⟨rfl, rfl, Nat.le_of_ble_eq_true rfl, Nat.le_of_ble_eq_true rfl⟩ ⟨Nat.le_of_ble_eq_true rfl, Nat.le_of_ble_eq_true rfl⟩ (Nat.le_of_ble_eq_true rfl) dX8_slotsWithRow_19 (fun r6 τ6 hp6 => ?_)
        obtain ⟨⟨x6, rfl, ⟨hx6a, hx6b⟩, hx6⟩, rfl⟩ := hp6
        show hpV _ _ _ _ _ _ _ _ _ _ _ _ _ _ _ _ _ _ _ _ _ (_ :: _)
        refine h_iadd C dX8_slotsWithRow_22 rfl ?_
        refine h_istore_n (lv' := [(1, .int (hpI (((0 + x2) + x4) + x6))), (2, .int (hpI 2)), (0, .ref (z + 0))]) C dX8_slotsWithRow_23 rfl (by decide) rfl ?_
        refine h_iinc (lv' := [(2, .int (hpI 3)), (1, .int (hpI (((0 + x2) + x4) + x6))), (0, .ref (z + 0))]) C dX8_slotsWithRow_24 1 rfl rfl (by decide) rfl ?_
        refine h_goto (tgt := 4) C dX8_slotsWithRow_27 (by decide) ?_
        refine h_iload_n C dX8_slotsWithRow_4 0 rfl rfl ?_
        refine h_iconst C dX8_slotsWithRow_5 ?_
        refine h_icmp_ge (tgt := 30) C dX8_slotsWithRow_6 (by decide) ⟨by decide, by decide⟩ ⟨by decide, by decide⟩ (fun h7 => ?_) (fun h7 => ?_)
        · exfalso; omega
        · refine h_iload_n C dX8_slotsWithRow_9 1 rfl rfl ?_
          refine h_aload_n C dX8_slotsWithRow_10 2 rfl rfl ?_
          refine h_get C O8 4 kd_0 (by decide) wd_353 dX8_slotsWithRow_11 fr_0_4 ?_
          refine h_iload_n C dX8_slotsWithRow_14 0 rfl rfl ?_
          refine h_aaload (t0 := 6) C dX8_slotsWithRow_15 kd_16 (by decide) (by decide) rfl 3 rfl (by rw [ln_16]; decide) (by decide +kernel : hprf 16 3 = 193) ?_
          refine h_getN C O6 1 kd_193 (by decide) nw_335 dX8_slotsWithRow_16 (fi_193_1 h_193_1) ?_
          refine h_callS (As := [.int (hpI 0)]) (rest := [.int (hpI (((0 + x2) + x4) + x6))]) C yyX8_asNumber rfl wd_742 (tX8_asNumber l D cy z _ 0 ⟨by decide, by decide⟩) rfl rfl ⟨rfl, rfl, Nat.le_of_ble_eq_true rfl, Nat.le_of_ble_eq_true rfl⟩ ⟨Nat.le_of_ble_eq_true rfl, Nat.le_of_ble_eq_true rfl⟩ (Nat.le_of_ble_eq_true rfl) dX8_slotsWithRow_19 (fun r8 τ8 hp8 => ?_)
          obtain ⟨⟨x8, rfl, ⟨hx8a, hx8b⟩, hx8⟩, rfl⟩ := hp8
          show hpV _ _ _ _ _ _ _ _ _ _ _ _ _ _ _ _ _ _ _ _ _ (_ :: _)
          refine h_iadd C dX8_slotsWithRow_22 rfl ?_
          refine h_istore_n (lv' := [(1, .int (hpI ((((0 + x2) + x4) + x6) + x8))), (2, .int (hpI 3)), (0, .ref (z + 0))]) C dX8_slotsWithRow_23 rfl (by decide) rfl ?_
          refine h_iinc (lv' := [(2, .int (hpI 4)), (1, .int (hpI ((((0 + x2) + x4) + x6) + x8))), (0, .ref (z + 0))]) C dX8_slotsWithRow_24 1 rfl rfl (by decide) rfl ?_
          refine h_goto (tgt := 4) C dX8_slotsWithRow_27 (by decide) ?_
          refine h_iload_n C dX8_slotsWithRow_4 0 rfl rfl ?_
          refine h_iconst C dX8_slotsWithRow_5 ?_
          refine h_icmp_ge (tgt := 30) C dX8_slotsWithRow_6 (by decide) ⟨by decide, by decide⟩ ⟨by decide, by decide⟩ (fun h9 => ?_) (fun h9 => ?_)
          · refine h_iload_n C dX8_slotsWithRow_30 1 rfl rfl ?_
            refine h_ireturn C hr hk dX8_slotsWithRow_31 ?_
            exact ⟨(by rw [show ((((0 + x2) + x4) + x6) + x8 : Int) = 0 by omega]), rfl⟩
          · exfalso; omega
abbrev rX8_forget : Room := { frames := 0, cells := 0, slots := 0, locals := 0 }
abbrev pX8_forget (z : Nat) (σ : hpMem) : Option Value → hpMem → Prop := fun r τ => r = none ∧ (∀ j : Nat, j ≠ 0 → τ j = σ j)
set_option maxHeartbeats 4000000 in
set_option maxRecDepth 20000 in
theorem tX8_forget (l : Launch) (D : va_G) (cy : Nat → ClassId) (z : Nat) (σ : hpMem) : hpM l D cy z yX8_forget cX8_forget 1 none rX8_forget [.ref (z + 0)] σ (pX8_forget z σ) := by
  refine hp_met rfl (Nat.le_of_ble_eq_true rfl) (fun p e s m below meth c C hr hk => ?_)
  refine h_aload_n C dX8_forget_0 0 rfl rfl ?_
  refine h_iconst C dX8_forget_1 ?_
  refine h_put C O8 13 kd_0 (by decide) rfl wd_362 dX8_forget_2 (by decide) rfl (fi_0_13 hpu_at) ?_
  refine h_aload_n C dX8_forget_5 0 rfl rfl ?_
  refine h_iconst C dX8_forget_6 ?_
  refine h_put C O8 14 kd_0 (by decide) rfl wd_363 dX8_forget_7 (by decide) rfl (fi_0_14 hpu_at) ?_
  refine h_aload_n C dX8_forget_10 0 rfl rfl ?_
  refine h_iconst C dX8_forget_11 ?_
  refine h_put C O8 15 kd_0 (by decide) rfl wd_364 dX8_forget_12 rfl rfl (fi_0_15 hpu_at) ?_
  refine h_return C hr hk dX8_forget_15 ?_
  exact ⟨rfl, (fun j hj0 => ((hpw_ne hj0).trans ((hpw_ne hj0).trans ((hpw_ne hj0).trans rfl))))⟩
abbrev rX8_smallRowFault : Room := { frames := 1, cells := 0, slots := 0, locals := 20 }
abbrev pX8_smallRowFault (z : Nat) (σ : hpMem) (n : Int) : Option Value → hpMem → Prop := fun r τ => r = some (.int (hpI (-2))) ∧ σ = τ
set_option maxHeartbeats 4000000 in
set_option maxRecDepth 20000 in
theorem tX8_smallRowFault (l : Launch) (D : va_G) (cy : Nat → ClassId) (z : Nat) (σ : hpMem) (n : Int) (hn : hpR n) (h_3_8 : σ 3 8 = 0) : hpM l D cy z yX8_smallRowFault cX8_smallRowFault 2 (some .int) rX8_smallRowFault [.ref (z + 0), .int (hpI n)] σ (pX8_smallRowFault z σ n) := by
  obtain ⟨hn1, hn2⟩ := hn
  refine hp_met rfl (Nat.le_of_ble_eq_true rfl) (fun p e s m below meth c C hr hk => ?_)
  refine h_iload_n C dX8_smallRowFault_0 1 rfl rfl ?_
  refine h_callS (As := [.int (hpI n)]) (rest := []) C yyX8_isSlot rfl wd_920 (tX8_isSlot l D cy z _ n ⟨by omega, by omega⟩) rfl rfl ⟨rfl, rfl, Nat.le_of_ble_eq_true rfl, Nat.le_of_ble_eq_true rfl⟩ ⟨Nat.le_of_ble_eq_true rfl, Nat.le_of_ble_eq_true rfl⟩ (Nat.le_of_ble_eq_true rfl) dX8_smallRowFault_1 (fun r1 τ1 hp1 => ?_)
  obtain ⟨⟨x1, rfl, ⟨hx1a, hx1b⟩, hx1⟩, rfl⟩ := hp1
  show hpV _ _ _ _ _ _ _ _ _ _ _ _ _ _ _ _ _ _ _ _ _ (_ :: _)
  refine h_if_eq (tgt := 14) C dX8_smallRowFault_4 (by decide) ⟨by omega, by omega⟩ (fun h2 => ?_) (fun h2 => ?_)
  · refine h_bipush C dX8_smallRowFault_14 (by decide) ?_
    refine h_ireturn C hr hk dX8_smallRowFault_16 ?_
    exact ⟨rfl, rfl⟩
  · refine h_aload_n C dX8_smallRowFault_7 0 rfl rfl ?_
    refine h_callV (As := []) (rest := []) C yyX8_noMoor wd_572 (tX8_noMoor l D cy z _ h_3_8) kd_0 rfl rfl ⟨rfl, rfl, Nat.le_of_ble_eq_true rfl, Nat.le_of_ble_eq_true rfl⟩ ⟨Nat.le_of_ble_eq_true rfl, Nat.le_of_ble_eq_true rfl⟩ (Nat.le_of_ble_eq_true rfl) dX8_smallRowFault_8 (fun r3 τ3 hp3 => ?_)
    obtain ⟨rfl, rfl⟩ := hp3
    show hpV _ _ _ _ _ _ _ _ _ _ _ _ _ _ _ _ _ _ _ _ _ (_ :: _)
    refine h_if_eq (tgt := 17) C dX8_smallRowFault_11 (by decide) ⟨by decide, by decide⟩ (fun h4 => ?_) (fun h4 => ?_)
    · exfalso; omega
    · refine h_bipush C dX8_smallRowFault_14 (by decide) ?_
      refine h_ireturn C hr hk dX8_smallRowFault_16 ?_
      exact ⟨rfl, rfl⟩
abbrev rX8_seenFault : Room := { frames := 1, cells := 0, slots := 0, locals := 20 }
abbrev pX8_seenFault (z : Nat) (σ : hpMem) (n : Int) : Option Value → hpMem → Prop := fun r τ => r = some (.int (hpI (-2))) ∧ σ = τ
set_option maxHeartbeats 4000000 in
set_option maxRecDepth 20000 in
theorem tX8_seenFault (l : Launch) (D : va_G) (cy : Nat → ClassId) (z : Nat) (σ : hpMem) (n : Int) (hn : hpR n) : hpM l D cy z yX8_seenFault cX8_seenFault 3 (some .int) rX8_seenFault [.ref (z + 0), .int (hpI n), .int (hpI 0)] σ (pX8_seenFault z σ n) := by
  obtain ⟨hn1, hn2⟩ := hn
  refine hp_met rfl (Nat.le_of_ble_eq_true rfl) (fun p e s m below meth c C hr hk => ?_)
  refine h_iload_n C dX8_seenFault_0 1 rfl rfl ?_
  refine h_callS (As := [.int (hpI n)]) (rest := []) C yyX8_isSlot rfl wd_920 (tX8_isSlot l D cy z _ n ⟨by omega, by omega⟩) rfl rfl ⟨rfl, rfl, Nat.le_of_ble_eq_true rfl, Nat.le_of_ble_eq_true rfl⟩ ⟨Nat.le_of_ble_eq_true rfl, Nat.le_of_ble_eq_true rfl⟩ (Nat.le_of_ble_eq_true rfl) dX8_seenFault_1 (fun r1 τ1 hp1 => ?_)
  obtain ⟨⟨x1, rfl, ⟨hx1a, hx1b⟩, hx1⟩, rfl⟩ := hp1
  show hpV _ _ _ _ _ _ _ _ _ _ _ _ _ _ _ _ _ _ _ _ _ (_ :: _)
  refine h_if_eq (tgt := 11) C dX8_seenFault_4 (by decide) ⟨by omega, by omega⟩ (fun h2 => ?_) (fun h2 => ?_)
  · refine h_bipush C dX8_seenFault_11 (by decide) ?_
    refine h_ireturn C hr hk dX8_seenFault_13 ?_
    exact ⟨rfl, rfl⟩
  · refine h_iload_n C dX8_seenFault_7 2 rfl rfl ?_
    refine h_if_ne (tgt := 14) C dX8_seenFault_8 (by decide) ⟨by decide, by decide⟩ (fun h3 => ?_) (fun h3 => ?_)
    · exfalso; omega
    · refine h_bipush C dX8_seenFault_11 (by decide) ?_
      refine h_ireturn C hr hk dX8_seenFault_13 ?_
      exact ⟨rfl, rfl⟩
abbrev rX7_put_0 : Room := { frames := 0, cells := 0, slots := 0, locals := 0 }
abbrev pX7_put_0 (z : Nat) (σ : hpMem) (a : Int) : Option Value → hpMem → Prop := fun r τ => r = none ∧ (∀ j : Nat, j ≠ 1 → j ≠ 2 → τ j = σ j) ∧ τ 1 1 = 4
set_option maxHeartbeats 4000000 in
set_option maxRecDepth 20000 in
theorem tX7_put_0 (l : Launch) (D : va_G) (cy : Nat → ClassId) (z : Nat) (σ : hpMem) (a : Int) (ha : hpR a) (h_1_1 : σ 1 1 = 0) : hpM l D cy z yX7_put cX7_put 3 none rX7_put_0 [.ref (z + 1), .int (hpI a)] σ (pX7_put_0 z σ a) := by
  obtain ⟨ha1, ha2⟩ := ha
  refine hp_met rfl (Nat.le_of_ble_eq_true rfl) (fun p e s m below meth c C hr hk => ?_)
  refine h_bipush C dX7_put_0 (by decide) ?_
  refine h_istore_n (lv' := [(2, .int (hpI 24)), (0, .ref (z + 1)), (1, .int (hpI a))]) C dX7_put_2 rfl (by decide) rfl ?_
  refine h_iload_n C dX7_put_3 0 rfl rfl ?_
  refine h_if_lt (tgt := 46) C dX7_put_4 (by decide) ⟨by decide, by decide⟩ (fun h1 => ?_) (fun h1 => ?_)
  · exfalso; omega
  · refine h_aload_n C dX7_put_7 1 rfl rfl ?_
    refine h_get C O7 1 kd_1 (by decide) wd_34 dX7_put_8 (fi_1_1 h_1_1) ?_
    refine h_sipush C dX7_put_11 (by decide) ?_
    refine h_icmp_ge (tgt := 40) C dX7_put_14 (by decide) ⟨by decide, by decide⟩ ⟨by decide, by decide⟩ (fun h2 => ?_) (fun h2 => ?_)
    · exfalso; omega
    · refine h_aload_n C dX7_put_17 1 rfl rfl ?_
      refine h_get C O7 0 kd_1 (by decide) wd_32 dX7_put_18 fr_1_0 ?_
      refine h_aload_n C dX7_put_21 1 rfl rfl ?_
      refine h_get C O7 1 kd_1 (by decide) wd_34 dX7_put_22 (fi_1_1 h_1_1) ?_
      refine h_iload_n C dX7_put_25 2 rfl rfl ?_
      refine h_iload_n C dX7_put_26 0 rfl rfl ?_
      refine h_ishr_any C dX7_put_27 (fun r3 hr3 => ?_)
      obtain ⟨hr3a, hr3b⟩ := hr3
      refine h_i2b C dX7_put_28 (fun r4 hr4a hr4b => ?_)
      refine h_bastore C dX7_put_29 kd_2 (by omega) (by omega) 0 rfl (by rw [ln_2]; decide) ?_
      refine h_aload_n C dX7_put_30 1 rfl rfl ?_
      refine h_dup C rfl dX7_put_31 ?_
      refine h_get C O7 1 kd_1 (by decide) wd_34 dX7_put_32 (fi_1_1 ((hpw_nk (by decide)).trans h_1_1)) ?_
      refine h_iconst C dX7_put_35 ?_
      refine h_iadd (r := 1) C dX7_put_36 (by decide) ?_
      refine h_put C O7 1 kd_1 (by decide) rfl wd_34 dX7_put_37 rfl rfl (fi_1_1 hpu_at) ?_
      refine h_iinc (lv' := [(2, .int (hpI 16)), (0, .ref (z + 1)), (1, .int (hpI a))]) C dX7_put_40 0 rfl rfl (by decide) rfl ?_
      refine h_goto (tgt := 3) C dX7_put_43 (by decide) ?_
      refine h_iload_n C dX7_put_3 0 rfl rfl ?_
      refine h_if_lt (tgt := 46) C dX7_put_4 (by decide) ⟨by decide, by decide⟩ (fun h5 => ?_) (fun h5 => ?_)
      · exfalso; omega
      · refine h_aload_n C dX7_put_7 1 rfl rfl ?_
        refine h_get C O7 1 kd_1 (by decide) wd_34 dX7_put_8 (fi_1_1 hpw_eq) ?_
        refine h_sipush C dX7_put_11 (by decide) ?_
        refine h_icmp_ge (tgt := 40) C dX7_put_14 (by decide) ⟨by decide, by decide⟩ ⟨by decide, by decide⟩ (fun h6 => ?_) (fun h6 => ?_)
        · exfalso; omega
        · refine h_aload_n C dX7_put_17 1 rfl rfl ?_
          refine h_get C O7 0 kd_1 (by decide) wd_32 dX7_put_18 fr_1_0 ?_
          refine h_aload_n C dX7_put_21 1 rfl rfl ?_
          refine h_get C O7 1 kd_1 (by decide) wd_34 dX7_put_22 (fi_1_1 hpw_eq) ?_
          refine h_iload_n C dX7_put_25 2 rfl rfl ?_
          refine h_iload_n C dX7_put_26 0 rfl rfl ?_
          refine h_ishr_any C dX7_put_27 (fun r7 hr7 => ?_)
          obtain ⟨hr7a, hr7b⟩ := hr7
          refine h_i2b C dX7_put_28 (fun r8 hr8a hr8b => ?_)
          refine h_bastore C dX7_put_29 kd_2 (by omega) (by omega) 1 rfl (by rw [ln_2]; decide) ?_
          refine h_aload_n C dX7_put_30 1 rfl rfl ?_
          refine h_dup C rfl dX7_put_31 ?_
          refine h_get C O7 1 kd_1 (by decide) wd_34 dX7_put_32 (fi_1_1 ((hpw_nk (by decide)).trans hpw_eq)) ?_
          refine h_iconst C dX7_put_35 ?_
          refine h_iadd (r := 2) C dX7_put_36 (by decide) ?_
          refine h_put C O7 1 kd_1 (by decide) rfl wd_34 dX7_put_37 rfl rfl (fi_1_1 hpu_at) ?_
          refine h_iinc (lv' := [(2, .int (hpI 8)), (0, .ref (z + 1)), (1, .int (hpI a))]) C dX7_put_40 0 rfl rfl (by decide) rfl ?_
          refine h_goto (tgt := 3) C dX7_put_43 (by decide) ?_
          refine h_iload_n C dX7_put_3 0 rfl rfl ?_
          refine h_if_lt (tgt := 46) C dX7_put_4 (by decide) ⟨by decide, by decide⟩ (fun h9 => ?_) (fun h9 => ?_)
          · exfalso; omega
          · refine h_aload_n C dX7_put_7 1 rfl rfl ?_
            refine h_get C O7 1 kd_1 (by decide) wd_34 dX7_put_8 (fi_1_1 hpw_eq) ?_
            refine h_sipush C dX7_put_11 (by decide) ?_
            refine h_icmp_ge (tgt := 40) C dX7_put_14 (by decide) ⟨by decide, by decide⟩ ⟨by decide, by decide⟩ (fun h10 => ?_) (fun h10 => ?_)
            · exfalso; omega
            · refine h_aload_n C dX7_put_17 1 rfl rfl ?_
              refine h_get C O7 0 kd_1 (by decide) wd_32 dX7_put_18 fr_1_0 ?_
              refine h_aload_n C dX7_put_21 1 rfl rfl ?_
              refine h_get C O7 1 kd_1 (by decide) wd_34 dX7_put_22 (fi_1_1 hpw_eq) ?_
              refine h_iload_n C dX7_put_25 2 rfl rfl ?_
              refine h_iload_n C dX7_put_26 0 rfl rfl ?_
              refine h_ishr_any C dX7_put_27 (fun r11 hr11 => ?_)
              obtain ⟨hr11a, hr11b⟩ := hr11
              refine h_i2b C dX7_put_28 (fun r12 hr12a hr12b => ?_)
              refine h_bastore C dX7_put_29 kd_2 (by omega) (by omega) 2 rfl (by rw [ln_2]; decide) ?_
              refine h_aload_n C dX7_put_30 1 rfl rfl ?_
              refine h_dup C rfl dX7_put_31 ?_
              refine h_get C O7 1 kd_1 (by decide) wd_34 dX7_put_32 (fi_1_1 ((hpw_nk (by decide)).trans hpw_eq)) ?_
              refine h_iconst C dX7_put_35 ?_
              refine h_iadd (r := 3) C dX7_put_36 (by decide) ?_
              refine h_put C O7 1 kd_1 (by decide) rfl wd_34 dX7_put_37 rfl rfl (fi_1_1 hpu_at) ?_
              refine h_iinc (lv' := [(2, .int (hpI 0)), (0, .ref (z + 1)), (1, .int (hpI a))]) C dX7_put_40 0 rfl rfl (by decide) rfl ?_
              refine h_goto (tgt := 3) C dX7_put_43 (by decide) ?_
              refine h_iload_n C dX7_put_3 0 rfl rfl ?_
              refine h_if_lt (tgt := 46) C dX7_put_4 (by decide) ⟨by decide, by decide⟩ (fun h13 => ?_) (fun h13 => ?_)
              · exfalso; omega
              · refine h_aload_n C dX7_put_7 1 rfl rfl ?_
                refine h_get C O7 1 kd_1 (by decide) wd_34 dX7_put_8 (fi_1_1 hpw_eq) ?_
                refine h_sipush C dX7_put_11 (by decide) ?_
                refine h_icmp_ge (tgt := 40) C dX7_put_14 (by decide) ⟨by decide, by decide⟩ ⟨by decide, by decide⟩ (fun h14 => ?_) (fun h14 => ?_)
                · exfalso; omega
                · refine h_aload_n C dX7_put_17 1 rfl rfl ?_
                  refine h_get C O7 0 kd_1 (by decide) wd_32 dX7_put_18 fr_1_0 ?_
                  refine h_aload_n C dX7_put_21 1 rfl rfl ?_
                  refine h_get C O7 1 kd_1 (by decide) wd_34 dX7_put_22 (fi_1_1 hpw_eq) ?_
                  refine h_iload_n C dX7_put_25 2 rfl rfl ?_
                  refine h_iload_n C dX7_put_26 0 rfl rfl ?_
                  refine h_ishr_any C dX7_put_27 (fun r15 hr15 => ?_)
                  obtain ⟨hr15a, hr15b⟩ := hr15
                  refine h_i2b C dX7_put_28 (fun r16 hr16a hr16b => ?_)
                  refine h_bastore C dX7_put_29 kd_2 (by omega) (by omega) 3 rfl (by rw [ln_2]; decide) ?_
                  refine h_aload_n C dX7_put_30 1 rfl rfl ?_
                  refine h_dup C rfl dX7_put_31 ?_
                  refine h_get C O7 1 kd_1 (by decide) wd_34 dX7_put_32 (fi_1_1 ((hpw_nk (by decide)).trans hpw_eq)) ?_
                  refine h_iconst C dX7_put_35 ?_
                  refine h_iadd (r := 4) C dX7_put_36 (by decide) ?_
                  refine h_put C O7 1 kd_1 (by decide) rfl wd_34 dX7_put_37 rfl rfl (fi_1_1 hpu_at) ?_
                  refine h_iinc (lv' := [(2, .int (hpI (-8))), (0, .ref (z + 1)), (1, .int (hpI a))]) C dX7_put_40 0 rfl rfl (by decide) rfl ?_
                  refine h_goto (tgt := 3) C dX7_put_43 (by decide) ?_
                  refine h_iload_n C dX7_put_3 0 rfl rfl ?_
                  refine h_if_lt (tgt := 46) C dX7_put_4 (by decide) ⟨by decide, by decide⟩ (fun h17 => ?_) (fun h17 => ?_)
                  · refine h_return C hr hk dX7_put_46 ?_
                    exact ⟨rfl, (fun j hj0 hj1 => ((hpw_ne hj0).trans ((hpw_ne hj1).trans ((hpw_ne hj0).trans ((hpw_ne hj1).trans ((hpw_ne hj0).trans ((hpw_ne hj1).trans ((hpw_ne hj0).trans ((hpw_ne hj1).trans rfl))))))))), hpw_eq⟩
                  · exfalso; omega
abbrev rX7_put_4 : Room := { frames := 0, cells := 0, slots := 0, locals := 0 }
abbrev pX7_put_4 (z : Nat) (σ : hpMem) (a : Int) : Option Value → hpMem → Prop := fun r τ => r = none ∧ (∀ j : Nat, j ≠ 1 → j ≠ 2 → τ j = σ j) ∧ τ 1 1 = 8
set_option maxHeartbeats 4000000 in
set_option maxRecDepth 20000 in
theorem tX7_put_4 (l : Launch) (D : va_G) (cy : Nat → ClassId) (z : Nat) (σ : hpMem) (a : Int) (ha : hpR a) (h_1_1 : σ 1 1 = 4) : hpM l D cy z yX7_put cX7_put 3 none rX7_put_4 [.ref (z + 1), .int (hpI a)] σ (pX7_put_4 z σ a) := by
  obtain ⟨ha1, ha2⟩ := ha
  refine hp_met rfl (Nat.le_of_ble_eq_true rfl) (fun p e s m below meth c C hr hk => ?_)
  refine h_bipush C dX7_put_0 (by decide) ?_
  refine h_istore_n (lv' := [(2, .int (hpI 24)), (0, .ref (z + 1)), (1, .int (hpI a))]) C dX7_put_2 rfl (by decide) rfl ?_
  refine h_iload_n C dX7_put_3 0 rfl rfl ?_
  refine h_if_lt (tgt := 46) C dX7_put_4 (by decide) ⟨by decide, by decide⟩ (fun h1 => ?_) (fun h1 => ?_)
  · exfalso; omega
  · refine h_aload_n C dX7_put_7 1 rfl rfl ?_
    refine h_get C O7 1 kd_1 (by decide) wd_34 dX7_put_8 (fi_1_1 h_1_1) ?_
    refine h_sipush C dX7_put_11 (by decide) ?_
    refine h_icmp_ge (tgt := 40) C dX7_put_14 (by decide) ⟨by decide, by decide⟩ ⟨by decide, by decide⟩ (fun h2 => ?_) (fun h2 => ?_)
    · exfalso; omega
    · refine h_aload_n C dX7_put_17 1 rfl rfl ?_
      refine h_get C O7 0 kd_1 (by decide) wd_32 dX7_put_18 fr_1_0 ?_
      refine h_aload_n C dX7_put_21 1 rfl rfl ?_
      refine h_get C O7 1 kd_1 (by decide) wd_34 dX7_put_22 (fi_1_1 h_1_1) ?_
      refine h_iload_n C dX7_put_25 2 rfl rfl ?_
      refine h_iload_n C dX7_put_26 0 rfl rfl ?_
      refine h_ishr_any C dX7_put_27 (fun r3 hr3 => ?_)
      obtain ⟨hr3a, hr3b⟩ := hr3
      refine h_i2b C dX7_put_28 (fun r4 hr4a hr4b => ?_)
      refine h_bastore C dX7_put_29 kd_2 (by omega) (by omega) 4 rfl (by rw [ln_2]; decide) ?_
      refine h_aload_n C dX7_put_30 1 rfl rfl ?_
      refine h_dup C rfl dX7_put_31 ?_
      refine h_get C O7 1 kd_1 (by decide) wd_34 dX7_put_32 (fi_1_1 ((hpw_nk (by decide)).trans h_1_1)) ?_
      refine h_iconst C dX7_put_35 ?_
      refine h_iadd (r := 5) C dX7_put_36 (by decide) ?_
      refine h_put C O7 1 kd_1 (by decide) rfl wd_34 dX7_put_37 rfl rfl (fi_1_1 hpu_at) ?_
      refine h_iinc (lv' := [(2, .int (hpI 16)), (0, .ref (z + 1)), (1, .int (hpI a))]) C dX7_put_40 0 rfl rfl (by decide) rfl ?_
      refine h_goto (tgt := 3) C dX7_put_43 (by decide) ?_
      refine h_iload_n C dX7_put_3 0 rfl rfl ?_
      refine h_if_lt (tgt := 46) C dX7_put_4 (by decide) ⟨by decide, by decide⟩ (fun h5 => ?_) (fun h5 => ?_)
      · exfalso; omega
      · refine h_aload_n C dX7_put_7 1 rfl rfl ?_
        refine h_get C O7 1 kd_1 (by decide) wd_34 dX7_put_8 (fi_1_1 hpw_eq) ?_
        refine h_sipush C dX7_put_11 (by decide) ?_
        refine h_icmp_ge (tgt := 40) C dX7_put_14 (by decide) ⟨by decide, by decide⟩ ⟨by decide, by decide⟩ (fun h6 => ?_) (fun h6 => ?_)
        · exfalso; omega
        · refine h_aload_n C dX7_put_17 1 rfl rfl ?_
          refine h_get C O7 0 kd_1 (by decide) wd_32 dX7_put_18 fr_1_0 ?_
          refine h_aload_n C dX7_put_21 1 rfl rfl ?_
          refine h_get C O7 1 kd_1 (by decide) wd_34 dX7_put_22 (fi_1_1 hpw_eq) ?_
          refine h_iload_n C dX7_put_25 2 rfl rfl ?_
          refine h_iload_n C dX7_put_26 0 rfl rfl ?_
          refine h_ishr_any C dX7_put_27 (fun r7 hr7 => ?_)
          obtain ⟨hr7a, hr7b⟩ := hr7
          refine h_i2b C dX7_put_28 (fun r8 hr8a hr8b => ?_)
          refine h_bastore C dX7_put_29 kd_2 (by omega) (by omega) 5 rfl (by rw [ln_2]; decide) ?_
          refine h_aload_n C dX7_put_30 1 rfl rfl ?_
          refine h_dup C rfl dX7_put_31 ?_
          refine h_get C O7 1 kd_1 (by decide) wd_34 dX7_put_32 (fi_1_1 ((hpw_nk (by decide)).trans hpw_eq)) ?_
          refine h_iconst C dX7_put_35 ?_
          refine h_iadd (r := 6) C dX7_put_36 (by decide) ?_
          refine h_put C O7 1 kd_1 (by decide) rfl wd_34 dX7_put_37 rfl rfl (fi_1_1 hpu_at) ?_
          refine h_iinc (lv' := [(2, .int (hpI 8)), (0, .ref (z + 1)), (1, .int (hpI a))]) C dX7_put_40 0 rfl rfl (by decide) rfl ?_
          refine h_goto (tgt := 3) C dX7_put_43 (by decide) ?_
          refine h_iload_n C dX7_put_3 0 rfl rfl ?_
          refine h_if_lt (tgt := 46) C dX7_put_4 (by decide) ⟨by decide, by decide⟩ (fun h9 => ?_) (fun h9 => ?_)
          · exfalso; omega
          · refine h_aload_n C dX7_put_7 1 rfl rfl ?_
            refine h_get C O7 1 kd_1 (by decide) wd_34 dX7_put_8 (fi_1_1 hpw_eq) ?_
            refine h_sipush C dX7_put_11 (by decide) ?_
            refine h_icmp_ge (tgt := 40) C dX7_put_14 (by decide) ⟨by decide, by decide⟩ ⟨by decide, by decide⟩ (fun h10 => ?_) (fun h10 => ?_)
            · exfalso; omega
            · refine h_aload_n C dX7_put_17 1 rfl rfl ?_
              refine h_get C O7 0 kd_1 (by decide) wd_32 dX7_put_18 fr_1_0 ?_
              refine h_aload_n C dX7_put_21 1 rfl rfl ?_
              refine h_get C O7 1 kd_1 (by decide) wd_34 dX7_put_22 (fi_1_1 hpw_eq) ?_
              refine h_iload_n C dX7_put_25 2 rfl rfl ?_
              refine h_iload_n C dX7_put_26 0 rfl rfl ?_
              refine h_ishr_any C dX7_put_27 (fun r11 hr11 => ?_)
              obtain ⟨hr11a, hr11b⟩ := hr11
              refine h_i2b C dX7_put_28 (fun r12 hr12a hr12b => ?_)
              refine h_bastore C dX7_put_29 kd_2 (by omega) (by omega) 6 rfl (by rw [ln_2]; decide) ?_
              refine h_aload_n C dX7_put_30 1 rfl rfl ?_
              refine h_dup C rfl dX7_put_31 ?_
              refine h_get C O7 1 kd_1 (by decide) wd_34 dX7_put_32 (fi_1_1 ((hpw_nk (by decide)).trans hpw_eq)) ?_
              refine h_iconst C dX7_put_35 ?_
              refine h_iadd (r := 7) C dX7_put_36 (by decide) ?_
              refine h_put C O7 1 kd_1 (by decide) rfl wd_34 dX7_put_37 rfl rfl (fi_1_1 hpu_at) ?_
              refine h_iinc (lv' := [(2, .int (hpI 0)), (0, .ref (z + 1)), (1, .int (hpI a))]) C dX7_put_40 0 rfl rfl (by decide) rfl ?_
              refine h_goto (tgt := 3) C dX7_put_43 (by decide) ?_
              refine h_iload_n C dX7_put_3 0 rfl rfl ?_
              refine h_if_lt (tgt := 46) C dX7_put_4 (by decide) ⟨by decide, by decide⟩ (fun h13 => ?_) (fun h13 => ?_)
              · exfalso; omega
              · refine h_aload_n C dX7_put_7 1 rfl rfl ?_
                refine h_get C O7 1 kd_1 (by decide) wd_34 dX7_put_8 (fi_1_1 hpw_eq) ?_
                refine h_sipush C dX7_put_11 (by decide) ?_
                refine h_icmp_ge (tgt := 40) C dX7_put_14 (by decide) ⟨by decide, by decide⟩ ⟨by decide, by decide⟩ (fun h14 => ?_) (fun h14 => ?_)
                · exfalso; omega
                · refine h_aload_n C dX7_put_17 1 rfl rfl ?_
                  refine h_get C O7 0 kd_1 (by decide) wd_32 dX7_put_18 fr_1_0 ?_
                  refine h_aload_n C dX7_put_21 1 rfl rfl ?_
                  refine h_get C O7 1 kd_1 (by decide) wd_34 dX7_put_22 (fi_1_1 hpw_eq) ?_
                  refine h_iload_n C dX7_put_25 2 rfl rfl ?_
                  refine h_iload_n C dX7_put_26 0 rfl rfl ?_
                  refine h_ishr_any C dX7_put_27 (fun r15 hr15 => ?_)
                  obtain ⟨hr15a, hr15b⟩ := hr15
                  refine h_i2b C dX7_put_28 (fun r16 hr16a hr16b => ?_)
                  refine h_bastore C dX7_put_29 kd_2 (by omega) (by omega) 7 rfl (by rw [ln_2]; decide) ?_
                  refine h_aload_n C dX7_put_30 1 rfl rfl ?_
                  refine h_dup C rfl dX7_put_31 ?_
                  refine h_get C O7 1 kd_1 (by decide) wd_34 dX7_put_32 (fi_1_1 ((hpw_nk (by decide)).trans hpw_eq)) ?_
                  refine h_iconst C dX7_put_35 ?_
                  refine h_iadd (r := 8) C dX7_put_36 (by decide) ?_
                  refine h_put C O7 1 kd_1 (by decide) rfl wd_34 dX7_put_37 rfl rfl (fi_1_1 hpu_at) ?_
                  refine h_iinc (lv' := [(2, .int (hpI (-8))), (0, .ref (z + 1)), (1, .int (hpI a))]) C dX7_put_40 0 rfl rfl (by decide) rfl ?_
                  refine h_goto (tgt := 3) C dX7_put_43 (by decide) ?_
                  refine h_iload_n C dX7_put_3 0 rfl rfl ?_
                  refine h_if_lt (tgt := 46) C dX7_put_4 (by decide) ⟨by decide, by decide⟩ (fun h17 => ?_) (fun h17 => ?_)
                  · refine h_return C hr hk dX7_put_46 ?_
                    exact ⟨rfl, (fun j hj0 hj1 => ((hpw_ne hj0).trans ((hpw_ne hj1).trans ((hpw_ne hj0).trans ((hpw_ne hj1).trans ((hpw_ne hj0).trans ((hpw_ne hj1).trans ((hpw_ne hj0).trans ((hpw_ne hj1).trans rfl))))))))), hpw_eq⟩
                  · exfalso; omega
abbrev rX7_put_8 : Room := { frames := 0, cells := 0, slots := 0, locals := 0 }
abbrev pX7_put_8 (z : Nat) (σ : hpMem) (a : Int) : Option Value → hpMem → Prop := fun r τ => r = none ∧ (∀ j : Nat, j ≠ 1 → j ≠ 2 → τ j = σ j) ∧ τ 1 1 = 12
set_option maxHeartbeats 4000000 in
set_option maxRecDepth 20000 in
theorem tX7_put_8 (l : Launch) (D : va_G) (cy : Nat → ClassId) (z : Nat) (σ : hpMem) (a : Int) (ha : hpR a) (h_1_1 : σ 1 1 = 8) : hpM l D cy z yX7_put cX7_put 3 none rX7_put_8 [.ref (z + 1), .int (hpI a)] σ (pX7_put_8 z σ a) := by
  obtain ⟨ha1, ha2⟩ := ha
  refine hp_met rfl (Nat.le_of_ble_eq_true rfl) (fun p e s m below meth c C hr hk => ?_)
  refine h_bipush C dX7_put_0 (by decide) ?_
  refine h_istore_n (lv' := [(2, .int (hpI 24)), (0, .ref (z + 1)), (1, .int (hpI a))]) C dX7_put_2 rfl (by decide) rfl ?_
  refine h_iload_n C dX7_put_3 0 rfl rfl ?_
  refine h_if_lt (tgt := 46) C dX7_put_4 (by decide) ⟨by decide, by decide⟩ (fun h1 => ?_) (fun h1 => ?_)
  · exfalso; omega
  · refine h_aload_n C dX7_put_7 1 rfl rfl ?_
    refine h_get C O7 1 kd_1 (by decide) wd_34 dX7_put_8 (fi_1_1 h_1_1) ?_
    refine h_sipush C dX7_put_11 (by decide) ?_
    refine h_icmp_ge (tgt := 40) C dX7_put_14 (by decide) ⟨by decide, by decide⟩ ⟨by decide, by decide⟩ (fun h2 => ?_) (fun h2 => ?_)
    · exfalso; omega
    · refine h_aload_n C dX7_put_17 1 rfl rfl ?_
      refine h_get C O7 0 kd_1 (by decide) wd_32 dX7_put_18 fr_1_0 ?_
      refine h_aload_n C dX7_put_21 1 rfl rfl ?_
      refine h_get C O7 1 kd_1 (by decide) wd_34 dX7_put_22 (fi_1_1 h_1_1) ?_
      refine h_iload_n C dX7_put_25 2 rfl rfl ?_
      refine h_iload_n C dX7_put_26 0 rfl rfl ?_
      refine h_ishr_any C dX7_put_27 (fun r3 hr3 => ?_)
      obtain ⟨hr3a, hr3b⟩ := hr3
      refine h_i2b C dX7_put_28 (fun r4 hr4a hr4b => ?_)
      refine h_bastore C dX7_put_29 kd_2 (by omega) (by omega) 8 rfl (by rw [ln_2]; decide) ?_
      refine h_aload_n C dX7_put_30 1 rfl rfl ?_
      refine h_dup C rfl dX7_put_31 ?_
      refine h_get C O7 1 kd_1 (by decide) wd_34 dX7_put_32 (fi_1_1 ((hpw_nk (by decide)).trans h_1_1)) ?_
      refine h_iconst C dX7_put_35 ?_
      refine h_iadd (r := 9) C dX7_put_36 (by decide) ?_
      refine h_put C O7 1 kd_1 (by decide) rfl wd_34 dX7_put_37 rfl rfl (fi_1_1 hpu_at) ?_
      refine h_iinc (lv' := [(2, .int (hpI 16)), (0, .ref (z + 1)), (1, .int (hpI a))]) C dX7_put_40 0 rfl rfl (by decide) rfl ?_
      refine h_goto (tgt := 3) C dX7_put_43 (by decide) ?_
      refine h_iload_n C dX7_put_3 0 rfl rfl ?_
      refine h_if_lt (tgt := 46) C dX7_put_4 (by decide) ⟨by decide, by decide⟩ (fun h5 => ?_) (fun h5 => ?_)
      · exfalso; omega
      · refine h_aload_n C dX7_put_7 1 rfl rfl ?_
        refine h_get C O7 1 kd_1 (by decide) wd_34 dX7_put_8 (fi_1_1 hpw_eq) ?_
        refine h_sipush C dX7_put_11 (by decide) ?_
        refine h_icmp_ge (tgt := 40) C dX7_put_14 (by decide) ⟨by decide, by decide⟩ ⟨by decide, by decide⟩ (fun h6 => ?_) (fun h6 => ?_)
        · exfalso; omega
        · refine h_aload_n C dX7_put_17 1 rfl rfl ?_
          refine h_get C O7 0 kd_1 (by decide) wd_32 dX7_put_18 fr_1_0 ?_
          refine h_aload_n C dX7_put_21 1 rfl rfl ?_
          refine h_get C O7 1 kd_1 (by decide) wd_34 dX7_put_22 (fi_1_1 hpw_eq) ?_
          refine h_iload_n C dX7_put_25 2 rfl rfl ?_
          refine h_iload_n C dX7_put_26 0 rfl rfl ?_
          refine h_ishr_any C dX7_put_27 (fun r7 hr7 => ?_)
          obtain ⟨hr7a, hr7b⟩ := hr7
          refine h_i2b C dX7_put_28 (fun r8 hr8a hr8b => ?_)
          refine h_bastore C dX7_put_29 kd_2 (by omega) (by omega) 9 rfl (by rw [ln_2]; decide) ?_
          refine h_aload_n C dX7_put_30 1 rfl rfl ?_
          refine h_dup C rfl dX7_put_31 ?_
          refine h_get C O7 1 kd_1 (by decide) wd_34 dX7_put_32 (fi_1_1 ((hpw_nk (by decide)).trans hpw_eq)) ?_
          refine h_iconst C dX7_put_35 ?_
          refine h_iadd (r := 10) C dX7_put_36 (by decide) ?_
          refine h_put C O7 1 kd_1 (by decide) rfl wd_34 dX7_put_37 rfl rfl (fi_1_1 hpu_at) ?_
          refine h_iinc (lv' := [(2, .int (hpI 8)), (0, .ref (z + 1)), (1, .int (hpI a))]) C dX7_put_40 0 rfl rfl (by decide) rfl ?_
          refine h_goto (tgt := 3) C dX7_put_43 (by decide) ?_
          refine h_iload_n C dX7_put_3 0 rfl rfl ?_
          refine h_if_lt (tgt := 46) C dX7_put_4 (by decide) ⟨by decide, by decide⟩ (fun h9 => ?_) (fun h9 => ?_)
          · exfalso; omega
          · refine h_aload_n C dX7_put_7 1 rfl rfl ?_
            refine h_get C O7 1 kd_1 (by decide) wd_34 dX7_put_8 (fi_1_1 hpw_eq) ?_
            refine h_sipush C dX7_put_11 (by decide) ?_
            refine h_icmp_ge (tgt := 40) C dX7_put_14 (by decide) ⟨by decide, by decide⟩ ⟨by decide, by decide⟩ (fun h10 => ?_) (fun h10 => ?_)
            · exfalso; omega
            · refine h_aload_n C dX7_put_17 1 rfl rfl ?_
              refine h_get C O7 0 kd_1 (by decide) wd_32 dX7_put_18 fr_1_0 ?_
              refine h_aload_n C dX7_put_21 1 rfl rfl ?_
              refine h_get C O7 1 kd_1 (by decide) wd_34 dX7_put_22 (fi_1_1 hpw_eq) ?_
              refine h_iload_n C dX7_put_25 2 rfl rfl ?_
              refine h_iload_n C dX7_put_26 0 rfl rfl ?_
              refine h_ishr_any C dX7_put_27 (fun r11 hr11 => ?_)
              obtain ⟨hr11a, hr11b⟩ := hr11
              refine h_i2b C dX7_put_28 (fun r12 hr12a hr12b => ?_)
              refine h_bastore C dX7_put_29 kd_2 (by omega) (by omega) 10 rfl (by rw [ln_2]; decide) ?_
              refine h_aload_n C dX7_put_30 1 rfl rfl ?_
              refine h_dup C rfl dX7_put_31 ?_
              refine h_get C O7 1 kd_1 (by decide) wd_34 dX7_put_32 (fi_1_1 ((hpw_nk (by decide)).trans hpw_eq)) ?_
              refine h_iconst C dX7_put_35 ?_
              refine h_iadd (r := 11) C dX7_put_36 (by decide) ?_
              refine h_put C O7 1 kd_1 (by decide) rfl wd_34 dX7_put_37 rfl rfl (fi_1_1 hpu_at) ?_
              refine h_iinc (lv' := [(2, .int (hpI 0)), (0, .ref (z + 1)), (1, .int (hpI a))]) C dX7_put_40 0 rfl rfl (by decide) rfl ?_
              refine h_goto (tgt := 3) C dX7_put_43 (by decide) ?_
              refine h_iload_n C dX7_put_3 0 rfl rfl ?_
              refine h_if_lt (tgt := 46) C dX7_put_4 (by decide) ⟨by decide, by decide⟩ (fun h13 => ?_) (fun h13 => ?_)
              · exfalso; omega
              · refine h_aload_n C dX7_put_7 1 rfl rfl ?_
                refine h_get C O7 1 kd_1 (by decide) wd_34 dX7_put_8 (fi_1_1 hpw_eq) ?_
                refine h_sipush C dX7_put_11 (by decide) ?_
                refine h_icmp_ge (tgt := 40) C dX7_put_14 (by decide) ⟨by decide, by decide⟩ ⟨by decide, by decide⟩ (fun h14 => ?_) (fun h14 => ?_)
                · exfalso; omega
                · refine h_aload_n C dX7_put_17 1 rfl rfl ?_
                  refine h_get C O7 0 kd_1 (by decide) wd_32 dX7_put_18 fr_1_0 ?_
                  refine h_aload_n C dX7_put_21 1 rfl rfl ?_
                  refine h_get C O7 1 kd_1 (by decide) wd_34 dX7_put_22 (fi_1_1 hpw_eq) ?_
                  refine h_iload_n C dX7_put_25 2 rfl rfl ?_
                  refine h_iload_n C dX7_put_26 0 rfl rfl ?_
                  refine h_ishr_any C dX7_put_27 (fun r15 hr15 => ?_)
                  obtain ⟨hr15a, hr15b⟩ := hr15
                  refine h_i2b C dX7_put_28 (fun r16 hr16a hr16b => ?_)
                  refine h_bastore C dX7_put_29 kd_2 (by omega) (by omega) 11 rfl (by rw [ln_2]; decide) ?_
                  refine h_aload_n C dX7_put_30 1 rfl rfl ?_
                  refine h_dup C rfl dX7_put_31 ?_
                  refine h_get C O7 1 kd_1 (by decide) wd_34 dX7_put_32 (fi_1_1 ((hpw_nk (by decide)).trans hpw_eq)) ?_
                  refine h_iconst C dX7_put_35 ?_
                  refine h_iadd (r := 12) C dX7_put_36 (by decide) ?_
                  refine h_put C O7 1 kd_1 (by decide) rfl wd_34 dX7_put_37 rfl rfl (fi_1_1 hpu_at) ?_
                  refine h_iinc (lv' := [(2, .int (hpI (-8))), (0, .ref (z + 1)), (1, .int (hpI a))]) C dX7_put_40 0 rfl rfl (by decide) rfl ?_
                  refine h_goto (tgt := 3) C dX7_put_43 (by decide) ?_
                  refine h_iload_n C dX7_put_3 0 rfl rfl ?_
                  refine h_if_lt (tgt := 46) C dX7_put_4 (by decide) ⟨by decide, by decide⟩ (fun h17 => ?_) (fun h17 => ?_)
                  · refine h_return C hr hk dX7_put_46 ?_
                    exact ⟨rfl, (fun j hj0 hj1 => ((hpw_ne hj0).trans ((hpw_ne hj1).trans ((hpw_ne hj0).trans ((hpw_ne hj1).trans ((hpw_ne hj0).trans ((hpw_ne hj1).trans ((hpw_ne hj0).trans ((hpw_ne hj1).trans rfl))))))))), hpw_eq⟩
                  · exfalso; omega
abbrev rX7_put_12 : Room := { frames := 0, cells := 0, slots := 0, locals := 0 }
abbrev pX7_put_12 (z : Nat) (σ : hpMem) (a : Int) : Option Value → hpMem → Prop := fun r τ => r = none ∧ (∀ j : Nat, j ≠ 1 → j ≠ 2 → τ j = σ j) ∧ τ 1 1 = 16
set_option maxHeartbeats 4000000 in
set_option maxRecDepth 20000 in
theorem tX7_put_12 (l : Launch) (D : va_G) (cy : Nat → ClassId) (z : Nat) (σ : hpMem) (a : Int) (ha : hpR a) (h_1_1 : σ 1 1 = 12) : hpM l D cy z yX7_put cX7_put 3 none rX7_put_12 [.ref (z + 1), .int (hpI a)] σ (pX7_put_12 z σ a) := by
  obtain ⟨ha1, ha2⟩ := ha
  refine hp_met rfl (Nat.le_of_ble_eq_true rfl) (fun p e s m below meth c C hr hk => ?_)
  refine h_bipush C dX7_put_0 (by decide) ?_
  refine h_istore_n (lv' := [(2, .int (hpI 24)), (0, .ref (z + 1)), (1, .int (hpI a))]) C dX7_put_2 rfl (by decide) rfl ?_
  refine h_iload_n C dX7_put_3 0 rfl rfl ?_
  refine h_if_lt (tgt := 46) C dX7_put_4 (by decide) ⟨by decide, by decide⟩ (fun h1 => ?_) (fun h1 => ?_)
  · exfalso; omega
  · refine h_aload_n C dX7_put_7 1 rfl rfl ?_
    refine h_get C O7 1 kd_1 (by decide) wd_34 dX7_put_8 (fi_1_1 h_1_1) ?_
    refine h_sipush C dX7_put_11 (by decide) ?_
    refine h_icmp_ge (tgt := 40) C dX7_put_14 (by decide) ⟨by decide, by decide⟩ ⟨by decide, by decide⟩ (fun h2 => ?_) (fun h2 => ?_)
    · exfalso; omega
    · refine h_aload_n C dX7_put_17 1 rfl rfl ?_
      refine h_get C O7 0 kd_1 (by decide) wd_32 dX7_put_18 fr_1_0 ?_
      refine h_aload_n C dX7_put_21 1 rfl rfl ?_
      refine h_get C O7 1 kd_1 (by decide) wd_34 dX7_put_22 (fi_1_1 h_1_1) ?_
      refine h_iload_n C dX7_put_25 2 rfl rfl ?_
      refine h_iload_n C dX7_put_26 0 rfl rfl ?_
      refine h_ishr_any C dX7_put_27 (fun r3 hr3 => ?_)
      obtain ⟨hr3a, hr3b⟩ := hr3
      refine h_i2b C dX7_put_28 (fun r4 hr4a hr4b => ?_)
      refine h_bastore C dX7_put_29 kd_2 (by omega) (by omega) 12 rfl (by rw [ln_2]; decide) ?_
      refine h_aload_n C dX7_put_30 1 rfl rfl ?_
      refine h_dup C rfl dX7_put_31 ?_
      refine h_get C O7 1 kd_1 (by decide) wd_34 dX7_put_32 (fi_1_1 ((hpw_nk (by decide)).trans h_1_1)) ?_
      refine h_iconst C dX7_put_35 ?_
      refine h_iadd (r := 13) C dX7_put_36 (by decide) ?_
      refine h_put C O7 1 kd_1 (by decide) rfl wd_34 dX7_put_37 rfl rfl (fi_1_1 hpu_at) ?_
      refine h_iinc (lv' := [(2, .int (hpI 16)), (0, .ref (z + 1)), (1, .int (hpI a))]) C dX7_put_40 0 rfl rfl (by decide) rfl ?_
      refine h_goto (tgt := 3) C dX7_put_43 (by decide) ?_
      refine h_iload_n C dX7_put_3 0 rfl rfl ?_
      refine h_if_lt (tgt := 46) C dX7_put_4 (by decide) ⟨by decide, by decide⟩ (fun h5 => ?_) (fun h5 => ?_)
      · exfalso; omega
      · refine h_aload_n C dX7_put_7 1 rfl rfl ?_
        refine h_get C O7 1 kd_1 (by decide) wd_34 dX7_put_8 (fi_1_1 hpw_eq) ?_
        refine h_sipush C dX7_put_11 (by decide) ?_
        refine h_icmp_ge (tgt := 40) C dX7_put_14 (by decide) ⟨by decide, by decide⟩ ⟨by decide, by decide⟩ (fun h6 => ?_) (fun h6 => ?_)
        · exfalso; omega
        · refine h_aload_n C dX7_put_17 1 rfl rfl ?_
          refine h_get C O7 0 kd_1 (by decide) wd_32 dX7_put_18 fr_1_0 ?_
          refine h_aload_n C dX7_put_21 1 rfl rfl ?_
          refine h_get C O7 1 kd_1 (by decide) wd_34 dX7_put_22 (fi_1_1 hpw_eq) ?_
          refine h_iload_n C dX7_put_25 2 rfl rfl ?_
          refine h_iload_n C dX7_put_26 0 rfl rfl ?_
          refine h_ishr_any C dX7_put_27 (fun r7 hr7 => ?_)
          obtain ⟨hr7a, hr7b⟩ := hr7
          refine h_i2b C dX7_put_28 (fun r8 hr8a hr8b => ?_)
          refine h_bastore C dX7_put_29 kd_2 (by omega) (by omega) 13 rfl (by rw [ln_2]; decide) ?_
          refine h_aload_n C dX7_put_30 1 rfl rfl ?_
          refine h_dup C rfl dX7_put_31 ?_
          refine h_get C O7 1 kd_1 (by decide) wd_34 dX7_put_32 (fi_1_1 ((hpw_nk (by decide)).trans hpw_eq)) ?_
          refine h_iconst C dX7_put_35 ?_
          refine h_iadd (r := 14) C dX7_put_36 (by decide) ?_
          refine h_put C O7 1 kd_1 (by decide) rfl wd_34 dX7_put_37 rfl rfl (fi_1_1 hpu_at) ?_
          refine h_iinc (lv' := [(2, .int (hpI 8)), (0, .ref (z + 1)), (1, .int (hpI a))]) C dX7_put_40 0 rfl rfl (by decide) rfl ?_
          refine h_goto (tgt := 3) C dX7_put_43 (by decide) ?_
          refine h_iload_n C dX7_put_3 0 rfl rfl ?_
          refine h_if_lt (tgt := 46) C dX7_put_4 (by decide) ⟨by decide, by decide⟩ (fun h9 => ?_) (fun h9 => ?_)
          · exfalso; omega
          · refine h_aload_n C dX7_put_7 1 rfl rfl ?_
            refine h_get C O7 1 kd_1 (by decide) wd_34 dX7_put_8 (fi_1_1 hpw_eq) ?_
            refine h_sipush C dX7_put_11 (by decide) ?_
            refine h_icmp_ge (tgt := 40) C dX7_put_14 (by decide) ⟨by decide, by decide⟩ ⟨by decide, by decide⟩ (fun h10 => ?_) (fun h10 => ?_)
            · exfalso; omega
            · refine h_aload_n C dX7_put_17 1 rfl rfl ?_
              refine h_get C O7 0 kd_1 (by decide) wd_32 dX7_put_18 fr_1_0 ?_
              refine h_aload_n C dX7_put_21 1 rfl rfl ?_
              refine h_get C O7 1 kd_1 (by decide) wd_34 dX7_put_22 (fi_1_1 hpw_eq) ?_
              refine h_iload_n C dX7_put_25 2 rfl rfl ?_
              refine h_iload_n C dX7_put_26 0 rfl rfl ?_
              refine h_ishr_any C dX7_put_27 (fun r11 hr11 => ?_)
              obtain ⟨hr11a, hr11b⟩ := hr11
              refine h_i2b C dX7_put_28 (fun r12 hr12a hr12b => ?_)
              refine h_bastore C dX7_put_29 kd_2 (by omega) (by omega) 14 rfl (by rw [ln_2]; decide) ?_
              refine h_aload_n C dX7_put_30 1 rfl rfl ?_
              refine h_dup C rfl dX7_put_31 ?_
              refine h_get C O7 1 kd_1 (by decide) wd_34 dX7_put_32 (fi_1_1 ((hpw_nk (by decide)).trans hpw_eq)) ?_
              refine h_iconst C dX7_put_35 ?_
              refine h_iadd (r := 15) C dX7_put_36 (by decide) ?_
              refine h_put C O7 1 kd_1 (by decide) rfl wd_34 dX7_put_37 rfl rfl (fi_1_1 hpu_at) ?_
              refine h_iinc (lv' := [(2, .int (hpI 0)), (0, .ref (z + 1)), (1, .int (hpI a))]) C dX7_put_40 0 rfl rfl (by decide) rfl ?_
              refine h_goto (tgt := 3) C dX7_put_43 (by decide) ?_
              refine h_iload_n C dX7_put_3 0 rfl rfl ?_
              refine h_if_lt (tgt := 46) C dX7_put_4 (by decide) ⟨by decide, by decide⟩ (fun h13 => ?_) (fun h13 => ?_)
              · exfalso; omega
              · refine h_aload_n C dX7_put_7 1 rfl rfl ?_
                refine h_get C O7 1 kd_1 (by decide) wd_34 dX7_put_8 (fi_1_1 hpw_eq) ?_
                refine h_sipush C dX7_put_11 (by decide) ?_
                refine h_icmp_ge (tgt := 40) C dX7_put_14 (by decide) ⟨by decide, by decide⟩ ⟨by decide, by decide⟩ (fun h14 => ?_) (fun h14 => ?_)
                · exfalso; omega
                · refine h_aload_n C dX7_put_17 1 rfl rfl ?_
                  refine h_get C O7 0 kd_1 (by decide) wd_32 dX7_put_18 fr_1_0 ?_
                  refine h_aload_n C dX7_put_21 1 rfl rfl ?_
                  refine h_get C O7 1 kd_1 (by decide) wd_34 dX7_put_22 (fi_1_1 hpw_eq) ?_
                  refine h_iload_n C dX7_put_25 2 rfl rfl ?_
                  refine h_iload_n C dX7_put_26 0 rfl rfl ?_
                  refine h_ishr_any C dX7_put_27 (fun r15 hr15 => ?_)
                  obtain ⟨hr15a, hr15b⟩ := hr15
                  refine h_i2b C dX7_put_28 (fun r16 hr16a hr16b => ?_)
                  refine h_bastore C dX7_put_29 kd_2 (by omega) (by omega) 15 rfl (by rw [ln_2]; decide) ?_
                  refine h_aload_n C dX7_put_30 1 rfl rfl ?_
                  refine h_dup C rfl dX7_put_31 ?_
                  refine h_get C O7 1 kd_1 (by decide) wd_34 dX7_put_32 (fi_1_1 ((hpw_nk (by decide)).trans hpw_eq)) ?_
                  refine h_iconst C dX7_put_35 ?_
                  refine h_iadd (r := 16) C dX7_put_36 (by decide) ?_
                  refine h_put C O7 1 kd_1 (by decide) rfl wd_34 dX7_put_37 rfl rfl (fi_1_1 hpu_at) ?_
                  refine h_iinc (lv' := [(2, .int (hpI (-8))), (0, .ref (z + 1)), (1, .int (hpI a))]) C dX7_put_40 0 rfl rfl (by decide) rfl ?_
                  refine h_goto (tgt := 3) C dX7_put_43 (by decide) ?_
                  refine h_iload_n C dX7_put_3 0 rfl rfl ?_
                  refine h_if_lt (tgt := 46) C dX7_put_4 (by decide) ⟨by decide, by decide⟩ (fun h17 => ?_) (fun h17 => ?_)
                  · refine h_return C hr hk dX7_put_46 ?_
                    exact ⟨rfl, (fun j hj0 hj1 => ((hpw_ne hj0).trans ((hpw_ne hj1).trans ((hpw_ne hj0).trans ((hpw_ne hj1).trans ((hpw_ne hj0).trans ((hpw_ne hj1).trans ((hpw_ne hj0).trans ((hpw_ne hj1).trans rfl))))))))), hpw_eq⟩
                  · exfalso; omega
abbrev rX7_put_16 : Room := { frames := 0, cells := 0, slots := 0, locals := 0 }
abbrev pX7_put_16 (z : Nat) (σ : hpMem) (a : Int) : Option Value → hpMem → Prop := fun r τ => r = none ∧ (∀ j : Nat, j ≠ 1 → j ≠ 2 → τ j = σ j) ∧ τ 1 1 = 20
set_option maxHeartbeats 4000000 in
set_option maxRecDepth 20000 in
theorem tX7_put_16 (l : Launch) (D : va_G) (cy : Nat → ClassId) (z : Nat) (σ : hpMem) (a : Int) (ha : hpR a) (h_1_1 : σ 1 1 = 16) : hpM l D cy z yX7_put cX7_put 3 none rX7_put_16 [.ref (z + 1), .int (hpI a)] σ (pX7_put_16 z σ a) := by
  obtain ⟨ha1, ha2⟩ := ha
  refine hp_met rfl (Nat.le_of_ble_eq_true rfl) (fun p e s m below meth c C hr hk => ?_)
  refine h_bipush C dX7_put_0 (by decide) ?_
  refine h_istore_n (lv' := [(2, .int (hpI 24)), (0, .ref (z + 1)), (1, .int (hpI a))]) C dX7_put_2 rfl (by decide) rfl ?_
  refine h_iload_n C dX7_put_3 0 rfl rfl ?_
  refine h_if_lt (tgt := 46) C dX7_put_4 (by decide) ⟨by decide, by decide⟩ (fun h1 => ?_) (fun h1 => ?_)
  · exfalso; omega
  · refine h_aload_n C dX7_put_7 1 rfl rfl ?_
    refine h_get C O7 1 kd_1 (by decide) wd_34 dX7_put_8 (fi_1_1 h_1_1) ?_
    refine h_sipush C dX7_put_11 (by decide) ?_
    refine h_icmp_ge (tgt := 40) C dX7_put_14 (by decide) ⟨by decide, by decide⟩ ⟨by decide, by decide⟩ (fun h2 => ?_) (fun h2 => ?_)
    · exfalso; omega
    · refine h_aload_n C dX7_put_17 1 rfl rfl ?_
      refine h_get C O7 0 kd_1 (by decide) wd_32 dX7_put_18 fr_1_0 ?_
      refine h_aload_n C dX7_put_21 1 rfl rfl ?_
      refine h_get C O7 1 kd_1 (by decide) wd_34 dX7_put_22 (fi_1_1 h_1_1) ?_
      refine h_iload_n C dX7_put_25 2 rfl rfl ?_
      refine h_iload_n C dX7_put_26 0 rfl rfl ?_
      refine h_ishr_any C dX7_put_27 (fun r3 hr3 => ?_)
      obtain ⟨hr3a, hr3b⟩ := hr3
      refine h_i2b C dX7_put_28 (fun r4 hr4a hr4b => ?_)
      refine h_bastore C dX7_put_29 kd_2 (by omega) (by omega) 16 rfl (by rw [ln_2]; decide) ?_
      refine h_aload_n C dX7_put_30 1 rfl rfl ?_
      refine h_dup C rfl dX7_put_31 ?_
      refine h_get C O7 1 kd_1 (by decide) wd_34 dX7_put_32 (fi_1_1 ((hpw_nk (by decide)).trans h_1_1)) ?_
      refine h_iconst C dX7_put_35 ?_
      refine h_iadd (r := 17) C dX7_put_36 (by decide) ?_
      refine h_put C O7 1 kd_1 (by decide) rfl wd_34 dX7_put_37 rfl rfl (fi_1_1 hpu_at) ?_
      refine h_iinc (lv' := [(2, .int (hpI 16)), (0, .ref (z + 1)), (1, .int (hpI a))]) C dX7_put_40 0 rfl rfl (by decide) rfl ?_
      refine h_goto (tgt := 3) C dX7_put_43 (by decide) ?_
      refine h_iload_n C dX7_put_3 0 rfl rfl ?_
      refine h_if_lt (tgt := 46) C dX7_put_4 (by decide) ⟨by decide, by decide⟩ (fun h5 => ?_) (fun h5 => ?_)
      · exfalso; omega
      · refine h_aload_n C dX7_put_7 1 rfl rfl ?_
        refine h_get C O7 1 kd_1 (by decide) wd_34 dX7_put_8 (fi_1_1 hpw_eq) ?_
        refine h_sipush C dX7_put_11 (by decide) ?_
        refine h_icmp_ge (tgt := 40) C dX7_put_14 (by decide) ⟨by decide, by decide⟩ ⟨by decide, by decide⟩ (fun h6 => ?_) (fun h6 => ?_)
        · exfalso; omega
        · refine h_aload_n C dX7_put_17 1 rfl rfl ?_
          refine h_get C O7 0 kd_1 (by decide) wd_32 dX7_put_18 fr_1_0 ?_
          refine h_aload_n C dX7_put_21 1 rfl rfl ?_
          refine h_get C O7 1 kd_1 (by decide) wd_34 dX7_put_22 (fi_1_1 hpw_eq) ?_
          refine h_iload_n C dX7_put_25 2 rfl rfl ?_
          refine h_iload_n C dX7_put_26 0 rfl rfl ?_
          refine h_ishr_any C dX7_put_27 (fun r7 hr7 => ?_)
          obtain ⟨hr7a, hr7b⟩ := hr7
          refine h_i2b C dX7_put_28 (fun r8 hr8a hr8b => ?_)
          refine h_bastore C dX7_put_29 kd_2 (by omega) (by omega) 17 rfl (by rw [ln_2]; decide) ?_
          refine h_aload_n C dX7_put_30 1 rfl rfl ?_
          refine h_dup C rfl dX7_put_31 ?_
          refine h_get C O7 1 kd_1 (by decide) wd_34 dX7_put_32 (fi_1_1 ((hpw_nk (by decide)).trans hpw_eq)) ?_
          refine h_iconst C dX7_put_35 ?_
          refine h_iadd (r := 18) C dX7_put_36 (by decide) ?_
          refine h_put C O7 1 kd_1 (by decide) rfl wd_34 dX7_put_37 rfl rfl (fi_1_1 hpu_at) ?_
          refine h_iinc (lv' := [(2, .int (hpI 8)), (0, .ref (z + 1)), (1, .int (hpI a))]) C dX7_put_40 0 rfl rfl (by decide) rfl ?_
          refine h_goto (tgt := 3) C dX7_put_43 (by decide) ?_
          refine h_iload_n C dX7_put_3 0 rfl rfl ?_
          refine h_if_lt (tgt := 46) C dX7_put_4 (by decide) ⟨by decide, by decide⟩ (fun h9 => ?_) (fun h9 => ?_)
          · exfalso; omega
          · refine h_aload_n C dX7_put_7 1 rfl rfl ?_
            refine h_get C O7 1 kd_1 (by decide) wd_34 dX7_put_8 (fi_1_1 hpw_eq) ?_
            refine h_sipush C dX7_put_11 (by decide) ?_
            refine h_icmp_ge (tgt := 40) C dX7_put_14 (by decide) ⟨by decide, by decide⟩ ⟨by decide, by decide⟩ (fun h10 => ?_) (fun h10 => ?_)
            · exfalso; omega
            · refine h_aload_n C dX7_put_17 1 rfl rfl ?_
              refine h_get C O7 0 kd_1 (by decide) wd_32 dX7_put_18 fr_1_0 ?_
              refine h_aload_n C dX7_put_21 1 rfl rfl ?_
              refine h_get C O7 1 kd_1 (by decide) wd_34 dX7_put_22 (fi_1_1 hpw_eq) ?_
              refine h_iload_n C dX7_put_25 2 rfl rfl ?_
              refine h_iload_n C dX7_put_26 0 rfl rfl ?_
              refine h_ishr_any C dX7_put_27 (fun r11 hr11 => ?_)
              obtain ⟨hr11a, hr11b⟩ := hr11
              refine h_i2b C dX7_put_28 (fun r12 hr12a hr12b => ?_)
              refine h_bastore C dX7_put_29 kd_2 (by omega) (by omega) 18 rfl (by rw [ln_2]; decide) ?_
              refine h_aload_n C dX7_put_30 1 rfl rfl ?_
              refine h_dup C rfl dX7_put_31 ?_
              refine h_get C O7 1 kd_1 (by decide) wd_34 dX7_put_32 (fi_1_1 ((hpw_nk (by decide)).trans hpw_eq)) ?_
              refine h_iconst C dX7_put_35 ?_
              refine h_iadd (r := 19) C dX7_put_36 (by decide) ?_
              refine h_put C O7 1 kd_1 (by decide) rfl wd_34 dX7_put_37 rfl rfl (fi_1_1 hpu_at) ?_
              refine h_iinc (lv' := [(2, .int (hpI 0)), (0, .ref (z + 1)), (1, .int (hpI a))]) C dX7_put_40 0 rfl rfl (by decide) rfl ?_
              refine h_goto (tgt := 3) C dX7_put_43 (by decide) ?_
              refine h_iload_n C dX7_put_3 0 rfl rfl ?_
              refine h_if_lt (tgt := 46) C dX7_put_4 (by decide) ⟨by decide, by decide⟩ (fun h13 => ?_) (fun h13 => ?_)
              · exfalso; omega
              · refine h_aload_n C dX7_put_7 1 rfl rfl ?_
                refine h_get C O7 1 kd_1 (by decide) wd_34 dX7_put_8 (fi_1_1 hpw_eq) ?_
                refine h_sipush C dX7_put_11 (by decide) ?_
                refine h_icmp_ge (tgt := 40) C dX7_put_14 (by decide) ⟨by decide, by decide⟩ ⟨by decide, by decide⟩ (fun h14 => ?_) (fun h14 => ?_)
                · exfalso; omega
                · refine h_aload_n C dX7_put_17 1 rfl rfl ?_
                  refine h_get C O7 0 kd_1 (by decide) wd_32 dX7_put_18 fr_1_0 ?_
                  refine h_aload_n C dX7_put_21 1 rfl rfl ?_
                  refine h_get C O7 1 kd_1 (by decide) wd_34 dX7_put_22 (fi_1_1 hpw_eq) ?_
                  refine h_iload_n C dX7_put_25 2 rfl rfl ?_
                  refine h_iload_n C dX7_put_26 0 rfl rfl ?_
                  refine h_ishr_any C dX7_put_27 (fun r15 hr15 => ?_)
                  obtain ⟨hr15a, hr15b⟩ := hr15
                  refine h_i2b C dX7_put_28 (fun r16 hr16a hr16b => ?_)
                  refine h_bastore C dX7_put_29 kd_2 (by omega) (by omega) 19 rfl (by rw [ln_2]; decide) ?_
                  refine h_aload_n C dX7_put_30 1 rfl rfl ?_
                  refine h_dup C rfl dX7_put_31 ?_
                  refine h_get C O7 1 kd_1 (by decide) wd_34 dX7_put_32 (fi_1_1 ((hpw_nk (by decide)).trans hpw_eq)) ?_
                  refine h_iconst C dX7_put_35 ?_
                  refine h_iadd (r := 20) C dX7_put_36 (by decide) ?_
                  refine h_put C O7 1 kd_1 (by decide) rfl wd_34 dX7_put_37 rfl rfl (fi_1_1 hpu_at) ?_
                  refine h_iinc (lv' := [(2, .int (hpI (-8))), (0, .ref (z + 1)), (1, .int (hpI a))]) C dX7_put_40 0 rfl rfl (by decide) rfl ?_
                  refine h_goto (tgt := 3) C dX7_put_43 (by decide) ?_
                  refine h_iload_n C dX7_put_3 0 rfl rfl ?_
                  refine h_if_lt (tgt := 46) C dX7_put_4 (by decide) ⟨by decide, by decide⟩ (fun h17 => ?_) (fun h17 => ?_)
                  · refine h_return C hr hk dX7_put_46 ?_
                    exact ⟨rfl, (fun j hj0 hj1 => ((hpw_ne hj0).trans ((hpw_ne hj1).trans ((hpw_ne hj0).trans ((hpw_ne hj1).trans ((hpw_ne hj0).trans ((hpw_ne hj1).trans ((hpw_ne hj0).trans ((hpw_ne hj1).trans rfl))))))))), hpw_eq⟩
                  · exfalso; omega
abbrev rX8_feed : Room := { frames := 1, cells := 0, slots := 0, locals := 22 }
abbrev pX8_feed (z : Nat) (σ : hpMem) (a : Int) (b : Int) (c0 : Int) (d0 : Int) (e0 : Int) : Option Value → hpMem → Prop := fun r τ => r = some (.int (hpI 20)) ∧ (∀ j : Nat, j ≠ 1 → j ≠ 2 → τ j = σ j)
set_option maxHeartbeats 4000000 in
set_option maxRecDepth 20000 in
theorem tX8_feed (l : Launch) (D : va_G) (cy : Nat → ClassId) (z : Nat) (σ : hpMem) (a : Int) (ha : hpR a) (b : Int) (hb : hpR b) (c0 : Int) (hc0 : hpR c0) (d0 : Int) (hd0 : hpR d0) (e0 : Int) (he0 : hpR e0) (h_1_1 : σ 1 1 = 0) : hpM l D cy z yX8_feed cX8_feed 6 (some .int) rX8_feed [.ref (z + 0), .int (hpI a), .int (hpI b), .int (hpI c0), .int (hpI d0), .int (hpI e0)] σ (pX8_feed z σ a b c0 d0 e0) := by
  obtain ⟨ha1, ha2⟩ := ha
  obtain ⟨hb1, hb2⟩ := hb
  obtain ⟨hc01, hc02⟩ := hc0
  obtain ⟨hd01, hd02⟩ := hd0
  obtain ⟨he01, he02⟩ := he0
  refine hp_met rfl (Nat.le_of_ble_eq_true rfl) (fun p e s m below meth c C hr hk => ?_)
  refine h_aload_n C dX8_feed_0 0 rfl rfl ?_
  refine h_get C O8 0 kd_0 (by decide) wd_349 dX8_feed_1 fr_0_0 ?_
  refine h_getN C O7 1 kd_1 (by decide) nw_33 dX8_feed_4 (fi_1_1 h_1_1) ?_
  refine h_bipush C dX8_feed_7 (by decide) ?_
  refine h_iadd (r := 20) C dX8_feed_9 (by decide) ?_
  refine h_sipush C dX8_feed_10 (by decide) ?_
  refine h_icmp_le (tgt := 18) C dX8_feed_13 (by decide) ⟨by decide, by decide⟩ ⟨by decide, by decide⟩ (fun h1 => ?_) (fun h1 => ?_)
  · refine h_aload_n C dX8_feed_18 0 rfl rfl ?_
    refine h_get C O8 0 kd_0 (by decide) wd_349 dX8_feed_19 fr_0_0 ?_
    refine h_iload_n C dX8_feed_22 1 rfl rfl ?_
    refine h_callVN (As := [.int (hpI a)]) (rest := []) C yyX7_put nw_402 (tX7_put_0 l D cy z _ a ⟨by omega, by omega⟩ h_1_1) kd_1 rfl rfl ⟨rfl, rfl, Nat.le_of_ble_eq_true rfl, Nat.le_of_ble_eq_true rfl⟩ ⟨Nat.le_of_ble_eq_true rfl, Nat.le_of_ble_eq_true rfl⟩ (Nat.le_of_ble_eq_true rfl) dX8_feed_23 (fun r2 τ2 hp2 => ?_)
    obtain ⟨rfl, hF2, hc2_0⟩ := hp2
    show hpV _ _ _ _ _ _ _ _ _ _ _ _ _ _ _ _ _ _ _ _ _ []
    refine h_aload_n C dX8_feed_26 0 rfl rfl ?_
    refine h_get C O8 0 kd_0 (by decide) wd_349 dX8_feed_27 fr_0_0 ?_
    refine h_iload_n C dX8_feed_30 2 rfl rfl ?_
    refine h_callVN (As := [.int (hpI b)]) (rest := []) C yyX7_put nw_402 (tX7_put_4 l D cy z _ b ⟨by omega, by omega⟩ hc2_0) kd_1 rfl rfl ⟨rfl, rfl, Nat.le_of_ble_eq_true rfl, Nat.le_of_ble_eq_true rfl⟩ ⟨Nat.le_of_ble_eq_true rfl, Nat.le_of_ble_eq_true rfl⟩ (Nat.le_of_ble_eq_true rfl) dX8_feed_31 (fun r3 τ3 hp3 => ?_)
    obtain ⟨rfl, hF3, hc3_0⟩ := hp3
    show hpV _ _ _ _ _ _ _ _ _ _ _ _ _ _ _ _ _ _ _ _ _ []
    refine h_aload_n C dX8_feed_34 0 rfl rfl ?_
    refine h_get C O8 0 kd_0 (by decide) wd_349 dX8_feed_35 fr_0_0 ?_
    refine h_iload_n C dX8_feed_38 3 rfl rfl ?_
    refine h_callVN (As := [.int (hpI c0)]) (rest := []) C yyX7_put nw_402 (tX7_put_8 l D cy z _ c0 ⟨by omega, by omega⟩ hc3_0) kd_1 rfl rfl ⟨rfl, rfl, Nat.le_of_ble_eq_true rfl, Nat.le_of_ble_eq_true rfl⟩ ⟨Nat.le_of_ble_eq_true rfl, Nat.le_of_ble_eq_true rfl⟩ (Nat.le_of_ble_eq_true rfl) dX8_feed_39 (fun r4 τ4 hp4 => ?_)
    obtain ⟨rfl, hF4, hc4_0⟩ := hp4
    show hpV _ _ _ _ _ _ _ _ _ _ _ _ _ _ _ _ _ _ _ _ _ []
    refine h_aload_n C dX8_feed_42 0 rfl rfl ?_
    refine h_get C O8 0 kd_0 (by decide) wd_349 dX8_feed_43 fr_0_0 ?_
    refine h_iload C dX8_feed_46 4 rfl ?_
    refine h_callVN (As := [.int (hpI d0)]) (rest := []) C yyX7_put nw_402 (tX7_put_12 l D cy z _ d0 ⟨by omega, by omega⟩ hc4_0) kd_1 rfl rfl ⟨rfl, rfl, Nat.le_of_ble_eq_true rfl, Nat.le_of_ble_eq_true rfl⟩ ⟨Nat.le_of_ble_eq_true rfl, Nat.le_of_ble_eq_true rfl⟩ (Nat.le_of_ble_eq_true rfl) dX8_feed_48 (fun r5 τ5 hp5 => ?_)
    obtain ⟨rfl, hF5, hc5_0⟩ := hp5
    show hpV _ _ _ _ _ _ _ _ _ _ _ _ _ _ _ _ _ _ _ _ _ []
    refine h_aload_n C dX8_feed_51 0 rfl rfl ?_
    refine h_get C O8 0 kd_0 (by decide) wd_349 dX8_feed_52 fr_0_0 ?_
    refine h_iload C dX8_feed_55 5 rfl ?_
    refine h_callVN (As := [.int (hpI e0)]) (rest := []) C yyX7_put nw_402 (tX7_put_16 l D cy z _ e0 ⟨by omega, by omega⟩ hc5_0) kd_1 rfl rfl ⟨rfl, rfl, Nat.le_of_ble_eq_true rfl, Nat.le_of_ble_eq_true rfl⟩ ⟨Nat.le_of_ble_eq_true rfl, Nat.le_of_ble_eq_true rfl⟩ (Nat.le_of_ble_eq_true rfl) dX8_feed_57 (fun r6 τ6 hp6 => ?_)
    obtain ⟨rfl, hF6, hc6_0⟩ := hp6
    show hpV _ _ _ _ _ _ _ _ _ _ _ _ _ _ _ _ _ _ _ _ _ []
    refine h_aload_n C dX8_feed_60 0 rfl rfl ?_
    refine h_get C O8 0 kd_0 (by decide) wd_349 dX8_feed_61 fr_0_0 ?_
    refine h_getN C O7 1 kd_1 (by decide) nw_33 dX8_feed_64 (fi_1_1 hc6_0) ?_
    refine h_ireturn C hr hk dX8_feed_67 ?_
    exact ⟨rfl, (fun j hj0 hj1 => ((hF6 j hj0 hj1).trans ((hF5 j hj0 hj1).trans ((hF4 j hj0 hj1).trans ((hF3 j hj0 hj1).trans ((hF2 j hj0 hj1).trans rfl))))))⟩
  · exfalso; omega
abbrev rX8_end : Room := { frames := 0, cells := 0, slots := 0, locals := 0 }
abbrev pX8_end (z : Nat) (σ : hpMem) (n : Int) : Option Value → hpMem → Prop := fun r τ => (∃ x : Int, r = some (.int (hpI x)) ∧ hpR x ∧ ((n = 0 ∧ x = 0) ∨ (n ≠ 0 ∧ x = -1))) ∧ (∀ j : Nat, j ≠ 1 → τ j = σ j)
set_option maxHeartbeats 4000000 in
set_option maxRecDepth 20000 in
theorem tX8_end (l : Launch) (D : va_G) (cy : Nat → ClassId) (z : Nat) (σ : hpMem) (n : Int) (hn : hpR n) (h_1_1 : σ 1 1 = 0) : hpM l D cy z yX8_end cX8_end 2 (some .int) rX8_end [.ref (z + 0), .int (hpI n)] σ (pX8_end z σ n) := by
  obtain ⟨hn1, hn2⟩ := hn
  refine hp_met rfl (Nat.le_of_ble_eq_true rfl) (fun p e s m below meth c C hr hk => ?_)
  refine h_iload_n C dX8_end_0 1 rfl rfl ?_
  refine h_if_lt (tgt := 15) C dX8_end_1 (by decide) ⟨by omega, by omega⟩ (fun h1 => ?_) (fun h1 => ?_)
  · refine h_iconst C dX8_end_15 ?_
    refine h_ireturn C hr hk dX8_end_16 ?_
    exact ⟨⟨_, rfl, ⟨by decide, by decide⟩, by omega⟩, (fun j hj0 => rfl)⟩
  · refine h_iload_n C dX8_end_4 1 rfl rfl ?_
    refine h_aload_n C dX8_end_5 0 rfl rfl ?_
    refine h_get C O8 0 kd_0 (by decide) wd_349 dX8_end_6 fr_0_0 ?_
    refine h_getN C O7 1 kd_1 (by decide) nw_33 dX8_end_9 (fi_1_1 h_1_1) ?_
    refine h_icmp_le (tgt := 17) C dX8_end_12 (by decide) ⟨by omega, by omega⟩ ⟨by decide, by decide⟩ (fun h2 => ?_) (fun h2 => ?_)
    · refine h_aload_n C dX8_end_17 0 rfl rfl ?_
      refine h_get C O8 0 kd_0 (by decide) wd_349 dX8_end_18 fr_0_0 ?_
      refine h_iload_n C dX8_end_21 1 rfl rfl ?_
      refine h_putN C O7 1 kd_1 (by decide) rfl nw_33 dX8_end_22 rfl rfl (fi_1_1 hpu_at) ?_
      refine h_iload_n C dX8_end_25 1 rfl rfl ?_
      refine h_ireturn C hr hk dX8_end_26 ?_
      exact ⟨⟨_, rfl, ⟨by omega, by omega⟩, by omega⟩, (fun j hj0 => ((hpw_ne hj0).trans rfl))⟩
    · refine h_iconst C dX8_end_15 ?_
      refine h_ireturn C hr hk dX8_end_16 ?_
      exact ⟨⟨_, rfl, ⟨by decide, by decide⟩, by omega⟩, (fun j hj0 => rfl)⟩
abbrev rX1_clear_9 : Room := { frames := 0, cells := 0, slots := 0, locals := 0 }
abbrev pX1_clear_9 (z : Nat) (σ : hpMem) : Option Value → hpMem → Prop := fun r τ => r = none ∧ (∀ j : Nat, j ≠ 9 → τ j = σ j) ∧ τ 9 8 = 0
set_option maxHeartbeats 4000000 in
set_option maxRecDepth 20000 in
theorem tX1_clear_9 (l : Launch) (D : va_G) (cy : Nat → ClassId) (z : Nat) (σ : hpMem) : hpM l D cy z yX1_clear cX1_clear 1 none rX1_clear_9 [.ref (z + 9)] σ (pX1_clear_9 z σ) := by
  refine hp_met rfl (Nat.le_of_ble_eq_true rfl) (fun p e s m below meth c C hr hk => ?_)
  refine h_aload_n C dX1_clear_0 0 rfl rfl ?_
  refine h_iconst C dX1_clear_1 ?_
  refine h_put C O1 5 kd_9 (by decide) rfl wd_82 dX1_clear_2 rfl rfl (fi_9_5 hpu_at) ?_
  refine h_aload_n C dX1_clear_5 0 rfl rfl ?_
  refine h_iconst C dX1_clear_6 ?_
  refine h_put C O1 6 kd_9 (by decide) rfl wd_87 dX1_clear_7 rfl rfl (fi_9_6 hpu_at) ?_
  refine h_aload_n C dX1_clear_10 0 rfl rfl ?_
  refine h_iconst C dX1_clear_11 ?_
  refine h_put C O1 7 kd_9 (by decide) rfl wd_90 dX1_clear_12 rfl rfl (fi_9_7 hpu_at) ?_
  refine h_aload_n C dX1_clear_15 0 rfl rfl ?_
  refine h_iconst C dX1_clear_16 ?_
  refine h_put C O1 8 kd_9 (by decide) rfl wd_93 dX1_clear_17 rfl rfl (fi_9_8 hpu_at) ?_
  refine h_aload_n C dX1_clear_20 0 rfl rfl ?_
  refine h_iconst C dX1_clear_21 ?_
  refine h_put C O1 9 kd_9 (by decide) rfl wd_96 dX1_clear_22 rfl rfl (fi_9_9 hpu_at) ?_
  refine h_aload_n C dX1_clear_25 0 rfl rfl ?_
  refine h_iconst C dX1_clear_26 ?_
  refine h_put C O1 10 kd_9 (by decide) rfl wd_100 dX1_clear_27 rfl rfl (fi_9_10 hpu_at) ?_
  refine h_aload_n C dX1_clear_30 0 rfl rfl ?_
  refine h_iconst C dX1_clear_31 ?_
  refine h_put C O1 11 kd_9 (by decide) rfl wd_104 dX1_clear_32 rfl rfl (fi_9_11 hpu_at) ?_
  refine h_return C hr hk dX1_clear_35 ?_
  exact ⟨rfl, (fun j hj0 => ((hpw_ne hj0).trans ((hpw_ne hj0).trans ((hpw_ne hj0).trans ((hpw_ne hj0).trans ((hpw_ne hj0).trans ((hpw_ne hj0).trans ((hpw_ne hj0).trans rfl)))))))), ((hpw_ni (by decide)).trans ((hpw_ni (by decide)).trans ((hpw_ni (by decide)).trans hpw_eq)))⟩
abbrev rX7_nextToken : Room := { frames := 0, cells := 0, slots := 0, locals := 0 }
abbrev pX7_nextToken (z : Nat) (σ : hpMem) : Option Value → hpMem → Prop := fun r τ => r = none ∧ (∀ j : Nat, j ≠ 1 → τ j = σ j) ∧ τ 1 1 = 0 ∧ τ 1 2 = 0 ∧ τ 1 5 = 0
set_option maxHeartbeats 4000000 in
set_option maxRecDepth 20000 in
theorem tX7_nextToken (l : Launch) (D : va_G) (cy : Nat → ClassId) (z : Nat) (σ : hpMem) (h_1_1 : σ 1 1 = 0) (h_1_2 : σ 1 2 = 0) (h_1_4 : σ 1 4 = 0) : hpM l D cy z yX7_nextToken cX7_nextToken 2 none rX7_nextToken [.ref (z + 1)] σ (pX7_nextToken z σ) := by
  refine hp_met rfl (Nat.le_of_ble_eq_true rfl) (fun p e s m below meth c C hr hk => ?_)
  refine h_aload_n C dX7_nextToken_0 0 rfl rfl ?_
  refine h_get C O7 4 kd_1 (by decide) wd_39 dX7_nextToken_1 (fi_1_4 h_1_4) ?_
  refine h_aload_n C dX7_nextToken_4 0 rfl rfl ?_
  refine h_get C O7 1 kd_1 (by decide) wd_34 dX7_nextToken_5 (fi_1_1 h_1_1) ?_
  refine h_icmp_ge (tgt := 39) C dX7_nextToken_8 (by decide) ⟨by decide, by decide⟩ ⟨by decide, by decide⟩ (fun h1 => ?_) (fun h1 => ?_)
  · refine h_aload_n C dX7_nextToken_39 0 rfl rfl ?_
    refine h_aload_n C dX7_nextToken_40 0 rfl rfl ?_
    refine h_get C O7 4 kd_1 (by decide) wd_39 dX7_nextToken_41 (fi_1_4 h_1_4) ?_
    refine h_put C O7 6 kd_1 (by decide) rfl wd_41 dX7_nextToken_44 rfl rfl (fi_1_6 hpu_at) ?_
    refine h_aload_n C dX7_nextToken_47 0 rfl rfl ?_
    refine h_get C O7 4 kd_1 (by decide) wd_39 dX7_nextToken_48 (fi_1_4 ((hpw_ni (by decide)).trans h_1_4)) ?_
    refine h_aload_n C dX7_nextToken_51 0 rfl rfl ?_
    refine h_get C O7 1 kd_1 (by decide) wd_34 dX7_nextToken_52 (fi_1_1 ((hpw_ni (by decide)).trans h_1_1)) ?_
    refine h_icmp_lt (tgt := 64) C dX7_nextToken_55 (by decide) ⟨by decide, by decide⟩ ⟨by decide, by decide⟩ (fun h2 => ?_) (fun h2 => ?_)
    · exfalso; omega
    · refine h_aload_n C dX7_nextToken_58 0 rfl rfl ?_
      refine h_iconst C dX7_nextToken_59 ?_
      refine h_put C O7 5 kd_1 (by decide) rfl wd_40 dX7_nextToken_60 rfl rfl (fi_1_5 hpu_at) ?_
      refine h_return C hr hk dX7_nextToken_63 ?_
      exact ⟨rfl, (fun j hj0 => ((hpw_ne hj0).trans ((hpw_ne hj0).trans rfl))), ((hpw_ni (by decide)).trans ((hpw_ni (by decide)).trans h_1_1)), ((hpw_ni (by decide)).trans ((hpw_ni (by decide)).trans h_1_2)), hpw_eq⟩
  · exfalso; omega
abbrev rX7_readInto : Room := { frames := 1, cells := 0, slots := 0, locals := 21 }
abbrev pX7_readInto (z : Nat) (σ : hpMem) : Option Value → hpMem → Prop := fun r τ => r = some (.int (hpI 1)) ∧ (∀ j : Nat, j ≠ 1 → j ≠ 9 → τ j = σ j) ∧ τ 9 8 = 0
set_option maxHeartbeats 4000000 in
set_option maxRecDepth 20000 in
theorem tX7_readInto (l : Launch) (D : va_G) (cy : Nat → ClassId) (z : Nat) (σ : hpMem) (h_1_1 : σ 1 1 = 0) : hpM l D cy z yX7_readInto cX7_readInto 3 (some .boolean) rX7_readInto [.ref (z + 1), .ref (z + 9)] σ (pX7_readInto z σ) := by
  refine hp_met rfl (Nat.le_of_ble_eq_true rfl) (fun p e s m below meth c C hr hk => ?_)
  refine h_aload_n C dX7_readInto_0 1 rfl rfl ?_
  refine h_callVN (As := []) (rest := []) C yyX1_clear nw_418 (tX1_clear_9 l D cy z _) kd_9 rfl rfl ⟨rfl, rfl, Nat.le_of_ble_eq_true rfl, Nat.le_of_ble_eq_true rfl⟩ ⟨Nat.le_of_ble_eq_true rfl, Nat.le_of_ble_eq_true rfl⟩ (Nat.le_of_ble_eq_true rfl) dX7_readInto_1 (fun r1 τ1 hp1 => ?_)
  obtain ⟨rfl, hF1, hc1_0⟩ := hp1
  show hpV _ _ _ _ _ _ _ _ _ _ _ _ _ _ _ _ _ _ _ _ _ []
  refine h_aload_n C dX7_readInto_4 0 rfl rfl ?_
  refine h_iconst C dX7_readInto_5 ?_
  refine h_put C O7 2 kd_1 (by decide) rfl wd_35 dX7_readInto_6 rfl rfl (fi_1_2 hpu_at) ?_
  refine h_aload_n C dX7_readInto_9 0 rfl rfl ?_
  refine h_iconst C dX7_readInto_10 ?_
  refine h_put C O7 3 kd_1 (by decide) rfl wd_37 dX7_readInto_11 rfl rfl (fi_1_3 hpu_at) ?_
  refine h_aload_n C dX7_readInto_14 0 rfl rfl ?_
  refine h_iconst C dX7_readInto_15 ?_
  refine h_put C O7 4 kd_1 (by decide) rfl wd_39 dX7_readInto_16 rfl rfl (fi_1_4 hpu_at) ?_
  refine h_aload_n C dX7_readInto_19 0 rfl rfl ?_
  refine h_callV (As := []) (rest := []) C yyX7_nextToken wd_422 (tX7_nextToken l D cy z _ ((hpw_ni (by decide)).trans ((hpw_ni (by decide)).trans ((hpw_ni (by decide)).trans ((congrFun (hF1 1 (by decide)) _).trans h_1_1)))) ((hpw_ni (by decide)).trans ((hpw_ni (by decide)).trans hpw_eq)) hpw_eq) kd_1 rfl rfl ⟨rfl, rfl, Nat.le_of_ble_eq_true rfl, Nat.le_of_ble_eq_true rfl⟩ ⟨Nat.le_of_ble_eq_true rfl, Nat.le_of_ble_eq_true rfl⟩ (Nat.le_of_ble_eq_true rfl) dX7_readInto_20 (fun r2 τ2 hp2 => ?_)
  obtain ⟨rfl, hF2, hc2_0, hc2_1, hc2_2⟩ := hp2
  show hpV _ _ _ _ _ _ _ _ _ _ _ _ _ _ _ _ _ _ _ _ _ []
  refine h_iconst C dX7_readInto_23 ?_
  refine h_istore_n (lv' := [(2, .int (hpI 0)), (0, .ref (z + 1)), (1, .ref (z + 9))]) C dX7_readInto_24 rfl (by decide) rfl ?_
  refine h_iload_n C dX7_readInto_25 0 rfl rfl ?_
  refine h_sipush C dX7_readInto_26 (by decide) ?_
  refine h_icmp_ge (tgt := 57) C dX7_readInto_29 (by decide) ⟨by decide, by decide⟩ ⟨by decide, by decide⟩ (fun h3 => ?_) (fun h3 => ?_)
  · exfalso; omega
  · refine h_aload_n C dX7_readInto_32 1 rfl rfl ?_
    refine h_get C O7 5 kd_1 (by decide) wd_40 dX7_readInto_33 (fi_1_5 hc2_2) ?_
    refine h_if_eq (tgt := 57) C dX7_readInto_36 (by decide) ⟨by decide, by decide⟩ (fun h4 => ?_) (fun h4 => ?_)
    · refine h_aload_n C dX7_readInto_57 1 rfl rfl ?_
      refine h_get C O7 2 kd_1 (by decide) wd_35 dX7_readInto_58 (fi_1_2 hc2_1) ?_
      refine h_if_ne (tgt := 68) C dX7_readInto_61 (by decide) ⟨by decide, by decide⟩ (fun h5 => ?_) (fun h5 => ?_)
      · exfalso; omega
      · refine h_iconst C dX7_readInto_64 ?_
        refine h_goto (tgt := 69) C dX7_readInto_65 (by decide) ?_
        refine h_zreturn C (by omega) hr hk dX7_readInto_69 ?_
        exact ⟨rfl, (fun j hj0 hj1 => ((hF2 j hj0).trans ((hpw_ne hj0).trans ((hpw_ne hj0).trans ((hpw_ne hj0).trans ((hF1 j hj1).trans rfl)))))), ((congrFun (hF2 9 (by decide)) _).trans ((hpw_nk (by decide)).trans ((hpw_nk (by decide)).trans ((hpw_nk (by decide)).trans hc1_0))))⟩
    · exfalso; omega
abbrev rX1_become_3 : Room := { frames := 1, cells := 0, slots := 0, locals := 60 }
abbrev pX1_become_3 (z : Nat) (σ : hpMem) : Option Value → hpMem → Prop := fun r τ => r = none ∧ (∀ j : Nat, j ≠ 3 → j ≠ 4 → j ≠ 5 → j ≠ 6 → j ≠ 7 → j ≠ 8 → τ j = σ j) ∧ τ 3 8 = 0
set_option maxHeartbeats 4000000 in
set_option maxRecDepth 20000 in
theorem tX1_become_3 (l : Launch) (D : va_G) (cy : Nat → ClassId) (z : Nat) (σ : hpMem) (h_9_8 : σ 9 8 = 0) : hpM l D cy z yX1_become cX1_become 2 none rX1_become_3 [.ref (z + 3), .ref (z + 9)] σ (pX1_become_3 z σ) := by
  refine hp_met rfl (Nat.le_of_ble_eq_true rfl) (fun p e s m below meth c C hr hk => ?_)
  refine h_aload_n C dX1_become_0 0 rfl rfl ?_
  refine h_aload_n C dX1_become_1 1 rfl rfl ?_
  refine h_get C O1 5 kd_9 (by decide) wd_82 dX1_become_2 (fi_9_5 rfl) ?_
  refine hp_anyI (fun r1 hr1 => ?_)
  obtain ⟨hr1a, hr1b⟩ := hr1
  refine h_put C O1 5 kd_3 (by decide) rfl wd_82 dX1_become_5 rfl rfl (fi_3_5 hpu_at) ?_
  refine h_aload_n C dX1_become_8 0 rfl rfl ?_
  refine h_aload_n C dX1_become_9 1 rfl rfl ?_
  refine h_get C O1 6 kd_9 (by decide) wd_87 dX1_become_10 (fi_9_6 rfl) ?_
  refine hp_anyI (fun r2 hr2 => ?_)
  obtain ⟨hr2a, hr2b⟩ := hr2
  refine h_put C O1 6 kd_3 (by decide) rfl wd_87 dX1_become_13 rfl rfl (fi_3_6 hpu_at) ?_
  refine h_aload_n C dX1_become_16 0 rfl rfl ?_
  refine h_aload_n C dX1_become_17 1 rfl rfl ?_
  refine h_get C O1 7 kd_9 (by decide) wd_90 dX1_become_18 (fi_9_7 rfl) ?_
  refine hp_anyI (fun r3 hr3 => ?_)
  obtain ⟨hr3a, hr3b⟩ := hr3
  refine h_put C O1 7 kd_3 (by decide) rfl wd_90 dX1_become_21 rfl rfl (fi_3_7 hpu_at) ?_
  refine h_aload_n C dX1_become_24 0 rfl rfl ?_
  refine h_aload_n C dX1_become_25 1 rfl rfl ?_
  refine h_get C O1 8 kd_9 (by decide) wd_93 dX1_become_26 (fi_9_8 ((hpw_nk (by decide)).trans ((hpw_nk (by decide)).trans ((hpw_nk (by decide)).trans h_9_8)))) ?_
  refine h_put C O1 8 kd_3 (by decide) rfl wd_93 dX1_become_29 rfl rfl (fi_3_8 hpu_at) ?_
  refine h_aload_n C dX1_become_32 0 rfl rfl ?_
  refine h_aload_n C dX1_become_33 1 rfl rfl ?_
  refine h_get C O1 9 kd_9 (by decide) wd_96 dX1_become_34 (fi_9_9 rfl) ?_
  refine hp_anyI (fun r4 hr4 => ?_)
  obtain ⟨hr4a, hr4b⟩ := hr4
  refine h_put C O1 9 kd_3 (by decide) rfl wd_96 dX1_become_37 rfl rfl (fi_3_9 hpu_at) ?_
  refine h_aload_n C dX1_become_40 0 rfl rfl ?_
  refine h_aload_n C dX1_become_41 1 rfl rfl ?_
  refine h_get C O1 10 kd_9 (by decide) wd_100 dX1_become_42 (fi_9_10 rfl) ?_
  refine hp_anyI (fun r5 hr5 => ?_)
  obtain ⟨hr5a, hr5b⟩ := hr5
  refine h_put C O1 10 kd_3 (by decide) rfl wd_100 dX1_become_45 rfl rfl (fi_3_10 hpu_at) ?_
  refine h_aload_n C dX1_become_48 0 rfl rfl ?_
  refine h_aload_n C dX1_become_49 1 rfl rfl ?_
  refine h_get C O1 11 kd_9 (by decide) wd_104 dX1_become_50 (fi_9_11 rfl) ?_
  refine hp_anyI (fun r6 hr6 => ?_)
  obtain ⟨hr6a, hr6b⟩ := hr6
  refine h_put C O1 11 kd_3 (by decide) rfl wd_104 dX1_become_53 rfl rfl (fi_3_11 hpu_at) ?_
  refine h_aload_n C dX1_become_56 1 rfl rfl ?_
  refine h_get C O1 0 kd_9 (by decide) wd_64 dX1_become_57 fr_9_0 ?_
  refine h_iconst C dX1_become_60 ?_
  refine h_aload_n C dX1_become_61 0 rfl rfl ?_
  refine h_get C O1 0 kd_3 (by decide) wd_64 dX1_become_62 fr_3_0 ?_
  refine h_iconst C dX1_become_65 ?_
  refine h_bipush C dX1_become_66 (by decide) ?_
  refine h_copyI C wd_534 wd_536 wd_535 wd_16 dX1_become_68 kd_10 kd_4 0 0 8 rfl rfl rfl (by rw [ln_10]; decide) (by rw [ln_4]; decide) (Nat.le_of_ble_eq_true rfl) (Nat.le_of_ble_eq_true rfl) ?_
  refine h_aload_n C dX1_become_71 1 rfl rfl ?_
  refine h_get C O1 1 kd_9 (by decide) wd_68 dX1_become_72 fr_9_1 ?_
  refine h_iconst C dX1_become_75 ?_
  refine h_aload_n C dX1_become_76 0 rfl rfl ?_
  refine h_get C O1 1 kd_3 (by decide) wd_68 dX1_become_77 fr_3_1 ?_
  refine h_iconst C dX1_become_80 ?_
  refine h_bipush C dX1_become_81 (by decide) ?_
  refine h_copyI C wd_534 wd_536 wd_535 wd_16 dX1_become_83 kd_11 kd_5 0 0 6 rfl rfl rfl (by rw [ln_11]; decide) (by rw [ln_5]; decide) (Nat.le_of_ble_eq_true rfl) (Nat.le_of_ble_eq_true rfl) ?_
  refine h_aload_n C dX1_become_86 1 rfl rfl ?_
  refine h_get C O1 2 kd_9 (by decide) wd_72 dX1_become_87 fr_9_2 ?_
  refine h_iconst C dX1_become_90 ?_
  refine h_aload_n C dX1_become_91 0 rfl rfl ?_
  refine h_get C O1 2 kd_3 (by decide) wd_72 dX1_become_92 fr_3_2 ?_
  refine h_iconst C dX1_become_95 ?_
  refine h_bipush C dX1_become_96 (by decide) ?_
  refine h_copyI C wd_534 wd_536 wd_535 wd_16 dX1_become_98 kd_12 kd_6 0 0 6 rfl rfl rfl (by rw [ln_12]; decide) (by rw [ln_6]; decide) (Nat.le_of_ble_eq_true rfl) (Nat.le_of_ble_eq_true rfl) ?_
  refine h_aload_n C dX1_become_101 1 rfl rfl ?_
  refine h_get C O1 3 kd_9 (by decide) wd_76 dX1_become_102 fr_9_3 ?_
  refine h_iconst C dX1_become_105 ?_
  refine h_aload_n C dX1_become_106 0 rfl rfl ?_
  refine h_get C O1 3 kd_3 (by decide) wd_76 dX1_become_107 fr_3_3 ?_
  refine h_iconst C dX1_become_110 ?_
  refine h_bipush C dX1_become_111 (by decide) ?_
  refine h_copyI C wd_534 wd_536 wd_535 wd_16 dX1_become_113 kd_13 kd_7 0 0 20 rfl rfl rfl (by rw [ln_13]; decide) (by rw [ln_7]; decide) (Nat.le_of_ble_eq_true rfl) (Nat.le_of_ble_eq_true rfl) ?_
  refine h_aload_n C dX1_become_116 1 rfl rfl ?_
  refine h_get C O1 4 kd_9 (by decide) wd_79 dX1_become_117 fr_9_4 ?_
  refine h_iconst C dX1_become_120 ?_
  refine h_aload_n C dX1_become_121 0 rfl rfl ?_
  refine h_get C O1 4 kd_3 (by decide) wd_79 dX1_become_122 fr_3_4 ?_
  refine h_iconst C dX1_become_125 ?_
  refine h_bipush C dX1_become_126 (by decide) ?_
  refine h_copyI C wd_534 wd_536 wd_535 wd_16 dX1_become_128 kd_14 kd_8 0 0 20 rfl rfl rfl (by rw [ln_14]; decide) (by rw [ln_8]; decide) (Nat.le_of_ble_eq_true rfl) (Nat.le_of_ble_eq_true rfl) ?_
  refine h_return C hr hk dX1_become_131 ?_
  exact ⟨rfl, (fun j hj0 hj1 hj2 hj3 hj4 hj5 => ((hpwr_ne hj5).trans ((hpwr_ne hj4).trans ((hpwr_ne hj3).trans ((hpwr_ne hj2).trans ((hpwr_ne hj1).trans ((hpw_ne hj0).trans ((hpw_ne hj0).trans ((hpw_ne hj0).trans ((hpw_ne hj0).trans ((hpw_ne hj0).trans ((hpw_ne hj0).trans ((hpw_ne hj0).trans rfl))))))))))))), ((congrFun (hpwr_ne (by decide)) _).trans ((congrFun (hpwr_ne (by decide)) _).trans ((congrFun (hpwr_ne (by decide)) _).trans ((congrFun (hpwr_ne (by decide)) _).trans ((congrFun (hpwr_ne (by decide)) _).trans ((hpw_ni (by decide)).trans ((hpw_ni (by decide)).trans ((hpw_ni (by decide)).trans hpw_eq))))))))⟩
abbrev rX1_become_169 : Room := { frames := 1, cells := 0, slots := 0, locals := 60 }
abbrev pX1_become_169 (z : Nat) (σ : hpMem) : Option Value → hpMem → Prop := fun r τ => r = none ∧ (∀ j : Nat, j ≠ 169 → j ≠ 170 → j ≠ 171 → j ≠ 172 → j ≠ 173 → j ≠ 174 → τ j = σ j) ∧ τ 169 8 = 0
set_option maxHeartbeats 4000000 in
set_option maxRecDepth 20000 in
theorem tX1_become_169 (l : Launch) (D : va_G) (cy : Nat → ClassId) (z : Nat) (σ : hpMem) (h_3_8 : σ 3 8 = 0) : hpM l D cy z yX1_become cX1_become 2 none rX1_become_169 [.ref (z + 169), .ref (z + 3)] σ (pX1_become_169 z σ) := by
  refine hp_met rfl (Nat.le_of_ble_eq_true rfl) (fun p e s m below meth c C hr hk => ?_)
  refine h_aload_n C dX1_become_0 0 rfl rfl ?_
  refine h_aload_n C dX1_become_1 1 rfl rfl ?_
  refine h_get C O1 5 kd_3 (by decide) wd_82 dX1_become_2 (fi_3_5 rfl) ?_
  refine hp_anyI (fun r1 hr1 => ?_)
  obtain ⟨hr1a, hr1b⟩ := hr1
  refine h_put C O1 5 kd_169 (by decide) rfl wd_82 dX1_become_5 rfl rfl (fi_169_5 hpu_at) ?_
  refine h_aload_n C dX1_become_8 0 rfl rfl ?_
  refine h_aload_n C dX1_become_9 1 rfl rfl ?_
  refine h_get C O1 6 kd_3 (by decide) wd_87 dX1_become_10 (fi_3_6 rfl) ?_
  refine hp_anyI (fun r2 hr2 => ?_)
  obtain ⟨hr2a, hr2b⟩ := hr2
  refine h_put C O1 6 kd_169 (by decide) rfl wd_87 dX1_become_13 rfl rfl (fi_169_6 hpu_at) ?_
  refine h_aload_n C dX1_become_16 0 rfl rfl ?_
  refine h_aload_n C dX1_become_17 1 rfl rfl ?_
  refine h_get C O1 7 kd_3 (by decide) wd_90 dX1_become_18 (fi_3_7 rfl) ?_
  refine hp_anyI (fun r3 hr3 => ?_)
  obtain ⟨hr3a, hr3b⟩ := hr3
  refine h_put C O1 7 kd_169 (by decide) rfl wd_90 dX1_become_21 rfl rfl (fi_169_7 hpu_at) ?_
  refine h_aload_n C dX1_become_24 0 rfl rfl ?_
  refine h_aload_n C dX1_become_25 1 rfl rfl ?_
  refine h_get C O1 8 kd_3 (by decide) wd_93 dX1_become_26 (fi_3_8 ((hpw_nk (by decide)).trans ((hpw_nk (by decide)).trans ((hpw_nk (by decide)).trans h_3_8)))) ?_
  refine h_put C O1 8 kd_169 (by decide) rfl wd_93 dX1_become_29 rfl rfl (fi_169_8 hpu_at) ?_
  refine h_aload_n C dX1_become_32 0 rfl rfl ?_
  refine h_aload_n C dX1_become_33 1 rfl rfl ?_
  refine h_get C O1 9 kd_3 (by decide) wd_96 dX1_become_34 (fi_3_9 rfl) ?_
  refine hp_anyI (fun r4 hr4 => ?_)
  obtain ⟨hr4a, hr4b⟩ := hr4
  refine h_put C O1 9 kd_169 (by decide) rfl wd_96 dX1_become_37 rfl rfl (fi_169_9 hpu_at) ?_
  refine h_aload_n C dX1_become_40 0 rfl rfl ?_
  refine h_aload_n C dX1_become_41 1 rfl rfl ?_
  refine h_get C O1 10 kd_3 (by decide) wd_100 dX1_become_42 (fi_3_10 rfl) ?_
  refine hp_anyI (fun r5 hr5 => ?_)
  obtain ⟨hr5a, hr5b⟩ := hr5
  refine h_put C O1 10 kd_169 (by decide) rfl wd_100 dX1_become_45 rfl rfl (fi_169_10 hpu_at) ?_
  refine h_aload_n C dX1_become_48 0 rfl rfl ?_
  refine h_aload_n C dX1_become_49 1 rfl rfl ?_
  refine h_get C O1 11 kd_3 (by decide) wd_104 dX1_become_50 (fi_3_11 rfl) ?_
  refine hp_anyI (fun r6 hr6 => ?_)
  obtain ⟨hr6a, hr6b⟩ := hr6
  refine h_put C O1 11 kd_169 (by decide) rfl wd_104 dX1_become_53 rfl rfl (fi_169_11 hpu_at) ?_
  refine h_aload_n C dX1_become_56 1 rfl rfl ?_
  refine h_get C O1 0 kd_3 (by decide) wd_64 dX1_become_57 fr_3_0 ?_
  refine h_iconst C dX1_become_60 ?_
  refine h_aload_n C dX1_become_61 0 rfl rfl ?_
  refine h_get C O1 0 kd_169 (by decide) wd_64 dX1_become_62 fr_169_0 ?_
  refine h_iconst C dX1_become_65 ?_
  refine h_bipush C dX1_become_66 (by decide) ?_
  refine h_copyI C wd_534 wd_536 wd_535 wd_16 dX1_become_68 kd_4 kd_170 0 0 8 rfl rfl rfl (by rw [ln_4]; decide) (by rw [ln_170]; decide) (Nat.le_of_ble_eq_true rfl) (Nat.le_of_ble_eq_true rfl) ?_
  refine h_aload_n C dX1_become_71 1 rfl rfl ?_
  refine h_get C O1 1 kd_3 (by decide) wd_68 dX1_become_72 fr_3_1 ?_
  refine h_iconst C dX1_become_75 ?_
  refine h_aload_n C dX1_become_76 0 rfl rfl ?_
  refine h_get C O1 1 kd_169 (by decide) wd_68 dX1_become_77 fr_169_1 ?_
  refine h_iconst C dX1_become_80 ?_
  refine h_bipush C dX1_become_81 (by decide) ?_
  refine h_copyI C wd_534 wd_536 wd_535 wd_16 dX1_become_83 kd_5 kd_171 0 0 6 rfl rfl rfl (by rw [ln_5]; decide) (by rw [ln_171]; decide) (Nat.le_of_ble_eq_true rfl) (Nat.le_of_ble_eq_true rfl) ?_
  refine h_aload_n C dX1_become_86 1 rfl rfl ?_
  refine h_get C O1 2 kd_3 (by decide) wd_72 dX1_become_87 fr_3_2 ?_
  refine h_iconst C dX1_become_90 ?_
  refine h_aload_n C dX1_become_91 0 rfl rfl ?_
  refine h_get C O1 2 kd_169 (by decide) wd_72 dX1_become_92 fr_169_2 ?_
  refine h_iconst C dX1_become_95 ?_
  refine h_bipush C dX1_become_96 (by decide) ?_
  refine h_copyI C wd_534 wd_536 wd_535 wd_16 dX1_become_98 kd_6 kd_172 0 0 6 rfl rfl rfl (by rw [ln_6]; decide) (by rw [ln_172]; decide) (Nat.le_of_ble_eq_true rfl) (Nat.le_of_ble_eq_true rfl) ?_
  refine h_aload_n C dX1_become_101 1 rfl rfl ?_
  refine h_get C O1 3 kd_3 (by decide) wd_76 dX1_become_102 fr_3_3 ?_
  refine h_iconst C dX1_become_105 ?_
  refine h_aload_n C dX1_become_106 0 rfl rfl ?_
  refine h_get C O1 3 kd_169 (by decide) wd_76 dX1_become_107 fr_169_3 ?_
  refine h_iconst C dX1_become_110 ?_
  refine h_bipush C dX1_become_111 (by decide) ?_
  refine h_copyI C wd_534 wd_536 wd_535 wd_16 dX1_become_113 kd_7 kd_173 0 0 20 rfl rfl rfl (by rw [ln_7]; decide) (by rw [ln_173]; decide) (Nat.le_of_ble_eq_true rfl) (Nat.le_of_ble_eq_true rfl) ?_
  refine h_aload_n C dX1_become_116 1 rfl rfl ?_
  refine h_get C O1 4 kd_3 (by decide) wd_79 dX1_become_117 fr_3_4 ?_
  refine h_iconst C dX1_become_120 ?_
  refine h_aload_n C dX1_become_121 0 rfl rfl ?_
  refine h_get C O1 4 kd_169 (by decide) wd_79 dX1_become_122 fr_169_4 ?_
  refine h_iconst C dX1_become_125 ?_
  refine h_bipush C dX1_become_126 (by decide) ?_
  refine h_copyI C wd_534 wd_536 wd_535 wd_16 dX1_become_128 kd_8 kd_174 0 0 20 rfl rfl rfl (by rw [ln_8]; decide) (by rw [ln_174]; decide) (Nat.le_of_ble_eq_true rfl) (Nat.le_of_ble_eq_true rfl) ?_
  refine h_return C hr hk dX1_become_131 ?_
  exact ⟨rfl, (fun j hj0 hj1 hj2 hj3 hj4 hj5 => ((hpwr_ne hj5).trans ((hpwr_ne hj4).trans ((hpwr_ne hj3).trans ((hpwr_ne hj2).trans ((hpwr_ne hj1).trans ((hpw_ne hj0).trans ((hpw_ne hj0).trans ((hpw_ne hj0).trans ((hpw_ne hj0).trans ((hpw_ne hj0).trans ((hpw_ne hj0).trans ((hpw_ne hj0).trans rfl))))))))))))), ((congrFun (hpwr_ne (by decide)) _).trans ((congrFun (hpwr_ne (by decide)) _).trans ((congrFun (hpwr_ne (by decide)) _).trans ((congrFun (hpwr_ne (by decide)) _).trans ((congrFun (hpwr_ne (by decide)) _).trans ((hpw_ni (by decide)).trans ((hpw_ni (by decide)).trans ((hpw_ni (by decide)).trans hpw_eq))))))))⟩
abbrev rX1_become_175 : Room := { frames := 1, cells := 0, slots := 0, locals := 60 }
abbrev pX1_become_175 (z : Nat) (σ : hpMem) : Option Value → hpMem → Prop := fun r τ => r = none ∧ (∀ j : Nat, j ≠ 175 → j ≠ 176 → j ≠ 177 → j ≠ 178 → j ≠ 179 → j ≠ 180 → τ j = σ j) ∧ τ 175 8 = 0
set_option maxHeartbeats 4000000 in
set_option maxRecDepth 20000 in
theorem tX1_become_175 (l : Launch) (D : va_G) (cy : Nat → ClassId) (z : Nat) (σ : hpMem) (h_3_8 : σ 3 8 = 0) : hpM l D cy z yX1_become cX1_become 2 none rX1_become_175 [.ref (z + 175), .ref (z + 3)] σ (pX1_become_175 z σ) := by
  refine hp_met rfl (Nat.le_of_ble_eq_true rfl) (fun p e s m below meth c C hr hk => ?_)
  refine h_aload_n C dX1_become_0 0 rfl rfl ?_
  refine h_aload_n C dX1_become_1 1 rfl rfl ?_
  refine h_get C O1 5 kd_3 (by decide) wd_82 dX1_become_2 (fi_3_5 rfl) ?_
  refine hp_anyI (fun r1 hr1 => ?_)
  obtain ⟨hr1a, hr1b⟩ := hr1
  refine h_put C O1 5 kd_175 (by decide) rfl wd_82 dX1_become_5 rfl rfl (fi_175_5 hpu_at) ?_
  refine h_aload_n C dX1_become_8 0 rfl rfl ?_
  refine h_aload_n C dX1_become_9 1 rfl rfl ?_
  refine h_get C O1 6 kd_3 (by decide) wd_87 dX1_become_10 (fi_3_6 rfl) ?_
  refine hp_anyI (fun r2 hr2 => ?_)
  obtain ⟨hr2a, hr2b⟩ := hr2
  refine h_put C O1 6 kd_175 (by decide) rfl wd_87 dX1_become_13 rfl rfl (fi_175_6 hpu_at) ?_
  refine h_aload_n C dX1_become_16 0 rfl rfl ?_
  refine h_aload_n C dX1_become_17 1 rfl rfl ?_
  refine h_get C O1 7 kd_3 (by decide) wd_90 dX1_become_18 (fi_3_7 rfl) ?_
  refine hp_anyI (fun r3 hr3 => ?_)
  obtain ⟨hr3a, hr3b⟩ := hr3
  refine h_put C O1 7 kd_175 (by decide) rfl wd_90 dX1_become_21 rfl rfl (fi_175_7 hpu_at) ?_
  refine h_aload_n C dX1_become_24 0 rfl rfl ?_
  refine h_aload_n C dX1_become_25 1 rfl rfl ?_
  refine h_get C O1 8 kd_3 (by decide) wd_93 dX1_become_26 (fi_3_8 ((hpw_nk (by decide)).trans ((hpw_nk (by decide)).trans ((hpw_nk (by decide)).trans h_3_8)))) ?_
  refine h_put C O1 8 kd_175 (by decide) rfl wd_93 dX1_become_29 rfl rfl (fi_175_8 hpu_at) ?_
  refine h_aload_n C dX1_become_32 0 rfl rfl ?_
  refine h_aload_n C dX1_become_33 1 rfl rfl ?_
  refine h_get C O1 9 kd_3 (by decide) wd_96 dX1_become_34 (fi_3_9 rfl) ?_
  refine hp_anyI (fun r4 hr4 => ?_)
  obtain ⟨hr4a, hr4b⟩ := hr4
  refine h_put C O1 9 kd_175 (by decide) rfl wd_96 dX1_become_37 rfl rfl (fi_175_9 hpu_at) ?_
  refine h_aload_n C dX1_become_40 0 rfl rfl ?_
  refine h_aload_n C dX1_become_41 1 rfl rfl ?_
  refine h_get C O1 10 kd_3 (by decide) wd_100 dX1_become_42 (fi_3_10 rfl) ?_
  refine hp_anyI (fun r5 hr5 => ?_)
  obtain ⟨hr5a, hr5b⟩ := hr5
  refine h_put C O1 10 kd_175 (by decide) rfl wd_100 dX1_become_45 rfl rfl (fi_175_10 hpu_at) ?_
  refine h_aload_n C dX1_become_48 0 rfl rfl ?_
  refine h_aload_n C dX1_become_49 1 rfl rfl ?_
  refine h_get C O1 11 kd_3 (by decide) wd_104 dX1_become_50 (fi_3_11 rfl) ?_
  refine hp_anyI (fun r6 hr6 => ?_)
  obtain ⟨hr6a, hr6b⟩ := hr6
  refine h_put C O1 11 kd_175 (by decide) rfl wd_104 dX1_become_53 rfl rfl (fi_175_11 hpu_at) ?_
  refine h_aload_n C dX1_become_56 1 rfl rfl ?_
  refine h_get C O1 0 kd_3 (by decide) wd_64 dX1_become_57 fr_3_0 ?_
  refine h_iconst C dX1_become_60 ?_
  refine h_aload_n C dX1_become_61 0 rfl rfl ?_
  refine h_get C O1 0 kd_175 (by decide) wd_64 dX1_become_62 fr_175_0 ?_
  refine h_iconst C dX1_become_65 ?_
  refine h_bipush C dX1_become_66 (by decide) ?_
  refine h_copyI C wd_534 wd_536 wd_535 wd_16 dX1_become_68 kd_4 kd_176 0 0 8 rfl rfl rfl (by rw [ln_4]; decide) (by rw [ln_176]; decide) (Nat.le_of_ble_eq_true rfl) (Nat.le_of_ble_eq_true rfl) ?_
  refine h_aload_n C dX1_become_71 1 rfl rfl ?_
  refine h_get C O1 1 kd_3 (by decide) wd_68 dX1_become_72 fr_3_1 ?_
  refine h_iconst C dX1_become_75 ?_
  refine h_aload_n C dX1_become_76 0 rfl rfl ?_
  refine h_get C O1 1 kd_175 (by decide) wd_68 dX1_become_77 fr_175_1 ?_
  refine h_iconst C dX1_become_80 ?_
  refine h_bipush C dX1_become_81 (by decide) ?_
  refine h_copyI C wd_534 wd_536 wd_535 wd_16 dX1_become_83 kd_5 kd_177 0 0 6 rfl rfl rfl (by rw [ln_5]; decide) (by rw [ln_177]; decide) (Nat.le_of_ble_eq_true rfl) (Nat.le_of_ble_eq_true rfl) ?_
  refine h_aload_n C dX1_become_86 1 rfl rfl ?_
  refine h_get C O1 2 kd_3 (by decide) wd_72 dX1_become_87 fr_3_2 ?_
  refine h_iconst C dX1_become_90 ?_
  refine h_aload_n C dX1_become_91 0 rfl rfl ?_
  refine h_get C O1 2 kd_175 (by decide) wd_72 dX1_become_92 fr_175_2 ?_
  refine h_iconst C dX1_become_95 ?_
  refine h_bipush C dX1_become_96 (by decide) ?_
  refine h_copyI C wd_534 wd_536 wd_535 wd_16 dX1_become_98 kd_6 kd_178 0 0 6 rfl rfl rfl (by rw [ln_6]; decide) (by rw [ln_178]; decide) (Nat.le_of_ble_eq_true rfl) (Nat.le_of_ble_eq_true rfl) ?_
  refine h_aload_n C dX1_become_101 1 rfl rfl ?_
  refine h_get C O1 3 kd_3 (by decide) wd_76 dX1_become_102 fr_3_3 ?_
  refine h_iconst C dX1_become_105 ?_
  refine h_aload_n C dX1_become_106 0 rfl rfl ?_
  refine h_get C O1 3 kd_175 (by decide) wd_76 dX1_become_107 fr_175_3 ?_
  refine h_iconst C dX1_become_110 ?_
  refine h_bipush C dX1_become_111 (by decide) ?_
  refine h_copyI C wd_534 wd_536 wd_535 wd_16 dX1_become_113 kd_7 kd_179 0 0 20 rfl rfl rfl (by rw [ln_7]; decide) (by rw [ln_179]; decide) (Nat.le_of_ble_eq_true rfl) (Nat.le_of_ble_eq_true rfl) ?_
  refine h_aload_n C dX1_become_116 1 rfl rfl ?_
  refine h_get C O1 4 kd_3 (by decide) wd_79 dX1_become_117 fr_3_4 ?_
  refine h_iconst C dX1_become_120 ?_
  refine h_aload_n C dX1_become_121 0 rfl rfl ?_
  refine h_get C O1 4 kd_175 (by decide) wd_79 dX1_become_122 fr_175_4 ?_
  refine h_iconst C dX1_become_125 ?_
  refine h_bipush C dX1_become_126 (by decide) ?_
  refine h_copyI C wd_534 wd_536 wd_535 wd_16 dX1_become_128 kd_8 kd_180 0 0 20 rfl rfl rfl (by rw [ln_8]; decide) (by rw [ln_180]; decide) (Nat.le_of_ble_eq_true rfl) (Nat.le_of_ble_eq_true rfl) ?_
  refine h_return C hr hk dX1_become_131 ?_
  exact ⟨rfl, (fun j hj0 hj1 hj2 hj3 hj4 hj5 => ((hpwr_ne hj5).trans ((hpwr_ne hj4).trans ((hpwr_ne hj3).trans ((hpwr_ne hj2).trans ((hpwr_ne hj1).trans ((hpw_ne hj0).trans ((hpw_ne hj0).trans ((hpw_ne hj0).trans ((hpw_ne hj0).trans ((hpw_ne hj0).trans ((hpw_ne hj0).trans ((hpw_ne hj0).trans rfl))))))))))))), ((congrFun (hpwr_ne (by decide)) _).trans ((congrFun (hpwr_ne (by decide)) _).trans ((congrFun (hpwr_ne (by decide)) _).trans ((congrFun (hpwr_ne (by decide)) _).trans ((congrFun (hpwr_ne (by decide)) _).trans ((hpw_ni (by decide)).trans ((hpw_ni (by decide)).trans ((hpw_ni (by decide)).trans hpw_eq))))))))⟩
abbrev rX1_become_181 : Room := { frames := 1, cells := 0, slots := 0, locals := 60 }
abbrev pX1_become_181 (z : Nat) (σ : hpMem) : Option Value → hpMem → Prop := fun r τ => r = none ∧ (∀ j : Nat, j ≠ 181 → j ≠ 182 → j ≠ 183 → j ≠ 184 → j ≠ 185 → j ≠ 186 → τ j = σ j) ∧ τ 181 8 = 0
set_option maxHeartbeats 4000000 in
set_option maxRecDepth 20000 in
theorem tX1_become_181 (l : Launch) (D : va_G) (cy : Nat → ClassId) (z : Nat) (σ : hpMem) (h_3_8 : σ 3 8 = 0) : hpM l D cy z yX1_become cX1_become 2 none rX1_become_181 [.ref (z + 181), .ref (z + 3)] σ (pX1_become_181 z σ) := by
  refine hp_met rfl (Nat.le_of_ble_eq_true rfl) (fun p e s m below meth c C hr hk => ?_)
  refine h_aload_n C dX1_become_0 0 rfl rfl ?_
  refine h_aload_n C dX1_become_1 1 rfl rfl ?_
  refine h_get C O1 5 kd_3 (by decide) wd_82 dX1_become_2 (fi_3_5 rfl) ?_
  refine hp_anyI (fun r1 hr1 => ?_)
  obtain ⟨hr1a, hr1b⟩ := hr1
  refine h_put C O1 5 kd_181 (by decide) rfl wd_82 dX1_become_5 rfl rfl (fi_181_5 hpu_at) ?_
  refine h_aload_n C dX1_become_8 0 rfl rfl ?_
  refine h_aload_n C dX1_become_9 1 rfl rfl ?_
  refine h_get C O1 6 kd_3 (by decide) wd_87 dX1_become_10 (fi_3_6 rfl) ?_
  refine hp_anyI (fun r2 hr2 => ?_)
  obtain ⟨hr2a, hr2b⟩ := hr2
  refine h_put C O1 6 kd_181 (by decide) rfl wd_87 dX1_become_13 rfl rfl (fi_181_6 hpu_at) ?_
  refine h_aload_n C dX1_become_16 0 rfl rfl ?_
  refine h_aload_n C dX1_become_17 1 rfl rfl ?_
  refine h_get C O1 7 kd_3 (by decide) wd_90 dX1_become_18 (fi_3_7 rfl) ?_
  refine hp_anyI (fun r3 hr3 => ?_)
  obtain ⟨hr3a, hr3b⟩ := hr3
  refine h_put C O1 7 kd_181 (by decide) rfl wd_90 dX1_become_21 rfl rfl (fi_181_7 hpu_at) ?_
  refine h_aload_n C dX1_become_24 0 rfl rfl ?_
  refine h_aload_n C dX1_become_25 1 rfl rfl ?_
  refine h_get C O1 8 kd_3 (by decide) wd_93 dX1_become_26 (fi_3_8 ((hpw_nk (by decide)).trans ((hpw_nk (by decide)).trans ((hpw_nk (by decide)).trans h_3_8)))) ?_
  refine h_put C O1 8 kd_181 (by decide) rfl wd_93 dX1_become_29 rfl rfl (fi_181_8 hpu_at) ?_
  refine h_aload_n C dX1_become_32 0 rfl rfl ?_
  refine h_aload_n C dX1_become_33 1 rfl rfl ?_
  refine h_get C O1 9 kd_3 (by decide) wd_96 dX1_become_34 (fi_3_9 rfl) ?_
  refine hp_anyI (fun r4 hr4 => ?_)
  obtain ⟨hr4a, hr4b⟩ := hr4
  refine h_put C O1 9 kd_181 (by decide) rfl wd_96 dX1_become_37 rfl rfl (fi_181_9 hpu_at) ?_
  refine h_aload_n C dX1_become_40 0 rfl rfl ?_
  refine h_aload_n C dX1_become_41 1 rfl rfl ?_
  refine h_get C O1 10 kd_3 (by decide) wd_100 dX1_become_42 (fi_3_10 rfl) ?_
  refine hp_anyI (fun r5 hr5 => ?_)
  obtain ⟨hr5a, hr5b⟩ := hr5
  refine h_put C O1 10 kd_181 (by decide) rfl wd_100 dX1_become_45 rfl rfl (fi_181_10 hpu_at) ?_
  refine h_aload_n C dX1_become_48 0 rfl rfl ?_
  refine h_aload_n C dX1_become_49 1 rfl rfl ?_
  refine h_get C O1 11 kd_3 (by decide) wd_104 dX1_become_50 (fi_3_11 rfl) ?_
  refine hp_anyI (fun r6 hr6 => ?_)
  obtain ⟨hr6a, hr6b⟩ := hr6
  refine h_put C O1 11 kd_181 (by decide) rfl wd_104 dX1_become_53 rfl rfl (fi_181_11 hpu_at) ?_
  refine h_aload_n C dX1_become_56 1 rfl rfl ?_
  refine h_get C O1 0 kd_3 (by decide) wd_64 dX1_become_57 fr_3_0 ?_
  refine h_iconst C dX1_become_60 ?_
  refine h_aload_n C dX1_become_61 0 rfl rfl ?_
  refine h_get C O1 0 kd_181 (by decide) wd_64 dX1_become_62 fr_181_0 ?_
  refine h_iconst C dX1_become_65 ?_
  refine h_bipush C dX1_become_66 (by decide) ?_
  refine h_copyI C wd_534 wd_536 wd_535 wd_16 dX1_become_68 kd_4 kd_182 0 0 8 rfl rfl rfl (by rw [ln_4]; decide) (by rw [ln_182]; decide) (Nat.le_of_ble_eq_true rfl) (Nat.le_of_ble_eq_true rfl) ?_
  refine h_aload_n C dX1_become_71 1 rfl rfl ?_
  refine h_get C O1 1 kd_3 (by decide) wd_68 dX1_become_72 fr_3_1 ?_
  refine h_iconst C dX1_become_75 ?_
  refine h_aload_n C dX1_become_76 0 rfl rfl ?_
  refine h_get C O1 1 kd_181 (by decide) wd_68 dX1_become_77 fr_181_1 ?_
  refine h_iconst C dX1_become_80 ?_
  refine h_bipush C dX1_become_81 (by decide) ?_
  refine h_copyI C wd_534 wd_536 wd_535 wd_16 dX1_become_83 kd_5 kd_183 0 0 6 rfl rfl rfl (by rw [ln_5]; decide) (by rw [ln_183]; decide) (Nat.le_of_ble_eq_true rfl) (Nat.le_of_ble_eq_true rfl) ?_
  refine h_aload_n C dX1_become_86 1 rfl rfl ?_
  refine h_get C O1 2 kd_3 (by decide) wd_72 dX1_become_87 fr_3_2 ?_
  refine h_iconst C dX1_become_90 ?_
  refine h_aload_n C dX1_become_91 0 rfl rfl ?_
  refine h_get C O1 2 kd_181 (by decide) wd_72 dX1_become_92 fr_181_2 ?_
  refine h_iconst C dX1_become_95 ?_
  refine h_bipush C dX1_become_96 (by decide) ?_
  refine h_copyI C wd_534 wd_536 wd_535 wd_16 dX1_become_98 kd_6 kd_184 0 0 6 rfl rfl rfl (by rw [ln_6]; decide) (by rw [ln_184]; decide) (Nat.le_of_ble_eq_true rfl) (Nat.le_of_ble_eq_true rfl) ?_
  refine h_aload_n C dX1_become_101 1 rfl rfl ?_
  refine h_get C O1 3 kd_3 (by decide) wd_76 dX1_become_102 fr_3_3 ?_
  refine h_iconst C dX1_become_105 ?_
  refine h_aload_n C dX1_become_106 0 rfl rfl ?_
  refine h_get C O1 3 kd_181 (by decide) wd_76 dX1_become_107 fr_181_3 ?_
  refine h_iconst C dX1_become_110 ?_
  refine h_bipush C dX1_become_111 (by decide) ?_
  refine h_copyI C wd_534 wd_536 wd_535 wd_16 dX1_become_113 kd_7 kd_185 0 0 20 rfl rfl rfl (by rw [ln_7]; decide) (by rw [ln_185]; decide) (Nat.le_of_ble_eq_true rfl) (Nat.le_of_ble_eq_true rfl) ?_
  refine h_aload_n C dX1_become_116 1 rfl rfl ?_
  refine h_get C O1 4 kd_3 (by decide) wd_79 dX1_become_117 fr_3_4 ?_
  refine h_iconst C dX1_become_120 ?_
  refine h_aload_n C dX1_become_121 0 rfl rfl ?_
  refine h_get C O1 4 kd_181 (by decide) wd_79 dX1_become_122 fr_181_4 ?_
  refine h_iconst C dX1_become_125 ?_
  refine h_bipush C dX1_become_126 (by decide) ?_
  refine h_copyI C wd_534 wd_536 wd_535 wd_16 dX1_become_128 kd_8 kd_186 0 0 20 rfl rfl rfl (by rw [ln_8]; decide) (by rw [ln_186]; decide) (Nat.le_of_ble_eq_true rfl) (Nat.le_of_ble_eq_true rfl) ?_
  refine h_return C hr hk dX1_become_131 ?_
  exact ⟨rfl, (fun j hj0 hj1 hj2 hj3 hj4 hj5 => ((hpwr_ne hj5).trans ((hpwr_ne hj4).trans ((hpwr_ne hj3).trans ((hpwr_ne hj2).trans ((hpwr_ne hj1).trans ((hpw_ne hj0).trans ((hpw_ne hj0).trans ((hpw_ne hj0).trans ((hpw_ne hj0).trans ((hpw_ne hj0).trans ((hpw_ne hj0).trans ((hpw_ne hj0).trans rfl))))))))))))), ((congrFun (hpwr_ne (by decide)) _).trans ((congrFun (hpwr_ne (by decide)) _).trans ((congrFun (hpwr_ne (by decide)) _).trans ((congrFun (hpwr_ne (by decide)) _).trans ((congrFun (hpwr_ne (by decide)) _).trans ((hpw_ni (by decide)).trans ((hpw_ni (by decide)).trans ((hpw_ni (by decide)).trans hpw_eq))))))))⟩
abbrev rX8_moor : Room := { frames := 2, cells := 0, slots := 0, locals := 81 }
abbrev pX8_moor (z : Nat) (σ : hpMem) : Option Value → hpMem → Prop := fun r τ => r = some (.int (hpI 0)) ∧ (∀ j : Nat, j ≠ 0 → j ≠ 1 → j ≠ 3 → j ≠ 4 → j ≠ 5 → j ≠ 6 → j ≠ 7 → j ≠ 8 → j ≠ 9 → τ j = σ j)
set_option maxHeartbeats 4000000 in
set_option maxRecDepth 20000 in
theorem tX8_moor (l : Launch) (D : va_G) (cy : Nat → ClassId) (z : Nat) (σ : hpMem) (h_1_1 : σ 1 1 = 0) : hpM l D cy z yX8_moor cX8_moor 1 (some .int) rX8_moor [.ref (z + 0)] σ (pX8_moor z σ) := by
  refine hp_met rfl (Nat.le_of_ble_eq_true rfl) (fun p e s m below meth c C hr hk => ?_)
  refine h_aload_n C dX8_moor_0 0 rfl rfl ?_
  refine h_get C O8 0 kd_0 (by decide) wd_349 dX8_moor_1 fr_0_0 ?_
  refine h_aload_n C dX8_moor_4 0 rfl rfl ?_
  refine h_get C O8 2 kd_0 (by decide) wd_351 dX8_moor_5 fr_0_2 ?_
  refine h_callVN (As := [.ref (z + 9)]) (rest := []) C yyX7_readInto nw_414 (tX7_readInto l D cy z _ h_1_1) kd_1 rfl rfl ⟨rfl, rfl, Nat.le_of_ble_eq_true rfl, Nat.le_of_ble_eq_true rfl⟩ ⟨Nat.le_of_ble_eq_true rfl, Nat.le_of_ble_eq_true rfl⟩ (Nat.le_of_ble_eq_true rfl) dX8_moor_8 (fun r1 τ1 hp1 => ?_)
  obtain ⟨rfl, hF1, hc1_0⟩ := hp1
  show hpV _ _ _ _ _ _ _ _ _ _ _ _ _ _ _ _ _ _ _ _ _ (_ :: _)
  refine h_if_ne (tgt := 17) C dX8_moor_11 (by decide) ⟨by decide, by decide⟩ (fun h2 => ?_) (fun h2 => ?_)
  · refine h_aload_n C dX8_moor_17 0 rfl rfl ?_
    refine h_get C O8 0 kd_0 (by decide) wd_349 dX8_moor_18 fr_0_0 ?_
    refine h_iconst C dX8_moor_21 ?_
    refine h_putN C O7 1 kd_1 (by decide) rfl nw_33 dX8_moor_22 rfl rfl (fi_1_1 hpu_at) ?_
    refine h_aload_n C dX8_moor_25 0 rfl rfl ?_
    refine h_get C O8 1 kd_0 (by decide) wd_350 dX8_moor_26 fr_0_1 ?_
    refine h_aload_n C dX8_moor_29 0 rfl rfl ?_
    refine h_get C O8 2 kd_0 (by decide) wd_351 dX8_moor_30 fr_0_2 ?_
    refine h_callVN (As := [.ref (z + 9)]) (rest := []) C yyX1_become nw_530 (tX1_become_3 l D cy z _ ((hpw_nk (by decide)).trans hc1_0)) kd_3 rfl rfl ⟨rfl, rfl, Nat.le_of_ble_eq_true rfl, Nat.le_of_ble_eq_true rfl⟩ ⟨Nat.le_of_ble_eq_true rfl, Nat.le_of_ble_eq_true rfl⟩ (Nat.le_of_ble_eq_true rfl) dX8_moor_33 (fun r3 τ3 hp3 => ?_)
    obtain ⟨rfl, hF3, hc3_0⟩ := hp3
    show hpV _ _ _ _ _ _ _ _ _ _ _ _ _ _ _ _ _ _ _ _ _ []
    refine h_aload_n C dX8_moor_36 0 rfl rfl ?_
    refine h_callV (As := []) (rest := []) C yyX8_forget wd_537 (tX8_forget l D cy z _) kd_0 rfl rfl ⟨rfl, rfl, Nat.le_of_ble_eq_true rfl, Nat.le_of_ble_eq_true rfl⟩ ⟨Nat.le_of_ble_eq_true rfl, Nat.le_of_ble_eq_true rfl⟩ (Nat.le_of_ble_eq_true rfl) dX8_moor_37 (fun r4 τ4 hp4 => ?_)
    obtain ⟨rfl, hF4⟩ := hp4
    show hpV _ _ _ _ _ _ _ _ _ _ _ _ _ _ _ _ _ _ _ _ _ []
    refine h_aload_n C dX8_moor_40 0 rfl rfl ?_
    refine h_get C O8 1 kd_0 (by decide) wd_350 dX8_moor_41 fr_0_1 ?_
    refine h_getN C O1 8 kd_3 (by decide) nw_95 dX8_moor_44 (fi_3_8 ((congrFun (hF4 3 (by decide)) _).trans hc3_0)) ?_
    refine h_ireturn C hr hk dX8_moor_47 ?_
    exact ⟨rfl, (fun j hj0 hj1 hj2 hj3 hj4 hj5 hj6 hj7 hj8 => ((hF4 j hj0).trans ((hF3 j hj2 hj3 hj4 hj5 hj6 hj7).trans ((hpw_ne hj1).trans ((hF1 j hj1 hj8).trans rfl)))))⟩
  · exfalso; omega
abbrev rX8_fault : Room := { frames := 0, cells := 0, slots := 0, locals := 0 }
abbrev pX8_fault (z : Nat) (σ : hpMem) (n : Int) : Option Value → hpMem → Prop := fun r τ => (∃ x : Int, r = some (.int (hpI x)) ∧ hpR x ∧ ((n = 0 ∧ x = 0) ∨ (n ≠ 0 ∧ x = -1))) ∧ σ = τ
set_option maxHeartbeats 4000000 in
set_option maxRecDepth 20000 in
theorem tX8_fault (l : Launch) (D : va_G) (cy : Nat → ClassId) (z : Nat) (σ : hpMem) (n : Int) (hn : hpR n) (h_1_2 : σ 1 2 = 0) (h_1_3 : σ 1 3 = -1) : hpM l D cy z yX8_fault cX8_fault 2 (some .int) rX8_fault [.ref (z + 0), .int (hpI n)] σ (pX8_fault z σ n) := by
  obtain ⟨hn1, hn2⟩ := hn
  refine hp_met rfl (Nat.le_of_ble_eq_true rfl) (fun p e s m below meth c C hr hk => ?_)
  refine h_iload_n C dX8_fault_0 1 rfl rfl ?_
  refine h_if_ne (tgt := 12) C dX8_fault_1 (by decide) ⟨by omega, by omega⟩ (fun h1 => ?_) (fun h1 => ?_)
  · refine h_iload_n C dX8_fault_12 1 rfl rfl ?_
    refine h_iconst C dX8_fault_13 ?_
    refine h_icmp_ne (tgt := 27) C dX8_fault_14 (by decide) ⟨by omega, by omega⟩ ⟨by decide, by decide⟩ (fun h2 => ?_) (fun h2 => ?_)
    · refine h_iconst C dX8_fault_27 ?_
      refine h_ireturn C hr hk dX8_fault_28 ?_
      exact ⟨⟨_, rfl, ⟨by decide, by decide⟩, by omega⟩, rfl⟩
    · refine h_aload_n C dX8_fault_17 0 rfl rfl ?_
      refine h_get C O8 0 kd_0 (by decide) wd_349 dX8_fault_18 fr_0_0 ?_
      refine h_getN C O7 3 kd_1 (by decide) nw_38 dX8_fault_21 (fi_1_3 h_1_3) ?_
      refine h_goto (tgt := 28) C dX8_fault_24 (by decide) ?_
      refine h_ireturn C hr hk dX8_fault_28 ?_
      exact ⟨⟨_, rfl, ⟨by decide, by decide⟩, by omega⟩, rfl⟩
  · refine h_aload_n C dX8_fault_4 0 rfl rfl ?_
    refine h_get C O8 0 kd_0 (by decide) wd_349 dX8_fault_5 fr_0_0 ?_
    refine h_getN C O7 2 kd_1 (by decide) nw_36 dX8_fault_8 (fi_1_2 h_1_2) ?_
    refine h_ireturn C hr hk dX8_fault_11 ?_
    exact ⟨⟨_, rfl, ⟨by decide, by decide⟩, by omega⟩, rfl⟩
abbrev rX8_told : Room := { frames := 1, cells := 0, slots := 0, locals := 21 }
abbrev pX8_told (z : Nat) (σ : hpMem) (n : Int) : Option Value → hpMem → Prop := fun r τ => r = some (.int (hpI (-2))) ∧ σ = τ
set_option maxHeartbeats 4000000 in
set_option maxRecDepth 20000 in
theorem tX8_told (l : Launch) (D : va_G) (cy : Nat → ClassId) (z : Nat) (σ : hpMem) (n : Int) (hn : hpR n) (h_3_9 : σ 3 9 = 0) : hpM l D cy z yX8_told cX8_told 2 (some .int) rX8_told [.ref (z + 0), .int (hpI n)] σ (pX8_told z σ n) := by
  obtain ⟨hn1, hn2⟩ := hn
  refine hp_met rfl (Nat.le_of_ble_eq_true rfl) (fun p e s m below meth c C hr hk => ?_)
  refine h_aload_n C dX8_told_0 0 rfl rfl ?_
  refine h_iload_n C dX8_told_1 1 rfl rfl ?_
  refine h_callV (As := [.int (hpI n)]) (rest := []) C yyX8_isTold wd_549 (tX8_isTold l D cy z _ n ⟨by omega, by omega⟩ h_3_9) kd_0 rfl rfl ⟨rfl, rfl, Nat.le_of_ble_eq_true rfl, Nat.le_of_ble_eq_true rfl⟩ ⟨Nat.le_of_ble_eq_true rfl, Nat.le_of_ble_eq_true rfl⟩ (Nat.le_of_ble_eq_true rfl) dX8_told_2 (fun r1 τ1 hp1 => ?_)
  obtain ⟨rfl, rfl⟩ := hp1
  show hpV _ _ _ _ _ _ _ _ _ _ _ _ _ _ _ _ _ _ _ _ _ (_ :: _)
  refine h_if_eq (tgt := 20) C dX8_told_5 (by decide) ⟨by decide, by decide⟩ (fun h2 => ?_) (fun h2 => ?_)
  · refine h_bipush C dX8_told_20 (by decide) ?_
    refine h_ireturn C hr hk dX8_told_22 ?_
    exact ⟨rfl, rfl⟩
  · exfalso; omega
abbrev rX8_cart : Room := { frames := 1, cells := 0, slots := 0, locals := 21 }
abbrev pX8_cart (z : Nat) (σ : hpMem) (a : Int) (b : Int) : Option Value → hpMem → Prop := fun r τ => r = some (.int (hpI (-2))) ∧ σ = τ
set_option maxHeartbeats 4000000 in
set_option maxRecDepth 20000 in
theorem tX8_cart (l : Launch) (D : va_G) (cy : Nat → ClassId) (z : Nat) (σ : hpMem) (a : Int) (ha : hpR a) (b : Int) (hb : hpR b) (h_3_10 : σ 3 10 = 0) : hpM l D cy z yX8_cart cX8_cart 3 (some .int) rX8_cart [.ref (z + 0), .int (hpI a), .int (hpI b)] σ (pX8_cart z σ a b) := by
  obtain ⟨ha1, ha2⟩ := ha
  obtain ⟨hb1, hb2⟩ := hb
  refine hp_met rfl (Nat.le_of_ble_eq_true rfl) (fun p e s m below meth c C hr hk => ?_)
  refine h_aload_n C dX8_cart_0 0 rfl rfl ?_
  refine h_iload_n C dX8_cart_1 1 rfl rfl ?_
  refine h_callV (As := [.int (hpI a)]) (rest := []) C yyX8_isCart wd_557 (tX8_isCart l D cy z _ a ⟨by omega, by omega⟩ h_3_10) kd_0 rfl rfl ⟨rfl, rfl, Nat.le_of_ble_eq_true rfl, Nat.le_of_ble_eq_true rfl⟩ ⟨Nat.le_of_ble_eq_true rfl, Nat.le_of_ble_eq_true rfl⟩ (Nat.le_of_ble_eq_true rfl) dX8_cart_2 (fun r1 τ1 hp1 => ?_)
  obtain ⟨rfl, rfl⟩ := hp1
  show hpV _ _ _ _ _ _ _ _ _ _ _ _ _ _ _ _ _ _ _ _ _ (_ :: _)
  refine h_if_eq (tgt := 15) C dX8_cart_5 (by decide) ⟨by decide, by decide⟩ (fun h2 => ?_) (fun h2 => ?_)
  · refine h_bipush C dX8_cart_15 (by decide) ?_
    refine h_ireturn C hr hk dX8_cart_17 ?_
    exact ⟨rfl, rfl⟩
  · exfalso; omega
abbrev rX8_most : Room := { frames := 1, cells := 0, slots := 0, locals := 20 }
abbrev pX8_most (z : Nat) (σ : hpMem) : Option Value → hpMem → Prop := fun r τ => r = some (.int (hpI (-2))) ∧ σ = τ
set_option maxHeartbeats 4000000 in
set_option maxRecDepth 20000 in
theorem tX8_most (l : Launch) (D : va_G) (cy : Nat → ClassId) (z : Nat) (σ : hpMem) (h_3_8 : σ 3 8 = 0) : hpM l D cy z yX8_most cX8_most 3 (some .int) rX8_most [.ref (z + 0)] σ (pX8_most z σ) := by
  refine hp_met rfl (Nat.le_of_ble_eq_true rfl) (fun p e s m below meth c C hr hk => ?_)
  refine h_aload_n C dX8_most_0 0 rfl rfl ?_
  refine h_callV (As := []) (rest := []) C yyX8_noMoor wd_572 (tX8_noMoor l D cy z _ h_3_8) kd_0 rfl rfl ⟨rfl, rfl, Nat.le_of_ble_eq_true rfl, Nat.le_of_ble_eq_true rfl⟩ ⟨Nat.le_of_ble_eq_true rfl, Nat.le_of_ble_eq_true rfl⟩ (Nat.le_of_ble_eq_true rfl) dX8_most_1 (fun r1 τ1 hp1 => ?_)
  obtain ⟨rfl, rfl⟩ := hp1
  show hpV _ _ _ _ _ _ _ _ _ _ _ _ _ _ _ _ _ _ _ _ _ (_ :: _)
  refine h_if_eq (tgt := 10) C dX8_most_4 (by decide) ⟨by decide, by decide⟩ (fun h2 => ?_) (fun h2 => ?_)
  · exfalso; omega
  · refine h_bipush C dX8_most_7 (by decide) ?_
    refine h_ireturn C hr hk dX8_most_9 ?_
    exact ⟨rfl, rfl⟩
abbrev rX8_peak : Room := { frames := 1, cells := 0, slots := 0, locals := 20 }
abbrev pX8_peak (z : Nat) (σ : hpMem) : Option Value → hpMem → Prop := fun r τ => r = some (.int (hpI (-2))) ∧ σ = τ
set_option maxHeartbeats 4000000 in
set_option maxRecDepth 20000 in
theorem tX8_peak (l : Launch) (D : va_G) (cy : Nat → ClassId) (z : Nat) (σ : hpMem) (h_3_8 : σ 3 8 = 0) : hpM l D cy z yX8_peak cX8_peak 3 (some .int) rX8_peak [.ref (z + 0)] σ (pX8_peak z σ) := by
  refine hp_met rfl (Nat.le_of_ble_eq_true rfl) (fun p e s m below meth c C hr hk => ?_)
  refine h_aload_n C dX8_peak_0 0 rfl rfl ?_
  refine h_callV (As := []) (rest := []) C yyX8_noMoor wd_572 (tX8_noMoor l D cy z _ h_3_8) kd_0 rfl rfl ⟨rfl, rfl, Nat.le_of_ble_eq_true rfl, Nat.le_of_ble_eq_true rfl⟩ ⟨Nat.le_of_ble_eq_true rfl, Nat.le_of_ble_eq_true rfl⟩ (Nat.le_of_ble_eq_true rfl) dX8_peak_1 (fun r1 τ1 hp1 => ?_)
  obtain ⟨rfl, rfl⟩ := hp1
  show hpV _ _ _ _ _ _ _ _ _ _ _ _ _ _ _ _ _ _ _ _ _ (_ :: _)
  refine h_if_eq (tgt := 10) C dX8_peak_4 (by decide) ⟨by decide, by decide⟩ (fun h2 => ?_) (fun h2 => ?_)
  · exfalso; omega
  · refine h_bipush C dX8_peak_7 (by decide) ?_
    refine h_ireturn C hr hk dX8_peak_9 ?_
    exact ⟨rfl, rfl⟩
abbrev rX8_still : Room := { frames := 1, cells := 0, slots := 0, locals := 20 }
abbrev pX8_still (z : Nat) (σ : hpMem) : Option Value → hpMem → Prop := fun r τ => r = some (.int (hpI (-2))) ∧ σ = τ
set_option maxHeartbeats 4000000 in
set_option maxRecDepth 20000 in
theorem tX8_still (l : Launch) (D : va_G) (cy : Nat → ClassId) (z : Nat) (σ : hpMem) (h_3_8 : σ 3 8 = 0) : hpM l D cy z yX8_still cX8_still 2 (some .int) rX8_still [.ref (z + 0)] σ (pX8_still z σ) := by
  refine hp_met rfl (Nat.le_of_ble_eq_true rfl) (fun p e s m below meth c C hr hk => ?_)
  refine h_aload_n C dX8_still_0 0 rfl rfl ?_
  refine h_callV (As := []) (rest := []) C yyX8_noMoor wd_572 (tX8_noMoor l D cy z _ h_3_8) kd_0 rfl rfl ⟨rfl, rfl, Nat.le_of_ble_eq_true rfl, Nat.le_of_ble_eq_true rfl⟩ ⟨Nat.le_of_ble_eq_true rfl, Nat.le_of_ble_eq_true rfl⟩ (Nat.le_of_ble_eq_true rfl) dX8_still_1 (fun r1 τ1 hp1 => ?_)
  obtain ⟨rfl, rfl⟩ := hp1
  show hpV _ _ _ _ _ _ _ _ _ _ _ _ _ _ _ _ _ _ _ _ _ (_ :: _)
  refine h_if_eq (tgt := 10) C dX8_still_4 (by decide) ⟨by decide, by decide⟩ (fun h2 => ?_) (fun h2 => ?_)
  · exfalso; omega
  · refine h_bipush C dX8_still_7 (by decide) ?_
    refine h_ireturn C hr hk dX8_still_9 ?_
    exact ⟨rfl, rfl⟩
abbrev rX8_rows : Room := { frames := 1, cells := 0, slots := 0, locals := 20 }
abbrev pX8_rows (z : Nat) (σ : hpMem) : Option Value → hpMem → Prop := fun r τ => r = some (.int (hpI (-2))) ∧ σ = τ
set_option maxHeartbeats 4000000 in
set_option maxRecDepth 20000 in
theorem tX8_rows (l : Launch) (D : va_G) (cy : Nat → ClassId) (z : Nat) (σ : hpMem) (h_3_8 : σ 3 8 = 0) : hpM l D cy z yX8_rows cX8_rows 3 (some .int) rX8_rows [.ref (z + 0)] σ (pX8_rows z σ) := by
  refine hp_met rfl (Nat.le_of_ble_eq_true rfl) (fun p e s m below meth c C hr hk => ?_)
  refine h_aload_n C dX8_rows_0 0 rfl rfl ?_
  refine h_callV (As := []) (rest := []) C yyX8_noMoor wd_572 (tX8_noMoor l D cy z _ h_3_8) kd_0 rfl rfl ⟨rfl, rfl, Nat.le_of_ble_eq_true rfl, Nat.le_of_ble_eq_true rfl⟩ ⟨Nat.le_of_ble_eq_true rfl, Nat.le_of_ble_eq_true rfl⟩ (Nat.le_of_ble_eq_true rfl) dX8_rows_1 (fun r1 τ1 hp1 => ?_)
  obtain ⟨rfl, rfl⟩ := hp1
  show hpV _ _ _ _ _ _ _ _ _ _ _ _ _ _ _ _ _ _ _ _ _ (_ :: _)
  refine h_if_eq (tgt := 10) C dX8_rows_4 (by decide) ⟨by decide, by decide⟩ (fun h2 => ?_) (fun h2 => ?_)
  · exfalso; omega
  · refine h_bipush C dX8_rows_7 (by decide) ?_
    refine h_ireturn C hr hk dX8_rows_9 ?_
    exact ⟨rfl, rfl⟩
abbrev rX8_stairs : Room := { frames := 1, cells := 0, slots := 0, locals := 20 }
abbrev pX8_stairs (z : Nat) (σ : hpMem) : Option Value → hpMem → Prop := fun r τ => r = some (.int (hpI (-2))) ∧ σ = τ
set_option maxHeartbeats 4000000 in
set_option maxRecDepth 20000 in
theorem tX8_stairs (l : Launch) (D : va_G) (cy : Nat → ClassId) (z : Nat) (σ : hpMem) (h_3_8 : σ 3 8 = 0) : hpM l D cy z yX8_stairs cX8_stairs 2 (some .int) rX8_stairs [.ref (z + 0)] σ (pX8_stairs z σ) := by
  refine hp_met rfl (Nat.le_of_ble_eq_true rfl) (fun p e s m below meth c C hr hk => ?_)
  refine h_aload_n C dX8_stairs_0 0 rfl rfl ?_
  refine h_callV (As := []) (rest := []) C yyX8_noMoor wd_572 (tX8_noMoor l D cy z _ h_3_8) kd_0 rfl rfl ⟨rfl, rfl, Nat.le_of_ble_eq_true rfl, Nat.le_of_ble_eq_true rfl⟩ ⟨Nat.le_of_ble_eq_true rfl, Nat.le_of_ble_eq_true rfl⟩ (Nat.le_of_ble_eq_true rfl) dX8_stairs_1 (fun r1 τ1 hp1 => ?_)
  obtain ⟨rfl, rfl⟩ := hp1
  show hpV _ _ _ _ _ _ _ _ _ _ _ _ _ _ _ _ _ _ _ _ _ (_ :: _)
  refine h_if_eq (tgt := 10) C dX8_stairs_4 (by decide) ⟨by decide, by decide⟩ (fun h2 => ?_) (fun h2 => ?_)
  · exfalso; omega
  · refine h_bipush C dX8_stairs_7 (by decide) ?_
    refine h_ireturn C hr hk dX8_stairs_9 ?_
    exact ⟨rfl, rfl⟩
abbrev rX8_spare : Room := { frames := 1, cells := 0, slots := 0, locals := 20 }
abbrev pX8_spare (z : Nat) (σ : hpMem) : Option Value → hpMem → Prop := fun r τ => r = some (.int (hpI (-2))) ∧ σ = τ
set_option maxHeartbeats 4000000 in
set_option maxRecDepth 20000 in
theorem tX8_spare (l : Launch) (D : va_G) (cy : Nat → ClassId) (z : Nat) (σ : hpMem) (h_3_8 : σ 3 8 = 0) : hpM l D cy z yX8_spare cX8_spare 5 (some .int) rX8_spare [.ref (z + 0)] σ (pX8_spare z σ) := by
  refine hp_met rfl (Nat.le_of_ble_eq_true rfl) (fun p e s m below meth c C hr hk => ?_)
  refine h_aload_n C dX8_spare_0 0 rfl rfl ?_
  refine h_callV (As := []) (rest := []) C yyX8_noMoor wd_572 (tX8_noMoor l D cy z _ h_3_8) kd_0 rfl rfl ⟨rfl, rfl, Nat.le_of_ble_eq_true rfl, Nat.le_of_ble_eq_true rfl⟩ ⟨Nat.le_of_ble_eq_true rfl, Nat.le_of_ble_eq_true rfl⟩ (Nat.le_of_ble_eq_true rfl) dX8_spare_1 (fun r1 τ1 hp1 => ?_)
  obtain ⟨rfl, rfl⟩ := hp1
  show hpV _ _ _ _ _ _ _ _ _ _ _ _ _ _ _ _ _ _ _ _ _ (_ :: _)
  refine h_if_eq (tgt := 10) C dX8_spare_4 (by decide) ⟨by decide, by decide⟩ (fun h2 => ?_) (fun h2 => ?_)
  · exfalso; omega
  · refine h_bipush C dX8_spare_7 (by decide) ?_
    refine h_ireturn C hr hk dX8_spare_9 ?_
    exact ⟨rfl, rfl⟩
abbrev rX8_law : Room := { frames := 1, cells := 0, slots := 0, locals := 20 }
abbrev pX8_law (z : Nat) (σ : hpMem) : Option Value → hpMem → Prop := fun r τ => r = some (.int (hpI (-2))) ∧ σ = τ
set_option maxHeartbeats 4000000 in
set_option maxRecDepth 20000 in
theorem tX8_law (l : Launch) (D : va_G) (cy : Nat → ClassId) (z : Nat) (σ : hpMem) (h_3_8 : σ 3 8 = 0) : hpM l D cy z yX8_law cX8_law 5 (some .int) rX8_law [.ref (z + 0)] σ (pX8_law z σ) := by
  refine hp_met rfl (Nat.le_of_ble_eq_true rfl) (fun p e s m below meth c C hr hk => ?_)
  refine h_aload_n C dX8_law_0 0 rfl rfl ?_
  refine h_callV (As := []) (rest := []) C yyX8_noMoor wd_572 (tX8_noMoor l D cy z _ h_3_8) kd_0 rfl rfl ⟨rfl, rfl, Nat.le_of_ble_eq_true rfl, Nat.le_of_ble_eq_true rfl⟩ ⟨Nat.le_of_ble_eq_true rfl, Nat.le_of_ble_eq_true rfl⟩ (Nat.le_of_ble_eq_true rfl) dX8_law_1 (fun r1 τ1 hp1 => ?_)
  obtain ⟨rfl, rfl⟩ := hp1
  show hpV _ _ _ _ _ _ _ _ _ _ _ _ _ _ _ _ _ _ _ _ _ (_ :: _)
  refine h_if_eq (tgt := 10) C dX8_law_4 (by decide) ⟨by decide, by decide⟩ (fun h2 => ?_) (fun h2 => ?_)
  · exfalso; omega
  · refine h_bipush C dX8_law_7 (by decide) ?_
    refine h_ireturn C hr hk dX8_law_9 ?_
    exact ⟨rfl, rfl⟩
abbrev rX8_undo : Room := { frames := 1, cells := 0, slots := 0, locals := 20 }
abbrev pX8_undo (z : Nat) (σ : hpMem) : Option Value → hpMem → Prop := fun r τ => r = some (.int (hpI (-2))) ∧ σ = τ
set_option maxHeartbeats 4000000 in
set_option maxRecDepth 20000 in
theorem tX8_undo (l : Launch) (D : va_G) (cy : Nat → ClassId) (z : Nat) (σ : hpMem) (h_3_8 : σ 3 8 = 0) : hpM l D cy z yX8_undo cX8_undo 1 (some .int) rX8_undo [.ref (z + 0)] σ (pX8_undo z σ) := by
  refine hp_met rfl (Nat.le_of_ble_eq_true rfl) (fun p e s m below meth c C hr hk => ?_)
  refine h_aload_n C dX8_undo_0 0 rfl rfl ?_
  refine h_callV (As := []) (rest := []) C yyX8_noMoor wd_572 (tX8_noMoor l D cy z _ h_3_8) kd_0 rfl rfl ⟨rfl, rfl, Nat.le_of_ble_eq_true rfl, Nat.le_of_ble_eq_true rfl⟩ ⟨Nat.le_of_ble_eq_true rfl, Nat.le_of_ble_eq_true rfl⟩ (Nat.le_of_ble_eq_true rfl) dX8_undo_1 (fun r1 τ1 hp1 => ?_)
  obtain ⟨rfl, rfl⟩ := hp1
  show hpV _ _ _ _ _ _ _ _ _ _ _ _ _ _ _ _ _ _ _ _ _ (_ :: _)
  refine h_if_eq (tgt := 10) C dX8_undo_4 (by decide) ⟨by decide, by decide⟩ (fun h2 => ?_) (fun h2 => ?_)
  · exfalso; omega
  · refine h_bipush C dX8_undo_7 (by decide) ?_
    refine h_ireturn C hr hk dX8_undo_9 ?_
    exact ⟨rfl, rfl⟩
abbrev rX8_anew : Room := { frames := 1, cells := 0, slots := 0, locals := 20 }
abbrev pX8_anew (z : Nat) (σ : hpMem) : Option Value → hpMem → Prop := fun r τ => r = some (.int (hpI (-2))) ∧ σ = τ
set_option maxHeartbeats 4000000 in
set_option maxRecDepth 20000 in
theorem tX8_anew (l : Launch) (D : va_G) (cy : Nat → ClassId) (z : Nat) (σ : hpMem) (h_3_8 : σ 3 8 = 0) : hpM l D cy z yX8_anew cX8_anew 2 (some .int) rX8_anew [.ref (z + 0)] σ (pX8_anew z σ) := by
  refine hp_met rfl (Nat.le_of_ble_eq_true rfl) (fun p e s m below meth c C hr hk => ?_)
  refine h_aload_n C dX8_anew_0 0 rfl rfl ?_
  refine h_callV (As := []) (rest := []) C yyX8_noMoor wd_572 (tX8_noMoor l D cy z _ h_3_8) kd_0 rfl rfl ⟨rfl, rfl, Nat.le_of_ble_eq_true rfl, Nat.le_of_ble_eq_true rfl⟩ ⟨Nat.le_of_ble_eq_true rfl, Nat.le_of_ble_eq_true rfl⟩ (Nat.le_of_ble_eq_true rfl) dX8_anew_1 (fun r1 τ1 hp1 => ?_)
  obtain ⟨rfl, rfl⟩ := hp1
  show hpV _ _ _ _ _ _ _ _ _ _ _ _ _ _ _ _ _ _ _ _ _ (_ :: _)
  refine h_if_eq (tgt := 10) C dX8_anew_4 (by decide) ⟨by decide, by decide⟩ (fun h2 => ?_) (fun h2 => ?_)
  · exfalso; omega
  · refine h_bipush C dX8_anew_7 (by decide) ?_
    refine h_ireturn C hr hk dX8_anew_9 ?_
    exact ⟨rfl, rfl⟩
abbrev rX8_heaps : Room := { frames := 2, cells := 0, slots := 0, locals := 41 }
abbrev pX8_heaps (z : Nat) (σ : hpMem) (a : Int) : Option Value → hpMem → Prop := fun r τ => r = some (.int (hpI (-2))) ∧ σ = τ
set_option maxHeartbeats 4000000 in
set_option maxRecDepth 20000 in
theorem tX8_heaps (l : Launch) (D : va_G) (cy : Nat → ClassId) (z : Nat) (σ : hpMem) (a : Int) (ha : hpR a) (h_3_8 : σ 3 8 = 0) : hpM l D cy z yX8_heaps cX8_heaps 2 (some .int) rX8_heaps [.ref (z + 0), .int (hpI a)] σ (pX8_heaps z σ a) := by
  obtain ⟨ha1, ha2⟩ := ha
  refine hp_met rfl (Nat.le_of_ble_eq_true rfl) (fun p e s m below meth c C hr hk => ?_)
  refine h_aload_n C dX8_heaps_0 0 rfl rfl ?_
  refine h_iload_n C dX8_heaps_1 1 rfl rfl ?_
  refine h_callV (As := [.int (hpI a)]) (rest := []) C yyX8_isDay wd_568 (tX8_isDay l D cy z _ a ⟨by omega, by omega⟩ h_3_8) kd_0 rfl rfl ⟨rfl, rfl, Nat.le_of_ble_eq_true rfl, Nat.le_of_ble_eq_true rfl⟩ ⟨Nat.le_of_ble_eq_true rfl, Nat.le_of_ble_eq_true rfl⟩ (Nat.le_of_ble_eq_true rfl) dX8_heaps_2 (fun r1 τ1 hp1 => ?_)
  obtain ⟨rfl, rfl⟩ := hp1
  show hpV _ _ _ _ _ _ _ _ _ _ _ _ _ _ _ _ _ _ _ _ _ (_ :: _)
  refine h_if_eq (tgt := 19) C dX8_heaps_5 (by decide) ⟨by decide, by decide⟩ (fun h2 => ?_) (fun h2 => ?_)
  · refine h_bipush C dX8_heaps_19 (by decide) ?_
    refine h_ireturn C hr hk dX8_heaps_21 ?_
    exact ⟨rfl, rfl⟩
  · exfalso; omega
abbrev rX8_all : Room := { frames := 2, cells := 0, slots := 0, locals := 41 }
abbrev pX8_all (z : Nat) (σ : hpMem) (a : Int) : Option Value → hpMem → Prop := fun r τ => r = some (.int (hpI (-2))) ∧ σ = τ
set_option maxHeartbeats 4000000 in
set_option maxRecDepth 20000 in
theorem tX8_all (l : Launch) (D : va_G) (cy : Nat → ClassId) (z : Nat) (σ : hpMem) (a : Int) (ha : hpR a) (h_3_8 : σ 3 8 = 0) : hpM l D cy z yX8_all cX8_all 2 (some .int) rX8_all [.ref (z + 0), .int (hpI a)] σ (pX8_all z σ a) := by
  obtain ⟨ha1, ha2⟩ := ha
  refine hp_met rfl (Nat.le_of_ble_eq_true rfl) (fun p e s m below meth c C hr hk => ?_)
  refine h_aload_n C dX8_all_0 0 rfl rfl ?_
  refine h_iload_n C dX8_all_1 1 rfl rfl ?_
  refine h_callV (As := [.int (hpI a)]) (rest := []) C yyX8_isDay wd_568 (tX8_isDay l D cy z _ a ⟨by omega, by omega⟩ h_3_8) kd_0 rfl rfl ⟨rfl, rfl, Nat.le_of_ble_eq_true rfl, Nat.le_of_ble_eq_true rfl⟩ ⟨Nat.le_of_ble_eq_true rfl, Nat.le_of_ble_eq_true rfl⟩ (Nat.le_of_ble_eq_true rfl) dX8_all_2 (fun r1 τ1 hp1 => ?_)
  obtain ⟨rfl, rfl⟩ := hp1
  show hpV _ _ _ _ _ _ _ _ _ _ _ _ _ _ _ _ _ _ _ _ _ (_ :: _)
  refine h_if_eq (tgt := 19) C dX8_all_5 (by decide) ⟨by decide, by decide⟩ (fun h2 => ?_) (fun h2 => ?_)
  · refine h_bipush C dX8_all_19 (by decide) ?_
    refine h_ireturn C hr hk dX8_all_21 ?_
    exact ⟨rfl, rfl⟩
  · exfalso; omega
abbrev rX8_sorts : Room := { frames := 2, cells := 0, slots := 0, locals := 41 }
abbrev pX8_sorts (z : Nat) (σ : hpMem) (a : Int) : Option Value → hpMem → Prop := fun r τ => r = some (.int (hpI (-2))) ∧ σ = τ
set_option maxHeartbeats 4000000 in
set_option maxRecDepth 20000 in
theorem tX8_sorts (l : Launch) (D : va_G) (cy : Nat → ClassId) (z : Nat) (σ : hpMem) (a : Int) (ha : hpR a) (h_3_8 : σ 3 8 = 0) : hpM l D cy z yX8_sorts cX8_sorts 2 (some .int) rX8_sorts [.ref (z + 0), .int (hpI a)] σ (pX8_sorts z σ a) := by
  obtain ⟨ha1, ha2⟩ := ha
  refine hp_met rfl (Nat.le_of_ble_eq_true rfl) (fun p e s m below meth c C hr hk => ?_)
  refine h_aload_n C dX8_sorts_0 0 rfl rfl ?_
  refine h_iload_n C dX8_sorts_1 1 rfl rfl ?_
  refine h_callV (As := [.int (hpI a)]) (rest := []) C yyX8_isDay wd_568 (tX8_isDay l D cy z _ a ⟨by omega, by omega⟩ h_3_8) kd_0 rfl rfl ⟨rfl, rfl, Nat.le_of_ble_eq_true rfl, Nat.le_of_ble_eq_true rfl⟩ ⟨Nat.le_of_ble_eq_true rfl, Nat.le_of_ble_eq_true rfl⟩ (Nat.le_of_ble_eq_true rfl) dX8_sorts_2 (fun r1 τ1 hp1 => ?_)
  obtain ⟨rfl, rfl⟩ := hp1
  show hpV _ _ _ _ _ _ _ _ _ _ _ _ _ _ _ _ _ _ _ _ _ (_ :: _)
  refine h_if_eq (tgt := 19) C dX8_sorts_5 (by decide) ⟨by decide, by decide⟩ (fun h2 => ?_) (fun h2 => ?_)
  · refine h_bipush C dX8_sorts_19 (by decide) ?_
    refine h_ireturn C hr hk dX8_sorts_21 ?_
    exact ⟨rfl, rfl⟩
  · exfalso; omega
abbrev rX8_spread : Room := { frames := 2, cells := 0, slots := 0, locals := 41 }
abbrev pX8_spread (z : Nat) (σ : hpMem) (a : Int) : Option Value → hpMem → Prop := fun r τ => r = some (.int (hpI (-2))) ∧ σ = τ
set_option maxHeartbeats 4000000 in
set_option maxRecDepth 20000 in
theorem tX8_spread (l : Launch) (D : va_G) (cy : Nat → ClassId) (z : Nat) (σ : hpMem) (a : Int) (ha : hpR a) (h_3_8 : σ 3 8 = 0) : hpM l D cy z yX8_spread cX8_spread 2 (some .int) rX8_spread [.ref (z + 0), .int (hpI a)] σ (pX8_spread z σ a) := by
  obtain ⟨ha1, ha2⟩ := ha
  refine hp_met rfl (Nat.le_of_ble_eq_true rfl) (fun p e s m below meth c C hr hk => ?_)
  refine h_aload_n C dX8_spread_0 0 rfl rfl ?_
  refine h_iload_n C dX8_spread_1 1 rfl rfl ?_
  refine h_callV (As := [.int (hpI a)]) (rest := []) C yyX8_isDay wd_568 (tX8_isDay l D cy z _ a ⟨by omega, by omega⟩ h_3_8) kd_0 rfl rfl ⟨rfl, rfl, Nat.le_of_ble_eq_true rfl, Nat.le_of_ble_eq_true rfl⟩ ⟨Nat.le_of_ble_eq_true rfl, Nat.le_of_ble_eq_true rfl⟩ (Nat.le_of_ble_eq_true rfl) dX8_spread_2 (fun r1 τ1 hp1 => ?_)
  obtain ⟨rfl, rfl⟩ := hp1
  show hpV _ _ _ _ _ _ _ _ _ _ _ _ _ _ _ _ _ _ _ _ _ (_ :: _)
  refine h_if_eq (tgt := 28) C dX8_spread_5 (by decide) ⟨by decide, by decide⟩ (fun h2 => ?_) (fun h2 => ?_)
  · refine h_bipush C dX8_spread_28 (by decide) ?_
    refine h_ireturn C hr hk dX8_spread_30 ?_
    exact ⟨rfl, rfl⟩
  · exfalso; omega
abbrev rX8_odd : Room := { frames := 2, cells := 0, slots := 0, locals := 41 }
abbrev pX8_odd (z : Nat) (σ : hpMem) (a : Int) : Option Value → hpMem → Prop := fun r τ => r = some (.int (hpI (-2))) ∧ σ = τ
set_option maxHeartbeats 4000000 in
set_option maxRecDepth 20000 in
theorem tX8_odd (l : Launch) (D : va_G) (cy : Nat → ClassId) (z : Nat) (σ : hpMem) (a : Int) (ha : hpR a) (h_3_8 : σ 3 8 = 0) : hpM l D cy z yX8_odd cX8_odd 2 (some .int) rX8_odd [.ref (z + 0), .int (hpI a)] σ (pX8_odd z σ a) := by
  obtain ⟨ha1, ha2⟩ := ha
  refine hp_met rfl (Nat.le_of_ble_eq_true rfl) (fun p e s m below meth c C hr hk => ?_)
  refine h_aload_n C dX8_odd_0 0 rfl rfl ?_
  refine h_iload_n C dX8_odd_1 1 rfl rfl ?_
  refine h_callV (As := [.int (hpI a)]) (rest := []) C yyX8_isDay wd_568 (tX8_isDay l D cy z _ a ⟨by omega, by omega⟩ h_3_8) kd_0 rfl rfl ⟨rfl, rfl, Nat.le_of_ble_eq_true rfl, Nat.le_of_ble_eq_true rfl⟩ ⟨Nat.le_of_ble_eq_true rfl, Nat.le_of_ble_eq_true rfl⟩ (Nat.le_of_ble_eq_true rfl) dX8_odd_2 (fun r1 τ1 hp1 => ?_)
  obtain ⟨rfl, rfl⟩ := hp1
  show hpV _ _ _ _ _ _ _ _ _ _ _ _ _ _ _ _ _ _ _ _ _ (_ :: _)
  refine h_if_eq (tgt := 19) C dX8_odd_5 (by decide) ⟨by decide, by decide⟩ (fun h2 => ?_) (fun h2 => ?_)
  · refine h_bipush C dX8_odd_19 (by decide) ?_
    refine h_ireturn C hr hk dX8_odd_21 ?_
    exact ⟨rfl, rfl⟩
  · exfalso; omega
abbrev rX8_taken : Room := { frames := 3, cells := 0, slots := 0, locals := 62 }
abbrev pX8_taken (z : Nat) (σ : hpMem) (a : Int) : Option Value → hpMem → Prop := fun r τ => r = some (.int (hpI (-2))) ∧ σ = τ
set_option maxHeartbeats 4000000 in
set_option maxRecDepth 20000 in
theorem tX8_taken (l : Launch) (D : va_G) (cy : Nat → ClassId) (z : Nat) (σ : hpMem) (a : Int) (ha : hpR a) (h_3_8 : σ 3 8 = 0) : hpM l D cy z yX8_taken cX8_taken 2 (some .int) rX8_taken [.ref (z + 0), .int (hpI a)] σ (pX8_taken z σ a) := by
  obtain ⟨ha1, ha2⟩ := ha
  refine hp_met rfl (Nat.le_of_ble_eq_true rfl) (fun p e s m below meth c C hr hk => ?_)
  refine h_aload_n C dX8_taken_0 0 rfl rfl ?_
  refine h_iload_n C dX8_taken_1 1 rfl rfl ?_
  refine h_callV (As := [.int (hpI a)]) (rest := []) C yyX8_isDayAheadOfLast wd_683 (tX8_isDayAheadOfLast l D cy z _ a ⟨by omega, by omega⟩ h_3_8) kd_0 rfl rfl ⟨rfl, rfl, Nat.le_of_ble_eq_true rfl, Nat.le_of_ble_eq_true rfl⟩ ⟨Nat.le_of_ble_eq_true rfl, Nat.le_of_ble_eq_true rfl⟩ (Nat.le_of_ble_eq_true rfl) dX8_taken_2 (fun r1 τ1 hp1 => ?_)
  obtain ⟨rfl, rfl⟩ := hp1
  show hpV _ _ _ _ _ _ _ _ _ _ _ _ _ _ _ _ _ _ _ _ _ (_ :: _)
  refine h_if_eq (tgt := 26) C dX8_taken_5 (by decide) ⟨by decide, by decide⟩ (fun h2 => ?_) (fun h2 => ?_)
  · refine h_bipush C dX8_taken_26 (by decide) ?_
    refine h_ireturn C hr hk dX8_taken_28 ?_
    exact ⟨rfl, rfl⟩
  · exfalso; omega
abbrev rX8_gone : Room := { frames := 3, cells := 0, slots := 0, locals := 62 }
abbrev pX8_gone (z : Nat) (σ : hpMem) (a : Int) : Option Value → hpMem → Prop := fun r τ => r = some (.int (hpI (-2))) ∧ σ = τ
set_option maxHeartbeats 4000000 in
set_option maxRecDepth 20000 in
theorem tX8_gone (l : Launch) (D : va_G) (cy : Nat → ClassId) (z : Nat) (σ : hpMem) (a : Int) (ha : hpR a) (h_3_8 : σ 3 8 = 0) : hpM l D cy z yX8_gone cX8_gone 2 (some .int) rX8_gone [.ref (z + 0), .int (hpI a)] σ (pX8_gone z σ a) := by
  obtain ⟨ha1, ha2⟩ := ha
  refine hp_met rfl (Nat.le_of_ble_eq_true rfl) (fun p e s m below meth c C hr hk => ?_)
  refine h_aload_n C dX8_gone_0 0 rfl rfl ?_
  refine h_iload_n C dX8_gone_1 1 rfl rfl ?_
  refine h_callV (As := [.int (hpI a)]) (rest := []) C yyX8_isDayAheadOfLast wd_683 (tX8_isDayAheadOfLast l D cy z _ a ⟨by omega, by omega⟩ h_3_8) kd_0 rfl rfl ⟨rfl, rfl, Nat.le_of_ble_eq_true rfl, Nat.le_of_ble_eq_true rfl⟩ ⟨Nat.le_of_ble_eq_true rfl, Nat.le_of_ble_eq_true rfl⟩ (Nat.le_of_ble_eq_true rfl) dX8_gone_2 (fun r1 τ1 hp1 => ?_)
  obtain ⟨rfl, rfl⟩ := hp1
  show hpV _ _ _ _ _ _ _ _ _ _ _ _ _ _ _ _ _ _ _ _ _ (_ :: _)
  refine h_if_eq (tgt := 26) C dX8_gone_5 (by decide) ⟨by decide, by decide⟩ (fun h2 => ?_) (fun h2 => ?_)
  · refine h_bipush C dX8_gone_26 (by decide) ?_
    refine h_ireturn C hr hk dX8_gone_28 ?_
    exact ⟨rfl, rfl⟩
  · exfalso; omega
abbrev rX8_same : Room := { frames := 2, cells := 0, slots := 0, locals := 41 }
abbrev pX8_same (z : Nat) (σ : hpMem) (a : Int) : Option Value → hpMem → Prop := fun r τ => r = some (.int (hpI (-2))) ∧ σ = τ
set_option maxHeartbeats 4000000 in
set_option maxRecDepth 20000 in
theorem tX8_same (l : Launch) (D : va_G) (cy : Nat → ClassId) (z : Nat) (σ : hpMem) (a : Int) (ha : hpR a) (h_3_8 : σ 3 8 = 0) : hpM l D cy z yX8_same cX8_same 2 (some .int) rX8_same [.ref (z + 0), .int (hpI a)] σ (pX8_same z σ a) := by
  obtain ⟨ha1, ha2⟩ := ha
  refine hp_met rfl (Nat.le_of_ble_eq_true rfl) (fun p e s m below meth c C hr hk => ?_)
  refine h_aload_n C dX8_same_0 0 rfl rfl ?_
  refine h_iload_n C dX8_same_1 1 rfl rfl ?_
  refine h_callV (As := [.int (hpI a)]) (rest := []) C yyX8_isDay wd_568 (tX8_isDay l D cy z _ a ⟨by omega, by omega⟩ h_3_8) kd_0 rfl rfl ⟨rfl, rfl, Nat.le_of_ble_eq_true rfl, Nat.le_of_ble_eq_true rfl⟩ ⟨Nat.le_of_ble_eq_true rfl, Nat.le_of_ble_eq_true rfl⟩ (Nat.le_of_ble_eq_true rfl) dX8_same_2 (fun r1 τ1 hp1 => ?_)
  obtain ⟨rfl, rfl⟩ := hp1
  show hpV _ _ _ _ _ _ _ _ _ _ _ _ _ _ _ _ _ _ _ _ _ (_ :: _)
  refine h_if_eq (tgt := 16) C dX8_same_5 (by decide) ⟨by decide, by decide⟩ (fun h2 => ?_) (fun h2 => ?_)
  · refine h_bipush C dX8_same_16 (by decide) ?_
    refine h_ireturn C hr hk dX8_same_18 ?_
    exact ⟨rfl, rfl⟩
  · exfalso; omega
abbrev rX8_stair : Room := { frames := 2, cells := 0, slots := 0, locals := 41 }
abbrev pX8_stair (z : Nat) (σ : hpMem) (a : Int) : Option Value → hpMem → Prop := fun r τ => r = some (.int (hpI (-2))) ∧ σ = τ
set_option maxHeartbeats 4000000 in
set_option maxRecDepth 20000 in
theorem tX8_stair (l : Launch) (D : va_G) (cy : Nat → ClassId) (z : Nat) (σ : hpMem) (a : Int) (ha : hpR a) (h_3_8 : σ 3 8 = 0) : hpM l D cy z yX8_stair cX8_stair 2 (some .int) rX8_stair [.ref (z + 0), .int (hpI a)] σ (pX8_stair z σ a) := by
  obtain ⟨ha1, ha2⟩ := ha
  refine hp_met rfl (Nat.le_of_ble_eq_true rfl) (fun p e s m below meth c C hr hk => ?_)
  refine h_aload_n C dX8_stair_0 0 rfl rfl ?_
  refine h_iload_n C dX8_stair_1 1 rfl rfl ?_
  refine h_callV (As := [.int (hpI a)]) (rest := []) C yyX8_isDay wd_568 (tX8_isDay l D cy z _ a ⟨by omega, by omega⟩ h_3_8) kd_0 rfl rfl ⟨rfl, rfl, Nat.le_of_ble_eq_true rfl, Nat.le_of_ble_eq_true rfl⟩ ⟨Nat.le_of_ble_eq_true rfl, Nat.le_of_ble_eq_true rfl⟩ (Nat.le_of_ble_eq_true rfl) dX8_stair_2 (fun r1 τ1 hp1 => ?_)
  obtain ⟨rfl, rfl⟩ := hp1
  show hpV _ _ _ _ _ _ _ _ _ _ _ _ _ _ _ _ _ _ _ _ _ (_ :: _)
  refine h_if_eq (tgt := 22) C dX8_stair_5 (by decide) ⟨by decide, by decide⟩ (fun h2 => ?_) (fun h2 => ?_)
  · refine h_bipush C dX8_stair_22 (by decide) ?_
    refine h_ireturn C hr hk dX8_stair_24 ?_
    exact ⟨rfl, rfl⟩
  · exfalso; omega
abbrev rX8_square : Room := { frames := 2, cells := 0, slots := 0, locals := 41 }
abbrev pX8_square (z : Nat) (σ : hpMem) (a : Int) : Option Value → hpMem → Prop := fun r τ => r = some (.int (hpI (-2))) ∧ σ = τ
set_option maxHeartbeats 4000000 in
set_option maxRecDepth 20000 in
theorem tX8_square (l : Launch) (D : va_G) (cy : Nat → ClassId) (z : Nat) (σ : hpMem) (a : Int) (ha : hpR a) (h_3_8 : σ 3 8 = 0) : hpM l D cy z yX8_square cX8_square 2 (some .int) rX8_square [.ref (z + 0), .int (hpI a)] σ (pX8_square z σ a) := by
  obtain ⟨ha1, ha2⟩ := ha
  refine hp_met rfl (Nat.le_of_ble_eq_true rfl) (fun p e s m below meth c C hr hk => ?_)
  refine h_aload_n C dX8_square_0 0 rfl rfl ?_
  refine h_iload_n C dX8_square_1 1 rfl rfl ?_
  refine h_callV (As := [.int (hpI a)]) (rest := []) C yyX8_isDay wd_568 (tX8_isDay l D cy z _ a ⟨by omega, by omega⟩ h_3_8) kd_0 rfl rfl ⟨rfl, rfl, Nat.le_of_ble_eq_true rfl, Nat.le_of_ble_eq_true rfl⟩ ⟨Nat.le_of_ble_eq_true rfl, Nat.le_of_ble_eq_true rfl⟩ (Nat.le_of_ble_eq_true rfl) dX8_square_2 (fun r1 τ1 hp1 => ?_)
  obtain ⟨rfl, rfl⟩ := hp1
  show hpV _ _ _ _ _ _ _ _ _ _ _ _ _ _ _ _ _ _ _ _ _ (_ :: _)
  refine h_if_eq (tgt := 19) C dX8_square_5 (by decide) ⟨by decide, by decide⟩ (fun h2 => ?_) (fun h2 => ?_)
  · refine h_bipush C dX8_square_19 (by decide) ?_
    refine h_ireturn C hr hk dX8_square_21 ?_
    exact ⟨rfl, rfl⟩
  · exfalso; omega
abbrev rX8_even : Room := { frames := 2, cells := 0, slots := 0, locals := 41 }
abbrev pX8_even (z : Nat) (σ : hpMem) (a : Int) : Option Value → hpMem → Prop := fun r τ => r = some (.int (hpI (-2))) ∧ σ = τ
set_option maxHeartbeats 4000000 in
set_option maxRecDepth 20000 in
theorem tX8_even (l : Launch) (D : va_G) (cy : Nat → ClassId) (z : Nat) (σ : hpMem) (a : Int) (ha : hpR a) (h_3_8 : σ 3 8 = 0) : hpM l D cy z yX8_even cX8_even 2 (some .int) rX8_even [.ref (z + 0), .int (hpI a)] σ (pX8_even z σ a) := by
  obtain ⟨ha1, ha2⟩ := ha
  refine hp_met rfl (Nat.le_of_ble_eq_true rfl) (fun p e s m below meth c C hr hk => ?_)
  refine h_aload_n C dX8_even_0 0 rfl rfl ?_
  refine h_iload_n C dX8_even_1 1 rfl rfl ?_
  refine h_callV (As := [.int (hpI a)]) (rest := []) C yyX8_isDay wd_568 (tX8_isDay l D cy z _ a ⟨by omega, by omega⟩ h_3_8) kd_0 rfl rfl ⟨rfl, rfl, Nat.le_of_ble_eq_true rfl, Nat.le_of_ble_eq_true rfl⟩ ⟨Nat.le_of_ble_eq_true rfl, Nat.le_of_ble_eq_true rfl⟩ (Nat.le_of_ble_eq_true rfl) dX8_even_2 (fun r1 τ1 hp1 => ?_)
  obtain ⟨rfl, rfl⟩ := hp1
  show hpV _ _ _ _ _ _ _ _ _ _ _ _ _ _ _ _ _ _ _ _ _ (_ :: _)
  refine h_if_eq (tgt := 22) C dX8_even_5 (by decide) ⟨by decide, by decide⟩ (fun h2 => ?_) (fun h2 => ?_)
  · refine h_bipush C dX8_even_22 (by decide) ?_
    refine h_ireturn C hr hk dX8_even_24 ?_
    exact ⟨rfl, rfl⟩
  · exfalso; omega
abbrev rX8_tail : Room := { frames := 2, cells := 0, slots := 0, locals := 41 }
abbrev pX8_tail (z : Nat) (σ : hpMem) (a : Int) : Option Value → hpMem → Prop := fun r τ => r = some (.int (hpI (-2))) ∧ σ = τ
set_option maxHeartbeats 4000000 in
set_option maxRecDepth 20000 in
theorem tX8_tail (l : Launch) (D : va_G) (cy : Nat → ClassId) (z : Nat) (σ : hpMem) (a : Int) (ha : hpR a) (h_3_8 : σ 3 8 = 0) : hpM l D cy z yX8_tail cX8_tail 2 (some .int) rX8_tail [.ref (z + 0), .int (hpI a)] σ (pX8_tail z σ a) := by
  obtain ⟨ha1, ha2⟩ := ha
  refine hp_met rfl (Nat.le_of_ble_eq_true rfl) (fun p e s m below meth c C hr hk => ?_)
  refine h_aload_n C dX8_tail_0 0 rfl rfl ?_
  refine h_iload_n C dX8_tail_1 1 rfl rfl ?_
  refine h_callV (As := [.int (hpI a)]) (rest := []) C yyX8_isDay wd_568 (tX8_isDay l D cy z _ a ⟨by omega, by omega⟩ h_3_8) kd_0 rfl rfl ⟨rfl, rfl, Nat.le_of_ble_eq_true rfl, Nat.le_of_ble_eq_true rfl⟩ ⟨Nat.le_of_ble_eq_true rfl, Nat.le_of_ble_eq_true rfl⟩ (Nat.le_of_ble_eq_true rfl) dX8_tail_2 (fun r1 τ1 hp1 => ?_)
  obtain ⟨rfl, rfl⟩ := hp1
  show hpV _ _ _ _ _ _ _ _ _ _ _ _ _ _ _ _ _ _ _ _ _ (_ :: _)
  refine h_if_eq (tgt := 19) C dX8_tail_5 (by decide) ⟨by decide, by decide⟩ (fun h2 => ?_) (fun h2 => ?_)
  · refine h_bipush C dX8_tail_19 (by decide) ?_
    refine h_ireturn C hr hk dX8_tail_21 ?_
    exact ⟨rfl, rfl⟩
  · exfalso; omega
abbrev rX8_length : Room := { frames := 2, cells := 0, slots := 0, locals := 41 }
abbrev pX8_length (z : Nat) (σ : hpMem) (a : Int) : Option Value → hpMem → Prop := fun r τ => r = some (.int (hpI (-2))) ∧ σ = τ
set_option maxHeartbeats 4000000 in
set_option maxRecDepth 20000 in
theorem tX8_length (l : Launch) (D : va_G) (cy : Nat → ClassId) (z : Nat) (σ : hpMem) (a : Int) (ha : hpR a) (h_3_8 : σ 3 8 = 0) : hpM l D cy z yX8_length cX8_length 2 (some .int) rX8_length [.ref (z + 0), .int (hpI a)] σ (pX8_length z σ a) := by
  obtain ⟨ha1, ha2⟩ := ha
  refine hp_met rfl (Nat.le_of_ble_eq_true rfl) (fun p e s m below meth c C hr hk => ?_)
  refine h_aload_n C dX8_length_0 0 rfl rfl ?_
  refine h_iload_n C dX8_length_1 1 rfl rfl ?_
  refine h_callV (As := [.int (hpI a)]) (rest := []) C yyX8_isDay wd_568 (tX8_isDay l D cy z _ a ⟨by omega, by omega⟩ h_3_8) kd_0 rfl rfl ⟨rfl, rfl, Nat.le_of_ble_eq_true rfl, Nat.le_of_ble_eq_true rfl⟩ ⟨Nat.le_of_ble_eq_true rfl, Nat.le_of_ble_eq_true rfl⟩ (Nat.le_of_ble_eq_true rfl) dX8_length_2 (fun r1 τ1 hp1 => ?_)
  obtain ⟨rfl, rfl⟩ := hp1
  show hpV _ _ _ _ _ _ _ _ _ _ _ _ _ _ _ _ _ _ _ _ _ (_ :: _)
  refine h_if_eq (tgt := 19) C dX8_length_5 (by decide) ⟨by decide, by decide⟩ (fun h2 => ?_) (fun h2 => ?_)
  · refine h_bipush C dX8_length_19 (by decide) ?_
    refine h_ireturn C hr hk dX8_length_21 ?_
    exact ⟨rfl, rfl⟩
  · exfalso; omega
abbrev rX8_ring : Room := { frames := 2, cells := 0, slots := 0, locals := 41 }
abbrev pX8_ring (z : Nat) (σ : hpMem) (a : Int) : Option Value → hpMem → Prop := fun r τ => r = some (.int (hpI (-2))) ∧ σ = τ
set_option maxHeartbeats 4000000 in
set_option maxRecDepth 20000 in
theorem tX8_ring (l : Launch) (D : va_G) (cy : Nat → ClassId) (z : Nat) (σ : hpMem) (a : Int) (ha : hpR a) (h_3_8 : σ 3 8 = 0) : hpM l D cy z yX8_ring cX8_ring 2 (some .int) rX8_ring [.ref (z + 0), .int (hpI a)] σ (pX8_ring z σ a) := by
  obtain ⟨ha1, ha2⟩ := ha
  refine hp_met rfl (Nat.le_of_ble_eq_true rfl) (fun p e s m below meth c C hr hk => ?_)
  refine h_aload_n C dX8_ring_0 0 rfl rfl ?_
  refine h_iload_n C dX8_ring_1 1 rfl rfl ?_
  refine h_callV (As := [.int (hpI a)]) (rest := []) C yyX8_isDay wd_568 (tX8_isDay l D cy z _ a ⟨by omega, by omega⟩ h_3_8) kd_0 rfl rfl ⟨rfl, rfl, Nat.le_of_ble_eq_true rfl, Nat.le_of_ble_eq_true rfl⟩ ⟨Nat.le_of_ble_eq_true rfl, Nat.le_of_ble_eq_true rfl⟩ (Nat.le_of_ble_eq_true rfl) dX8_ring_2 (fun r1 τ1 hp1 => ?_)
  obtain ⟨rfl, rfl⟩ := hp1
  show hpV _ _ _ _ _ _ _ _ _ _ _ _ _ _ _ _ _ _ _ _ _ (_ :: _)
  refine h_if_eq (tgt := 19) C dX8_ring_5 (by decide) ⟨by decide, by decide⟩ (fun h2 => ?_) (fun h2 => ?_)
  · refine h_bipush C dX8_ring_19 (by decide) ?_
    refine h_ireturn C hr hk dX8_ring_21 ?_
    exact ⟨rfl, rfl⟩
  · exfalso; omega
abbrev rX8_soon : Room := { frames := 2, cells := 0, slots := 0, locals := 41 }
abbrev pX8_soon (z : Nat) (σ : hpMem) (a : Int) : Option Value → hpMem → Prop := fun r τ => r = some (.int (hpI (-2))) ∧ σ = τ
set_option maxHeartbeats 4000000 in
set_option maxRecDepth 20000 in
theorem tX8_soon (l : Launch) (D : va_G) (cy : Nat → ClassId) (z : Nat) (σ : hpMem) (a : Int) (ha : hpR a) (h_3_8 : σ 3 8 = 0) : hpM l D cy z yX8_soon cX8_soon 2 (some .int) rX8_soon [.ref (z + 0), .int (hpI a)] σ (pX8_soon z σ a) := by
  obtain ⟨ha1, ha2⟩ := ha
  refine hp_met rfl (Nat.le_of_ble_eq_true rfl) (fun p e s m below meth c C hr hk => ?_)
  refine h_aload_n C dX8_soon_0 0 rfl rfl ?_
  refine h_iload_n C dX8_soon_1 1 rfl rfl ?_
  refine h_callV (As := [.int (hpI a)]) (rest := []) C yyX8_isDay wd_568 (tX8_isDay l D cy z _ a ⟨by omega, by omega⟩ h_3_8) kd_0 rfl rfl ⟨rfl, rfl, Nat.le_of_ble_eq_true rfl, Nat.le_of_ble_eq_true rfl⟩ ⟨Nat.le_of_ble_eq_true rfl, Nat.le_of_ble_eq_true rfl⟩ (Nat.le_of_ble_eq_true rfl) dX8_soon_2 (fun r1 τ1 hp1 => ?_)
  obtain ⟨rfl, rfl⟩ := hp1
  show hpV _ _ _ _ _ _ _ _ _ _ _ _ _ _ _ _ _ _ _ _ _ (_ :: _)
  refine h_if_eq (tgt := 19) C dX8_soon_5 (by decide) ⟨by decide, by decide⟩ (fun h2 => ?_) (fun h2 => ?_)
  · refine h_bipush C dX8_soon_19 (by decide) ?_
    refine h_ireturn C hr hk dX8_soon_21 ?_
    exact ⟨rfl, rfl⟩
  · exfalso; omega
abbrev rX8_rowsOf : Room := { frames := 2, cells := 0, slots := 0, locals := 41 }
abbrev pX8_rowsOf (z : Nat) (σ : hpMem) (a : Int) : Option Value → hpMem → Prop := fun r τ => r = some (.int (hpI (-2))) ∧ σ = τ
set_option maxHeartbeats 4000000 in
set_option maxRecDepth 20000 in
theorem tX8_rowsOf (l : Launch) (D : va_G) (cy : Nat → ClassId) (z : Nat) (σ : hpMem) (a : Int) (ha : hpR a) (h_3_8 : σ 3 8 = 0) : hpM l D cy z yX8_rowsOf cX8_rowsOf 2 (some .int) rX8_rowsOf [.ref (z + 0), .int (hpI a)] σ (pX8_rowsOf z σ a) := by
  obtain ⟨ha1, ha2⟩ := ha
  refine hp_met rfl (Nat.le_of_ble_eq_true rfl) (fun p e s m below meth c C hr hk => ?_)
  refine h_aload_n C dX8_rowsOf_0 0 rfl rfl ?_
  refine h_iload_n C dX8_rowsOf_1 1 rfl rfl ?_
  refine h_callV (As := [.int (hpI a)]) (rest := []) C yyX8_isOfAll wd_836 (tX8_isOfAll l D cy z _ a ⟨by omega, by omega⟩ h_3_8) kd_0 rfl rfl ⟨rfl, rfl, Nat.le_of_ble_eq_true rfl, Nat.le_of_ble_eq_true rfl⟩ ⟨Nat.le_of_ble_eq_true rfl, Nat.le_of_ble_eq_true rfl⟩ (Nat.le_of_ble_eq_true rfl) dX8_rowsOf_2 (fun r1 τ1 hp1 => ?_)
  obtain ⟨rfl, rfl⟩ := hp1
  show hpV _ _ _ _ _ _ _ _ _ _ _ _ _ _ _ _ _ _ _ _ _ (_ :: _)
  refine h_if_eq (tgt := 19) C dX8_rowsOf_5 (by decide) ⟨by decide, by decide⟩ (fun h2 => ?_) (fun h2 => ?_)
  · refine h_bipush C dX8_rowsOf_19 (by decide) ?_
    refine h_ireturn C hr hk dX8_rowsOf_21 ?_
    exact ⟨rfl, rfl⟩
  · exfalso; omega
abbrev rX8_ringed : Room := { frames := 2, cells := 0, slots := 0, locals := 41 }
abbrev pX8_ringed (z : Nat) (σ : hpMem) (a : Int) : Option Value → hpMem → Prop := fun r τ => r = some (.int (hpI (-2))) ∧ σ = τ
set_option maxHeartbeats 4000000 in
set_option maxRecDepth 20000 in
theorem tX8_ringed (l : Launch) (D : va_G) (cy : Nat → ClassId) (z : Nat) (σ : hpMem) (a : Int) (ha : hpR a) (h_3_8 : σ 3 8 = 0) : hpM l D cy z yX8_ringed cX8_ringed 2 (some .int) rX8_ringed [.ref (z + 0), .int (hpI a)] σ (pX8_ringed z σ a) := by
  obtain ⟨ha1, ha2⟩ := ha
  refine hp_met rfl (Nat.le_of_ble_eq_true rfl) (fun p e s m below meth c C hr hk => ?_)
  refine h_aload_n C dX8_ringed_0 0 rfl rfl ?_
  refine h_iload_n C dX8_ringed_1 1 rfl rfl ?_
  refine h_callV (As := [.int (hpI a)]) (rest := []) C yyX8_isOfAll wd_836 (tX8_isOfAll l D cy z _ a ⟨by omega, by omega⟩ h_3_8) kd_0 rfl rfl ⟨rfl, rfl, Nat.le_of_ble_eq_true rfl, Nat.le_of_ble_eq_true rfl⟩ ⟨Nat.le_of_ble_eq_true rfl, Nat.le_of_ble_eq_true rfl⟩ (Nat.le_of_ble_eq_true rfl) dX8_ringed_2 (fun r1 τ1 hp1 => ?_)
  obtain ⟨rfl, rfl⟩ := hp1
  show hpV _ _ _ _ _ _ _ _ _ _ _ _ _ _ _ _ _ _ _ _ _ (_ :: _)
  refine h_if_eq (tgt := 19) C dX8_ringed_5 (by decide) ⟨by decide, by decide⟩ (fun h2 => ?_) (fun h2 => ?_)
  · refine h_bipush C dX8_ringed_19 (by decide) ?_
    refine h_ireturn C hr hk dX8_ringed_21 ?_
    exact ⟨rfl, rfl⟩
  · exfalso; omega
abbrev rX8_rings : Room := { frames := 2, cells := 0, slots := 0, locals := 41 }
abbrev pX8_rings (z : Nat) (σ : hpMem) (a : Int) : Option Value → hpMem → Prop := fun r τ => r = some (.int (hpI (-2))) ∧ σ = τ
set_option maxHeartbeats 4000000 in
set_option maxRecDepth 20000 in
theorem tX8_rings (l : Launch) (D : va_G) (cy : Nat → ClassId) (z : Nat) (σ : hpMem) (a : Int) (ha : hpR a) (h_3_8 : σ 3 8 = 0) : hpM l D cy z yX8_rings cX8_rings 2 (some .int) rX8_rings [.ref (z + 0), .int (hpI a)] σ (pX8_rings z σ a) := by
  obtain ⟨ha1, ha2⟩ := ha
  refine hp_met rfl (Nat.le_of_ble_eq_true rfl) (fun p e s m below meth c C hr hk => ?_)
  refine h_aload_n C dX8_rings_0 0 rfl rfl ?_
  refine h_iload_n C dX8_rings_1 1 rfl rfl ?_
  refine h_callV (As := [.int (hpI a)]) (rest := []) C yyX8_isOfAll wd_836 (tX8_isOfAll l D cy z _ a ⟨by omega, by omega⟩ h_3_8) kd_0 rfl rfl ⟨rfl, rfl, Nat.le_of_ble_eq_true rfl, Nat.le_of_ble_eq_true rfl⟩ ⟨Nat.le_of_ble_eq_true rfl, Nat.le_of_ble_eq_true rfl⟩ (Nat.le_of_ble_eq_true rfl) dX8_rings_2 (fun r1 τ1 hp1 => ?_)
  obtain ⟨rfl, rfl⟩ := hp1
  show hpV _ _ _ _ _ _ _ _ _ _ _ _ _ _ _ _ _ _ _ _ _ (_ :: _)
  refine h_if_eq (tgt := 19) C dX8_rings_5 (by decide) ⟨by decide, by decide⟩ (fun h2 => ?_) (fun h2 => ?_)
  · refine h_bipush C dX8_rings_19 (by decide) ?_
    refine h_ireturn C hr hk dX8_rings_21 ?_
    exact ⟨rfl, rfl⟩
  · exfalso; omega
abbrev rX8_gardens : Room := { frames := 2, cells := 0, slots := 0, locals := 41 }
abbrev pX8_gardens (z : Nat) (σ : hpMem) (a : Int) : Option Value → hpMem → Prop := fun r τ => r = some (.int (hpI (-2))) ∧ σ = τ
set_option maxHeartbeats 4000000 in
set_option maxRecDepth 20000 in
theorem tX8_gardens (l : Launch) (D : va_G) (cy : Nat → ClassId) (z : Nat) (σ : hpMem) (a : Int) (ha : hpR a) (h_3_8 : σ 3 8 = 0) : hpM l D cy z yX8_gardens cX8_gardens 2 (some .int) rX8_gardens [.ref (z + 0), .int (hpI a)] σ (pX8_gardens z σ a) := by
  obtain ⟨ha1, ha2⟩ := ha
  refine hp_met rfl (Nat.le_of_ble_eq_true rfl) (fun p e s m below meth c C hr hk => ?_)
  refine h_aload_n C dX8_gardens_0 0 rfl rfl ?_
  refine h_iload_n C dX8_gardens_1 1 rfl rfl ?_
  refine h_callV (As := [.int (hpI a)]) (rest := []) C yyX8_isOfAll wd_836 (tX8_isOfAll l D cy z _ a ⟨by omega, by omega⟩ h_3_8) kd_0 rfl rfl ⟨rfl, rfl, Nat.le_of_ble_eq_true rfl, Nat.le_of_ble_eq_true rfl⟩ ⟨Nat.le_of_ble_eq_true rfl, Nat.le_of_ble_eq_true rfl⟩ (Nat.le_of_ble_eq_true rfl) dX8_gardens_2 (fun r1 τ1 hp1 => ?_)
  obtain ⟨rfl, rfl⟩ := hp1
  show hpV _ _ _ _ _ _ _ _ _ _ _ _ _ _ _ _ _ _ _ _ _ (_ :: _)
  refine h_if_eq (tgt := 19) C dX8_gardens_5 (by decide) ⟨by decide, by decide⟩ (fun h2 => ?_) (fun h2 => ?_)
  · refine h_bipush C dX8_gardens_19 (by decide) ?_
    refine h_ireturn C hr hk dX8_gardens_21 ?_
    exact ⟨rfl, rfl⟩
  · exfalso; omega
abbrev rX8_longest : Room := { frames := 2, cells := 0, slots := 0, locals := 41 }
abbrev pX8_longest (z : Nat) (σ : hpMem) (a : Int) : Option Value → hpMem → Prop := fun r τ => r = some (.int (hpI (-2))) ∧ σ = τ
set_option maxHeartbeats 4000000 in
set_option maxRecDepth 20000 in
theorem tX8_longest (l : Launch) (D : va_G) (cy : Nat → ClassId) (z : Nat) (σ : hpMem) (a : Int) (ha : hpR a) (h_3_8 : σ 3 8 = 0) : hpM l D cy z yX8_longest cX8_longest 2 (some .int) rX8_longest [.ref (z + 0), .int (hpI a)] σ (pX8_longest z σ a) := by
  obtain ⟨ha1, ha2⟩ := ha
  refine hp_met rfl (Nat.le_of_ble_eq_true rfl) (fun p e s m below meth c C hr hk => ?_)
  refine h_aload_n C dX8_longest_0 0 rfl rfl ?_
  refine h_iload_n C dX8_longest_1 1 rfl rfl ?_
  refine h_callV (As := [.int (hpI a)]) (rest := []) C yyX8_isOfAll wd_836 (tX8_isOfAll l D cy z _ a ⟨by omega, by omega⟩ h_3_8) kd_0 rfl rfl ⟨rfl, rfl, Nat.le_of_ble_eq_true rfl, Nat.le_of_ble_eq_true rfl⟩ ⟨Nat.le_of_ble_eq_true rfl, Nat.le_of_ble_eq_true rfl⟩ (Nat.le_of_ble_eq_true rfl) dX8_longest_2 (fun r1 τ1 hp1 => ?_)
  obtain ⟨rfl, rfl⟩ := hp1
  show hpV _ _ _ _ _ _ _ _ _ _ _ _ _ _ _ _ _ _ _ _ _ (_ :: _)
  refine h_if_eq (tgt := 19) C dX8_longest_5 (by decide) ⟨by decide, by decide⟩ (fun h2 => ?_) (fun h2 => ?_)
  · refine h_bipush C dX8_longest_19 (by decide) ?_
    refine h_ireturn C hr hk dX8_longest_21 ?_
    exact ⟨rfl, rfl⟩
  · exfalso; omega
abbrev rX8_ahead : Room := { frames := 2, cells := 0, slots := 0, locals := 41 }
abbrev pX8_ahead (z : Nat) (σ : hpMem) (a : Int) : Option Value → hpMem → Prop := fun r τ => r = some (.int (hpI (-2))) ∧ σ = τ
set_option maxHeartbeats 4000000 in
set_option maxRecDepth 20000 in
theorem tX8_ahead (l : Launch) (D : va_G) (cy : Nat → ClassId) (z : Nat) (σ : hpMem) (a : Int) (ha : hpR a) (h_3_8 : σ 3 8 = 0) : hpM l D cy z yX8_ahead cX8_ahead 3 (some .int) rX8_ahead [.ref (z + 0), .int (hpI a)] σ (pX8_ahead z σ a) := by
  obtain ⟨ha1, ha2⟩ := ha
  refine hp_met rfl (Nat.le_of_ble_eq_true rfl) (fun p e s m below meth c C hr hk => ?_)
  refine h_aload_n C dX8_ahead_0 0 rfl rfl ?_
  refine h_iload_n C dX8_ahead_1 1 rfl rfl ?_
  refine h_callV (As := [.int (hpI a)]) (rest := []) C yyX8_smallRowFault wd_916 (tX8_smallRowFault l D cy z _ a ⟨by omega, by omega⟩ h_3_8) kd_0 rfl rfl ⟨rfl, rfl, Nat.le_of_ble_eq_true rfl, Nat.le_of_ble_eq_true rfl⟩ ⟨Nat.le_of_ble_eq_true rfl, Nat.le_of_ble_eq_true rfl⟩ (Nat.le_of_ble_eq_true rfl) dX8_ahead_2 (fun r1 τ1 hp1 => ?_)
  obtain ⟨rfl, rfl⟩ := hp1
  show hpV _ _ _ _ _ _ _ _ _ _ _ _ _ _ _ _ _ _ _ _ _ (_ :: _)
  refine h_istore_n (lv' := [(2, .int (hpI (-2))), (0, .ref (z + 0)), (1, .int (hpI a))]) C dX8_ahead_5 rfl (by decide) rfl ?_
  refine h_iload_n C dX8_ahead_6 0 rfl rfl ?_
  refine h_if_eq (tgt := 12) C dX8_ahead_7 (by decide) ⟨by decide, by decide⟩ (fun h2 => ?_) (fun h2 => ?_)
  · exfalso; omega
  · refine h_iload_n C dX8_ahead_10 0 rfl rfl ?_
    refine h_ireturn C hr hk dX8_ahead_11 ?_
    exact ⟨rfl, rfl⟩
abbrev rX8_way : Room := { frames := 2, cells := 0, slots := 0, locals := 41 }
abbrev pX8_way (z : Nat) (σ : hpMem) (a : Int) : Option Value → hpMem → Prop := fun r τ => r = some (.int (hpI (-2))) ∧ σ = τ
set_option maxHeartbeats 4000000 in
set_option maxRecDepth 20000 in
theorem tX8_way (l : Launch) (D : va_G) (cy : Nat → ClassId) (z : Nat) (σ : hpMem) (a : Int) (ha : hpR a) (h_3_8 : σ 3 8 = 0) : hpM l D cy z yX8_way cX8_way 3 (some .int) rX8_way [.ref (z + 0), .int (hpI a)] σ (pX8_way z σ a) := by
  obtain ⟨ha1, ha2⟩ := ha
  refine hp_met rfl (Nat.le_of_ble_eq_true rfl) (fun p e s m below meth c C hr hk => ?_)
  refine h_aload_n C dX8_way_0 0 rfl rfl ?_
  refine h_iload_n C dX8_way_1 1 rfl rfl ?_
  refine h_callV (As := [.int (hpI a)]) (rest := []) C yyX8_smallRowFault wd_916 (tX8_smallRowFault l D cy z _ a ⟨by omega, by omega⟩ h_3_8) kd_0 rfl rfl ⟨rfl, rfl, Nat.le_of_ble_eq_true rfl, Nat.le_of_ble_eq_true rfl⟩ ⟨Nat.le_of_ble_eq_true rfl, Nat.le_of_ble_eq_true rfl⟩ (Nat.le_of_ble_eq_true rfl) dX8_way_2 (fun r1 τ1 hp1 => ?_)
  obtain ⟨rfl, rfl⟩ := hp1
  show hpV _ _ _ _ _ _ _ _ _ _ _ _ _ _ _ _ _ _ _ _ _ (_ :: _)
  refine h_istore_n (lv' := [(2, .int (hpI (-2))), (0, .ref (z + 0)), (1, .int (hpI a))]) C dX8_way_5 rfl (by decide) rfl ?_
  refine h_iload_n C dX8_way_6 0 rfl rfl ?_
  refine h_if_eq (tgt := 12) C dX8_way_7 (by decide) ⟨by decide, by decide⟩ (fun h2 => ?_) (fun h2 => ?_)
  · exfalso; omega
  · refine h_iload_n C dX8_way_10 0 rfl rfl ?_
    refine h_ireturn C hr hk dX8_way_11 ?_
    exact ⟨rfl, rfl⟩
abbrev rX8_latest : Room := { frames := 1, cells := 0, slots := 0, locals := 20 }
abbrev pX8_latest (z : Nat) (σ : hpMem) (a : Int) : Option Value → hpMem → Prop := fun r τ => r = some (.int (hpI (-2))) ∧ σ = τ
set_option maxHeartbeats 4000000 in
set_option maxRecDepth 20000 in
theorem tX8_latest (l : Launch) (D : va_G) (cy : Nat → ClassId) (z : Nat) (σ : hpMem) (a : Int) (ha : hpR a) (h_3_8 : σ 3 8 = 0) : hpM l D cy z yX8_latest cX8_latest 3 (some .int) rX8_latest [.ref (z + 0), .int (hpI a)] σ (pX8_latest z σ a) := by
  obtain ⟨ha1, ha2⟩ := ha
  refine hp_met rfl (Nat.le_of_ble_eq_true rfl) (fun p e s m below meth c C hr hk => ?_)
  refine h_aload_n C dX8_latest_0 0 rfl rfl ?_
  refine h_callV (As := []) (rest := []) C yyX8_noMoor wd_572 (tX8_noMoor l D cy z _ h_3_8) kd_0 rfl rfl ⟨rfl, rfl, Nat.le_of_ble_eq_true rfl, Nat.le_of_ble_eq_true rfl⟩ ⟨Nat.le_of_ble_eq_true rfl, Nat.le_of_ble_eq_true rfl⟩ (Nat.le_of_ble_eq_true rfl) dX8_latest_1 (fun r1 τ1 hp1 => ?_)
  obtain ⟨rfl, rfl⟩ := hp1
  show hpV _ _ _ _ _ _ _ _ _ _ _ _ _ _ _ _ _ _ _ _ _ (_ :: _)
  refine h_if_ne (tgt := 17) C dX8_latest_4 (by decide) ⟨by decide, by decide⟩ (fun h2 => ?_) (fun h2 => ?_)
  · refine h_bipush C dX8_latest_17 (by decide) ?_
    refine h_ireturn C hr hk dX8_latest_19 ?_
    exact ⟨rfl, rfl⟩
  · exfalso; omega
abbrev rX8_by : Room := { frames := 1, cells := 0, slots := 0, locals := 20 }
abbrev pX8_by (z : Nat) (σ : hpMem) (a : Int) : Option Value → hpMem → Prop := fun r τ => r = some (.int (hpI (-2))) ∧ σ = τ
set_option maxHeartbeats 4000000 in
set_option maxRecDepth 20000 in
theorem tX8_by (l : Launch) (D : va_G) (cy : Nat → ClassId) (z : Nat) (σ : hpMem) (a : Int) (ha : hpR a) (h_3_8 : σ 3 8 = 0) : hpM l D cy z yX8_by cX8_by 2 (some .int) rX8_by [.ref (z + 0), .int (hpI a)] σ (pX8_by z σ a) := by
  obtain ⟨ha1, ha2⟩ := ha
  refine hp_met rfl (Nat.le_of_ble_eq_true rfl) (fun p e s m below meth c C hr hk => ?_)
  refine h_aload_n C dX8_by_0 0 rfl rfl ?_
  refine h_callV (As := []) (rest := []) C yyX8_noMoor wd_572 (tX8_noMoor l D cy z _ h_3_8) kd_0 rfl rfl ⟨rfl, rfl, Nat.le_of_ble_eq_true rfl, Nat.le_of_ble_eq_true rfl⟩ ⟨Nat.le_of_ble_eq_true rfl, Nat.le_of_ble_eq_true rfl⟩ (Nat.le_of_ble_eq_true rfl) dX8_by_1 (fun r1 τ1 hp1 => ?_)
  obtain ⟨rfl, rfl⟩ := hp1
  show hpV _ _ _ _ _ _ _ _ _ _ _ _ _ _ _ _ _ _ _ _ _ (_ :: _)
  refine h_if_ne (tgt := 16) C dX8_by_4 (by decide) ⟨by decide, by decide⟩ (fun h2 => ?_) (fun h2 => ?_)
  · refine h_bipush C dX8_by_16 (by decide) ?_
    refine h_ireturn C hr hk dX8_by_18 ?_
    exact ⟨rfl, rfl⟩
  · exfalso; omega
abbrev rX8_worth : Room := { frames := 1, cells := 0, slots := 0, locals := 20 }
abbrev pX8_worth (z : Nat) (σ : hpMem) (a : Int) : Option Value → hpMem → Prop := fun r τ => r = some (.int (hpI (-2))) ∧ σ = τ
set_option maxHeartbeats 4000000 in
set_option maxRecDepth 20000 in
theorem tX8_worth (l : Launch) (D : va_G) (cy : Nat → ClassId) (z : Nat) (σ : hpMem) (a : Int) (ha : hpR a) (h_3_8 : σ 3 8 = 0) : hpM l D cy z yX8_worth cX8_worth 2 (some .int) rX8_worth [.ref (z + 0), .int (hpI a)] σ (pX8_worth z σ a) := by
  obtain ⟨ha1, ha2⟩ := ha
  refine hp_met rfl (Nat.le_of_ble_eq_true rfl) (fun p e s m below meth c C hr hk => ?_)
  refine h_aload_n C dX8_worth_0 0 rfl rfl ?_
  refine h_callV (As := []) (rest := []) C yyX8_noMoor wd_572 (tX8_noMoor l D cy z _ h_3_8) kd_0 rfl rfl ⟨rfl, rfl, Nat.le_of_ble_eq_true rfl, Nat.le_of_ble_eq_true rfl⟩ ⟨Nat.le_of_ble_eq_true rfl, Nat.le_of_ble_eq_true rfl⟩ (Nat.le_of_ble_eq_true rfl) dX8_worth_1 (fun r1 τ1 hp1 => ?_)
  obtain ⟨rfl, rfl⟩ := hp1
  show hpV _ _ _ _ _ _ _ _ _ _ _ _ _ _ _ _ _ _ _ _ _ (_ :: _)
  refine h_if_ne (tgt := 24) C dX8_worth_4 (by decide) ⟨by decide, by decide⟩ (fun h2 => ?_) (fun h2 => ?_)
  · refine h_bipush C dX8_worth_24 (by decide) ?_
    refine h_ireturn C hr hk dX8_worth_26 ?_
    exact ⟨rfl, rfl⟩
  · exfalso; omega
abbrev rX8_away : Room := { frames := 2, cells := 0, slots := 0, locals := 41 }
abbrev pX8_away (z : Nat) (σ : hpMem) (a : Int) : Option Value → hpMem → Prop := fun r τ => r = some (.int (hpI (-2))) ∧ σ = τ
set_option maxHeartbeats 4000000 in
set_option maxRecDepth 20000 in
theorem tX8_away (l : Launch) (D : va_G) (cy : Nat → ClassId) (z : Nat) (σ : hpMem) (a : Int) (ha : hpR a) (h_3_8 : σ 3 8 = 0) : hpM l D cy z yX8_away cX8_away 2 (some .int) rX8_away [.ref (z + 0), .int (hpI a)] σ (pX8_away z σ a) := by
  obtain ⟨ha1, ha2⟩ := ha
  refine hp_met rfl (Nat.le_of_ble_eq_true rfl) (fun p e s m below meth c C hr hk => ?_)
  refine h_aload_n C dX8_away_0 0 rfl rfl ?_
  refine h_iload_n C dX8_away_1 1 rfl rfl ?_
  refine h_callV (As := [.int (hpI a)]) (rest := []) C yyX8_isDay wd_568 (tX8_isDay l D cy z _ a ⟨by omega, by omega⟩ h_3_8) kd_0 rfl rfl ⟨rfl, rfl, Nat.le_of_ble_eq_true rfl, Nat.le_of_ble_eq_true rfl⟩ ⟨Nat.le_of_ble_eq_true rfl, Nat.le_of_ble_eq_true rfl⟩ (Nat.le_of_ble_eq_true rfl) dX8_away_2 (fun r1 τ1 hp1 => ?_)
  obtain ⟨rfl, rfl⟩ := hp1
  show hpV _ _ _ _ _ _ _ _ _ _ _ _ _ _ _ _ _ _ _ _ _ (_ :: _)
  refine h_if_eq (tgt := 17) C dX8_away_5 (by decide) ⟨by decide, by decide⟩ (fun h2 => ?_) (fun h2 => ?_)
  · refine h_bipush C dX8_away_17 (by decide) ?_
    refine h_ireturn C hr hk dX8_away_19 ?_
    exact ⟨rfl, rfl⟩
  · exfalso; omega
abbrev rX8_heap : Room := { frames := 2, cells := 0, slots := 0, locals := 41 }
abbrev pX8_heap (z : Nat) (σ : hpMem) (a : Int) (b : Int) : Option Value → hpMem → Prop := fun r τ => r = some (.int (hpI (-2))) ∧ σ = τ
set_option maxHeartbeats 4000000 in
set_option maxRecDepth 20000 in
theorem tX8_heap (l : Launch) (D : va_G) (cy : Nat → ClassId) (z : Nat) (σ : hpMem) (a : Int) (ha : hpR a) (b : Int) (hb : hpR b) (h_3_8 : σ 3 8 = 0) : hpM l D cy z yX8_heap cX8_heap 3 (some .int) rX8_heap [.ref (z + 0), .int (hpI a), .int (hpI b)] σ (pX8_heap z σ a b) := by
  obtain ⟨ha1, ha2⟩ := ha
  obtain ⟨hb1, hb2⟩ := hb
  refine hp_met rfl (Nat.le_of_ble_eq_true rfl) (fun p e s m below meth c C hr hk => ?_)
  refine h_aload_n C dX8_heap_0 0 rfl rfl ?_
  refine h_iload_n C dX8_heap_1 1 rfl rfl ?_
  refine h_callV (As := [.int (hpI a)]) (rest := []) C yyX8_isDay wd_568 (tX8_isDay l D cy z _ a ⟨by omega, by omega⟩ h_3_8) kd_0 rfl rfl ⟨rfl, rfl, Nat.le_of_ble_eq_true rfl, Nat.le_of_ble_eq_true rfl⟩ ⟨Nat.le_of_ble_eq_true rfl, Nat.le_of_ble_eq_true rfl⟩ (Nat.le_of_ble_eq_true rfl) dX8_heap_2 (fun r1 τ1 hp1 => ?_)
  obtain ⟨rfl, rfl⟩ := hp1
  show hpV _ _ _ _ _ _ _ _ _ _ _ _ _ _ _ _ _ _ _ _ _ (_ :: _)
  refine h_if_eq (tgt := 12) C dX8_heap_5 (by decide) ⟨by decide, by decide⟩ (fun h2 => ?_) (fun h2 => ?_)
  · refine h_bipush C dX8_heap_12 (by decide) ?_
    refine h_ireturn C hr hk dX8_heap_14 ?_
    exact ⟨rfl, rfl⟩
  · exfalso; omega
abbrev rX8_many : Room := { frames := 2, cells := 0, slots := 0, locals := 41 }
abbrev pX8_many (z : Nat) (σ : hpMem) (a : Int) (b : Int) : Option Value → hpMem → Prop := fun r τ => r = some (.int (hpI (-2))) ∧ σ = τ
set_option maxHeartbeats 4000000 in
set_option maxRecDepth 20000 in
theorem tX8_many (l : Launch) (D : va_G) (cy : Nat → ClassId) (z : Nat) (σ : hpMem) (a : Int) (ha : hpR a) (b : Int) (hb : hpR b) (h_3_8 : σ 3 8 = 0) : hpM l D cy z yX8_many cX8_many 3 (some .int) rX8_many [.ref (z + 0), .int (hpI a), .int (hpI b)] σ (pX8_many z σ a b) := by
  obtain ⟨ha1, ha2⟩ := ha
  obtain ⟨hb1, hb2⟩ := hb
  refine hp_met rfl (Nat.le_of_ble_eq_true rfl) (fun p e s m below meth c C hr hk => ?_)
  refine h_aload_n C dX8_many_0 0 rfl rfl ?_
  refine h_iload_n C dX8_many_1 1 rfl rfl ?_
  refine h_callV (As := [.int (hpI a)]) (rest := []) C yyX8_isDay wd_568 (tX8_isDay l D cy z _ a ⟨by omega, by omega⟩ h_3_8) kd_0 rfl rfl ⟨rfl, rfl, Nat.le_of_ble_eq_true rfl, Nat.le_of_ble_eq_true rfl⟩ ⟨Nat.le_of_ble_eq_true rfl, Nat.le_of_ble_eq_true rfl⟩ (Nat.le_of_ble_eq_true rfl) dX8_many_2 (fun r1 τ1 hp1 => ?_)
  obtain ⟨rfl, rfl⟩ := hp1
  show hpV _ _ _ _ _ _ _ _ _ _ _ _ _ _ _ _ _ _ _ _ _ (_ :: _)
  refine h_if_eq (tgt := 20) C dX8_many_5 (by decide) ⟨by decide, by decide⟩ (fun h2 => ?_) (fun h2 => ?_)
  · refine h_bipush C dX8_many_20 (by decide) ?_
    refine h_ireturn C hr hk dX8_many_22 ?_
    exact ⟨rfl, rfl⟩
  · exfalso; omega
abbrev rX8_flip : Room := { frames := 2, cells := 0, slots := 0, locals := 41 }
abbrev pX8_flip (z : Nat) (σ : hpMem) (a : Int) (b : Int) : Option Value → hpMem → Prop := fun r τ => r = some (.int (hpI (-2))) ∧ σ = τ
set_option maxHeartbeats 4000000 in
set_option maxRecDepth 20000 in
theorem tX8_flip (l : Launch) (D : va_G) (cy : Nat → ClassId) (z : Nat) (σ : hpMem) (a : Int) (ha : hpR a) (b : Int) (hb : hpR b) (h_3_8 : σ 3 8 = 0) : hpM l D cy z yX8_flip cX8_flip 4 (some .int) rX8_flip [.ref (z + 0), .int (hpI a), .int (hpI b)] σ (pX8_flip z σ a b) := by
  obtain ⟨ha1, ha2⟩ := ha
  obtain ⟨hb1, hb2⟩ := hb
  refine hp_met rfl (Nat.le_of_ble_eq_true rfl) (fun p e s m below meth c C hr hk => ?_)
  refine h_aload_n C dX8_flip_0 0 rfl rfl ?_
  refine h_iload_n C dX8_flip_1 1 rfl rfl ?_
  refine h_callV (As := [.int (hpI a)]) (rest := []) C yyX8_isDay wd_568 (tX8_isDay l D cy z _ a ⟨by omega, by omega⟩ h_3_8) kd_0 rfl rfl ⟨rfl, rfl, Nat.le_of_ble_eq_true rfl, Nat.le_of_ble_eq_true rfl⟩ ⟨Nat.le_of_ble_eq_true rfl, Nat.le_of_ble_eq_true rfl⟩ (Nat.le_of_ble_eq_true rfl) dX8_flip_2 (fun r1 τ1 hp1 => ?_)
  obtain ⟨rfl, rfl⟩ := hp1
  show hpV _ _ _ _ _ _ _ _ _ _ _ _ _ _ _ _ _ _ _ _ _ (_ :: _)
  refine h_if_eq (tgt := 12) C dX8_flip_5 (by decide) ⟨by decide, by decide⟩ (fun h2 => ?_) (fun h2 => ?_)
  · refine h_bipush C dX8_flip_12 (by decide) ?_
    refine h_ireturn C hr hk dX8_flip_14 ?_
    exact ⟨rfl, rfl⟩
  · exfalso; omega
abbrev rX8_above : Room := { frames := 2, cells := 0, slots := 0, locals := 41 }
abbrev pX8_above (z : Nat) (σ : hpMem) (a : Int) (b : Int) : Option Value → hpMem → Prop := fun r τ => r = some (.int (hpI (-2))) ∧ σ = τ
set_option maxHeartbeats 4000000 in
set_option maxRecDepth 20000 in
theorem tX8_above (l : Launch) (D : va_G) (cy : Nat → ClassId) (z : Nat) (σ : hpMem) (a : Int) (ha : hpR a) (b : Int) (hb : hpR b) (h_3_8 : σ 3 8 = 0) : hpM l D cy z yX8_above cX8_above 3 (some .int) rX8_above [.ref (z + 0), .int (hpI a), .int (hpI b)] σ (pX8_above z σ a b) := by
  obtain ⟨ha1, ha2⟩ := ha
  obtain ⟨hb1, hb2⟩ := hb
  refine hp_met rfl (Nat.le_of_ble_eq_true rfl) (fun p e s m below meth c C hr hk => ?_)
  refine h_aload_n C dX8_above_0 0 rfl rfl ?_
  refine h_iload_n C dX8_above_1 1 rfl rfl ?_
  refine h_callV (As := [.int (hpI a)]) (rest := []) C yyX8_isDay wd_568 (tX8_isDay l D cy z _ a ⟨by omega, by omega⟩ h_3_8) kd_0 rfl rfl ⟨rfl, rfl, Nat.le_of_ble_eq_true rfl, Nat.le_of_ble_eq_true rfl⟩ ⟨Nat.le_of_ble_eq_true rfl, Nat.le_of_ble_eq_true rfl⟩ (Nat.le_of_ble_eq_true rfl) dX8_above_2 (fun r1 τ1 hp1 => ?_)
  obtain ⟨rfl, rfl⟩ := hp1
  show hpV _ _ _ _ _ _ _ _ _ _ _ _ _ _ _ _ _ _ _ _ _ (_ :: _)
  refine h_if_eq (tgt := 16) C dX8_above_5 (by decide) ⟨by decide, by decide⟩ (fun h2 => ?_) (fun h2 => ?_)
  · refine h_bipush C dX8_above_16 (by decide) ?_
    refine h_ireturn C hr hk dX8_above_18 ?_
    exact ⟨rfl, rfl⟩
  · exfalso; omega
abbrev rX8_bring : Room := { frames := 3, cells := 0, slots := 0, locals := 62 }
abbrev pX8_bring (z : Nat) (σ : hpMem) (a : Int) (b : Int) : Option Value → hpMem → Prop := fun r τ => r = some (.int (hpI (-2))) ∧ σ = τ
set_option maxHeartbeats 4000000 in
set_option maxRecDepth 20000 in
theorem tX8_bring (l : Launch) (D : va_G) (cy : Nat → ClassId) (z : Nat) (σ : hpMem) (a : Int) (ha : hpR a) (b : Int) (hb : hpR b) (h_3_8 : σ 3 8 = 0) : hpM l D cy z yX8_bring cX8_bring 4 (some .int) rX8_bring [.ref (z + 0), .int (hpI a), .int (hpI b)] σ (pX8_bring z σ a b) := by
  obtain ⟨ha1, ha2⟩ := ha
  obtain ⟨hb1, hb2⟩ := hb
  refine hp_met rfl (Nat.le_of_ble_eq_true rfl) (fun p e s m below meth c C hr hk => ?_)
  refine h_aload_n C dX8_bring_0 0 rfl rfl ?_
  refine h_iload_n C dX8_bring_1 1 rfl rfl ?_
  refine h_callV (As := [.int (hpI a)]) (rest := []) C yyX8_isDayAheadOfLast wd_683 (tX8_isDayAheadOfLast l D cy z _ a ⟨by omega, by omega⟩ h_3_8) kd_0 rfl rfl ⟨rfl, rfl, Nat.le_of_ble_eq_true rfl, Nat.le_of_ble_eq_true rfl⟩ ⟨Nat.le_of_ble_eq_true rfl, Nat.le_of_ble_eq_true rfl⟩ (Nat.le_of_ble_eq_true rfl) dX8_bring_2 (fun r1 τ1 hp1 => ?_)
  obtain ⟨rfl, rfl⟩ := hp1
  show hpV _ _ _ _ _ _ _ _ _ _ _ _ _ _ _ _ _ _ _ _ _ (_ :: _)
  refine h_if_eq (tgt := 18) C dX8_bring_5 (by decide) ⟨by decide, by decide⟩ (fun h2 => ?_) (fun h2 => ?_)
  · refine h_bipush C dX8_bring_18 (by decide) ?_
    refine h_ireturn C hr hk dX8_bring_20 ?_
    exact ⟨rfl, rfl⟩
  · exfalso; omega
abbrev rX8_wins : Room := { frames := 2, cells := 0, slots := 0, locals := 41 }
abbrev pX8_wins (z : Nat) (σ : hpMem) (a : Int) (b : Int) : Option Value → hpMem → Prop := fun r τ => r = some (.int (hpI (-2))) ∧ σ = τ
set_option maxHeartbeats 4000000 in
set_option maxRecDepth 20000 in
theorem tX8_wins (l : Launch) (D : va_G) (cy : Nat → ClassId) (z : Nat) (σ : hpMem) (a : Int) (ha : hpR a) (b : Int) (hb : hpR b) (h_3_8 : σ 3 8 = 0) : hpM l D cy z yX8_wins cX8_wins 3 (some .int) rX8_wins [.ref (z + 0), .int (hpI a), .int (hpI b)] σ (pX8_wins z σ a b) := by
  obtain ⟨ha1, ha2⟩ := ha
  obtain ⟨hb1, hb2⟩ := hb
  refine hp_met rfl (Nat.le_of_ble_eq_true rfl) (fun p e s m below meth c C hr hk => ?_)
  refine h_aload_n C dX8_wins_0 0 rfl rfl ?_
  refine h_iload_n C dX8_wins_1 1 rfl rfl ?_
  refine h_callV (As := [.int (hpI a)]) (rest := []) C yyX8_isDay wd_568 (tX8_isDay l D cy z _ a ⟨by omega, by omega⟩ h_3_8) kd_0 rfl rfl ⟨rfl, rfl, Nat.le_of_ble_eq_true rfl, Nat.le_of_ble_eq_true rfl⟩ ⟨Nat.le_of_ble_eq_true rfl, Nat.le_of_ble_eq_true rfl⟩ (Nat.le_of_ble_eq_true rfl) dX8_wins_2 (fun r1 τ1 hp1 => ?_)
  obtain ⟨rfl, rfl⟩ := hp1
  show hpV _ _ _ _ _ _ _ _ _ _ _ _ _ _ _ _ _ _ _ _ _ (_ :: _)
  refine h_if_eq (tgt := 20) C dX8_wins_5 (by decide) ⟨by decide, by decide⟩ (fun h2 => ?_) (fun h2 => ?_)
  · refine h_bipush C dX8_wins_20 (by decide) ?_
    refine h_ireturn C hr hk dX8_wins_22 ?_
    exact ⟨rfl, rfl⟩
  · exfalso; omega
abbrev rX8_moves : Room := { frames := 2, cells := 0, slots := 0, locals := 41 }
abbrev pX8_moves (z : Nat) (σ : hpMem) (a : Int) (b : Int) : Option Value → hpMem → Prop := fun r τ => r = some (.int (hpI (-2))) ∧ σ = τ
set_option maxHeartbeats 4000000 in
set_option maxRecDepth 20000 in
theorem tX8_moves (l : Launch) (D : va_G) (cy : Nat → ClassId) (z : Nat) (σ : hpMem) (a : Int) (ha : hpR a) (b : Int) (hb : hpR b) (h_3_8 : σ 3 8 = 0) : hpM l D cy z yX8_moves cX8_moves 6 (some .int) rX8_moves [.ref (z + 0), .int (hpI a), .int (hpI b)] σ (pX8_moves z σ a b) := by
  obtain ⟨ha1, ha2⟩ := ha
  obtain ⟨hb1, hb2⟩ := hb
  refine hp_met rfl (Nat.le_of_ble_eq_true rfl) (fun p e s m below meth c C hr hk => ?_)
  refine h_aload_n C dX8_moves_0 0 rfl rfl ?_
  refine h_iload_n C dX8_moves_1 1 rfl rfl ?_
  refine h_callV (As := [.int (hpI a)]) (rest := []) C yyX8_isDay wd_568 (tX8_isDay l D cy z _ a ⟨by omega, by omega⟩ h_3_8) kd_0 rfl rfl ⟨rfl, rfl, Nat.le_of_ble_eq_true rfl, Nat.le_of_ble_eq_true rfl⟩ ⟨Nat.le_of_ble_eq_true rfl, Nat.le_of_ble_eq_true rfl⟩ (Nat.le_of_ble_eq_true rfl) dX8_moves_2 (fun r1 τ1 hp1 => ?_)
  obtain ⟨rfl, rfl⟩ := hp1
  show hpV _ _ _ _ _ _ _ _ _ _ _ _ _ _ _ _ _ _ _ _ _ (_ :: _)
  refine h_if_eq (tgt := 20) C dX8_moves_5 (by decide) ⟨by decide, by decide⟩ (fun h2 => ?_) (fun h2 => ?_)
  · refine h_bipush C dX8_moves_20 (by decide) ?_
    refine h_ireturn C hr hk dX8_moves_22 ?_
    exact ⟨rfl, rfl⟩
  · exfalso; omega
abbrev rX8_move : Room := { frames := 2, cells := 0, slots := 0, locals := 41 }
abbrev pX8_move (z : Nat) (σ : hpMem) (a : Int) (b : Int) : Option Value → hpMem → Prop := fun r τ => r = some (.int (hpI (-2))) ∧ σ = τ
set_option maxHeartbeats 4000000 in
set_option maxRecDepth 20000 in
theorem tX8_move (l : Launch) (D : va_G) (cy : Nat → ClassId) (z : Nat) (σ : hpMem) (a : Int) (ha : hpR a) (b : Int) (hb : hpR b) (h_3_8 : σ 3 8 = 0) : hpM l D cy z yX8_move cX8_move 6 (some .int) rX8_move [.ref (z + 0), .int (hpI a), .int (hpI b)] σ (pX8_move z σ a b) := by
  obtain ⟨ha1, ha2⟩ := ha
  obtain ⟨hb1, hb2⟩ := hb
  refine hp_met rfl (Nat.le_of_ble_eq_true rfl) (fun p e s m below meth c C hr hk => ?_)
  refine h_aload_n C dX8_move_0 0 rfl rfl ?_
  refine h_iload_n C dX8_move_1 1 rfl rfl ?_
  refine h_callV (As := [.int (hpI a)]) (rest := []) C yyX8_isDay wd_568 (tX8_isDay l D cy z _ a ⟨by omega, by omega⟩ h_3_8) kd_0 rfl rfl ⟨rfl, rfl, Nat.le_of_ble_eq_true rfl, Nat.le_of_ble_eq_true rfl⟩ ⟨Nat.le_of_ble_eq_true rfl, Nat.le_of_ble_eq_true rfl⟩ (Nat.le_of_ble_eq_true rfl) dX8_move_2 (fun r1 τ1 hp1 => ?_)
  obtain ⟨rfl, rfl⟩ := hp1
  show hpV _ _ _ _ _ _ _ _ _ _ _ _ _ _ _ _ _ _ _ _ _ (_ :: _)
  refine h_if_eq (tgt := 20) C dX8_move_5 (by decide) ⟨by decide, by decide⟩ (fun h2 => ?_) (fun h2 => ?_)
  · refine h_bipush C dX8_move_20 (by decide) ?_
    refine h_ireturn C hr hk dX8_move_22 ?_
    exact ⟨rfl, rfl⟩
  · exfalso; omega
abbrev rX8_brings : Room := { frames := 2, cells := 0, slots := 0, locals := 41 }
abbrev pX8_brings (z : Nat) (σ : hpMem) (a : Int) (b : Int) : Option Value → hpMem → Prop := fun r τ => r = some (.int (hpI (-2))) ∧ σ = τ
set_option maxHeartbeats 4000000 in
set_option maxRecDepth 20000 in
theorem tX8_brings (l : Launch) (D : va_G) (cy : Nat → ClassId) (z : Nat) (σ : hpMem) (a : Int) (ha : hpR a) (b : Int) (hb : hpR b) (h_3_8 : σ 3 8 = 0) : hpM l D cy z yX8_brings cX8_brings 3 (some .int) rX8_brings [.ref (z + 0), .int (hpI a), .int (hpI b)] σ (pX8_brings z σ a b) := by
  obtain ⟨ha1, ha2⟩ := ha
  obtain ⟨hb1, hb2⟩ := hb
  refine hp_met rfl (Nat.le_of_ble_eq_true rfl) (fun p e s m below meth c C hr hk => ?_)
  refine h_aload_n C dX8_brings_0 0 rfl rfl ?_
  refine h_iload_n C dX8_brings_1 2 rfl rfl ?_
  refine h_callV (As := [.int (hpI b)]) (rest := []) C yyX8_isDay wd_568 (tX8_isDay l D cy z _ b ⟨by omega, by omega⟩ h_3_8) kd_0 rfl rfl ⟨rfl, rfl, Nat.le_of_ble_eq_true rfl, Nat.le_of_ble_eq_true rfl⟩ ⟨Nat.le_of_ble_eq_true rfl, Nat.le_of_ble_eq_true rfl⟩ (Nat.le_of_ble_eq_true rfl) dX8_brings_2 (fun r1 τ1 hp1 => ?_)
  obtain ⟨rfl, rfl⟩ := hp1
  show hpV _ _ _ _ _ _ _ _ _ _ _ _ _ _ _ _ _ _ _ _ _ (_ :: _)
  refine h_if_eq (tgt := 19) C dX8_brings_5 (by decide) ⟨by decide, by decide⟩ (fun h2 => ?_) (fun h2 => ?_)
  · refine h_bipush C dX8_brings_19 (by decide) ?_
    refine h_ireturn C hr hk dX8_brings_21 ?_
    exact ⟨rfl, rfl⟩
  · exfalso; omega
abbrev rX8_later : Room := { frames := 2, cells := 0, slots := 0, locals := 41 }
abbrev pX8_later (z : Nat) (σ : hpMem) (a : Int) (b : Int) (c0 : Int) : Option Value → hpMem → Prop := fun r τ => r = some (.int (hpI (-2))) ∧ σ = τ
set_option maxHeartbeats 4000000 in
set_option maxRecDepth 20000 in
theorem tX8_later (l : Launch) (D : va_G) (cy : Nat → ClassId) (z : Nat) (σ : hpMem) (a : Int) (ha : hpR a) (b : Int) (hb : hpR b) (c0 : Int) (hc0 : hpR c0) (h_3_8 : σ 3 8 = 0) : hpM l D cy z yX8_later cX8_later 5 (some .int) rX8_later [.ref (z + 0), .int (hpI a), .int (hpI b), .int (hpI c0)] σ (pX8_later z σ a b c0) := by
  obtain ⟨ha1, ha2⟩ := ha
  obtain ⟨hb1, hb2⟩ := hb
  obtain ⟨hc01, hc02⟩ := hc0
  refine hp_met rfl (Nat.le_of_ble_eq_true rfl) (fun p e s m below meth c C hr hk => ?_)
  refine h_aload_n C dX8_later_0 0 rfl rfl ?_
  refine h_iload_n C dX8_later_1 1 rfl rfl ?_
  refine h_callV (As := [.int (hpI a)]) (rest := []) C yyX8_isDay wd_568 (tX8_isDay l D cy z _ a ⟨by omega, by omega⟩ h_3_8) kd_0 rfl rfl ⟨rfl, rfl, Nat.le_of_ble_eq_true rfl, Nat.le_of_ble_eq_true rfl⟩ ⟨Nat.le_of_ble_eq_true rfl, Nat.le_of_ble_eq_true rfl⟩ (Nat.le_of_ble_eq_true rfl) dX8_later_2 (fun r1 τ1 hp1 => ?_)
  obtain ⟨rfl, rfl⟩ := hp1
  show hpV _ _ _ _ _ _ _ _ _ _ _ _ _ _ _ _ _ _ _ _ _ (_ :: _)
  refine h_if_eq (tgt := 23) C dX8_later_5 (by decide) ⟨by decide, by decide⟩ (fun h2 => ?_) (fun h2 => ?_)
  · refine h_bipush C dX8_later_23 (by decide) ?_
    refine h_ireturn C hr hk dX8_later_25 ?_
    exact ⟨rfl, rfl⟩
  · exfalso; omega
abbrev rX8_from : Room := { frames := 2, cells := 0, slots := 0, locals := 41 }
abbrev pX8_from (z : Nat) (σ : hpMem) (a : Int) (b : Int) : Option Value → hpMem → Prop := fun r τ => r = some (.int (hpI (-2))) ∧ σ = τ
set_option maxHeartbeats 4000000 in
set_option maxRecDepth 20000 in
theorem tX8_from (l : Launch) (D : va_G) (cy : Nat → ClassId) (z : Nat) (σ : hpMem) (a : Int) (ha : hpR a) (b : Int) (hb : hpR b) (h_3_8 : σ 3 8 = 0) : hpM l D cy z yX8_from cX8_from 4 (some .int) rX8_from [.ref (z + 0), .int (hpI a), .int (hpI b)] σ (pX8_from z σ a b) := by
  obtain ⟨ha1, ha2⟩ := ha
  obtain ⟨hb1, hb2⟩ := hb
  refine hp_met rfl (Nat.le_of_ble_eq_true rfl) (fun p e s m below meth c C hr hk => ?_)
  refine h_iload_n C dX8_from_0 2 rfl rfl ?_
  refine h_if_ge (tgt := 9) C dX8_from_1 (by decide) ⟨by omega, by omega⟩ (fun h1 => ?_) (fun h1 => ?_)
  · refine h_aload_n C dX8_from_9 0 rfl rfl ?_
    refine h_iload_n C dX8_from_10 1 rfl rfl ?_
    refine h_callV (As := [.int (hpI a)]) (rest := []) C yyX8_smallRowFault wd_916 (tX8_smallRowFault l D cy z _ a ⟨by omega, by omega⟩ h_3_8) kd_0 rfl rfl ⟨rfl, rfl, Nat.le_of_ble_eq_true rfl, Nat.le_of_ble_eq_true rfl⟩ ⟨Nat.le_of_ble_eq_true rfl, Nat.le_of_ble_eq_true rfl⟩ (Nat.le_of_ble_eq_true rfl) dX8_from_11 (fun r2 τ2 hp2 => ?_)
    obtain ⟨rfl, rfl⟩ := hp2
    show hpV _ _ _ _ _ _ _ _ _ _ _ _ _ _ _ _ _ _ _ _ _ (_ :: _)
    refine h_istore_n (lv' := [(3, .int (hpI (-2))), (0, .ref (z + 0)), (1, .int (hpI a)), (2, .int (hpI b))]) C dX8_from_14 rfl (by decide) rfl ?_
    refine h_iload_n C dX8_from_15 0 rfl rfl ?_
    refine h_if_eq (tgt := 21) C dX8_from_16 (by decide) ⟨by decide, by decide⟩ (fun h3 => ?_) (fun h3 => ?_)
    · exfalso; omega
    · refine h_iload_n C dX8_from_19 0 rfl rfl ?_
      refine h_ireturn C hr hk dX8_from_20 ?_
      exact ⟨rfl, rfl⟩
  · refine h_bipush C dX8_from_4 (by decide) ?_
    refine h_goto (tgt := 14) C dX8_from_6 (by decide) ?_
    refine h_istore_n (lv' := [(3, .int (hpI (-2))), (0, .ref (z + 0)), (1, .int (hpI a)), (2, .int (hpI b))]) C dX8_from_14 rfl (by decide) rfl ?_
    refine h_iload_n C dX8_from_15 0 rfl rfl ?_
    refine h_if_eq (tgt := 21) C dX8_from_16 (by decide) ⟨by decide, by decide⟩ (fun h4 => ?_) (fun h4 => ?_)
    · exfalso; omega
    · refine h_iload_n C dX8_from_19 0 rfl rfl ?_
      refine h_ireturn C hr hk dX8_from_20 ?_
      exact ⟨rfl, rfl⟩
abbrev rX8_heights : Room := { frames := 2, cells := 0, slots := 0, locals := 42 }
abbrev pX8_heights (z : Nat) (σ : hpMem) (a : Int) (b : Int) : Option Value → hpMem → Prop := fun r τ => r = some (.int (hpI (-2))) ∧ σ = τ
set_option maxHeartbeats 4000000 in
set_option maxRecDepth 20000 in
theorem tX8_heights (l : Launch) (D : va_G) (cy : Nat → ClassId) (z : Nat) (σ : hpMem) (a : Int) (ha : hpR a) (b : Int) (hb : hpR b) (h_3_9 : σ 3 9 = 0) : hpM l D cy z yX8_heights cX8_heights 4 (some .int) rX8_heights [.ref (z + 0), .int (hpI a), .int (hpI b)] σ (pX8_heights z σ a b) := by
  obtain ⟨ha1, ha2⟩ := ha
  obtain ⟨hb1, hb2⟩ := hb
  refine hp_met rfl (Nat.le_of_ble_eq_true rfl) (fun p e s m below meth c C hr hk => ?_)
  refine h_aload_n C dX8_heights_0 0 rfl rfl ?_
  refine h_iload_n C dX8_heights_1 1 rfl rfl ?_
  refine h_aload_n C dX8_heights_2 0 rfl rfl ?_
  refine h_iload_n C dX8_heights_3 2 rfl rfl ?_
  refine h_callV (As := [.int (hpI b)]) (rest := [.int (hpI a), .ref (z + 0)]) C yyX8_isTold wd_549 (tX8_isTold l D cy z _ b ⟨by omega, by omega⟩ h_3_9) kd_0 rfl rfl ⟨rfl, rfl, Nat.le_of_ble_eq_true rfl, Nat.le_of_ble_eq_true rfl⟩ ⟨Nat.le_of_ble_eq_true rfl, Nat.le_of_ble_eq_true rfl⟩ (Nat.le_of_ble_eq_true rfl) dX8_heights_4 (fun r1 τ1 hp1 => ?_)
  obtain ⟨rfl, rfl⟩ := hp1
  show hpV _ _ _ _ _ _ _ _ _ _ _ _ _ _ _ _ _ _ _ _ _ (_ :: _)
  refine h_callV (As := [.int (hpI a), .int (hpI 0)]) (rest := []) C yyX8_seenFault wd_977 (tX8_seenFault l D cy z _ a ⟨by omega, by omega⟩) kd_0 rfl rfl ⟨rfl, rfl, Nat.le_of_ble_eq_true rfl, Nat.le_of_ble_eq_true rfl⟩ ⟨Nat.le_of_ble_eq_true rfl, Nat.le_of_ble_eq_true rfl⟩ (Nat.le_of_ble_eq_true rfl) dX8_heights_7 (fun r2 τ2 hp2 => ?_)
  obtain ⟨rfl, rfl⟩ := hp2
  show hpV _ _ _ _ _ _ _ _ _ _ _ _ _ _ _ _ _ _ _ _ _ (_ :: _)
  refine h_istore_n (lv' := [(3, .int (hpI (-2))), (0, .ref (z + 0)), (1, .int (hpI a)), (2, .int (hpI b))]) C dX8_heights_10 rfl (by decide) rfl ?_
  refine h_iload_n C dX8_heights_11 0 rfl rfl ?_
  refine h_if_eq (tgt := 19) C dX8_heights_12 (by decide) ⟨by decide, by decide⟩ (fun h3 => ?_) (fun h3 => ?_)
  · exfalso; omega
  · refine h_iload_n C dX8_heights_15 0 rfl rfl ?_
    refine h_goto (tgt := 28) C dX8_heights_16 (by decide) ?_
    refine h_ireturn C hr hk dX8_heights_28 ?_
    exact ⟨rfl, rfl⟩
abbrev rX8_least : Room := { frames := 2, cells := 0, slots := 0, locals := 42 }
abbrev pX8_least (z : Nat) (σ : hpMem) (a : Int) (b : Int) : Option Value → hpMem → Prop := fun r τ => r = some (.int (hpI (-2))) ∧ σ = τ
set_option maxHeartbeats 4000000 in
set_option maxRecDepth 20000 in
theorem tX8_least (l : Launch) (D : va_G) (cy : Nat → ClassId) (z : Nat) (σ : hpMem) (a : Int) (ha : hpR a) (b : Int) (hb : hpR b) (h_3_9 : σ 3 9 = 0) : hpM l D cy z yX8_least cX8_least 4 (some .int) rX8_least [.ref (z + 0), .int (hpI a), .int (hpI b)] σ (pX8_least z σ a b) := by
  obtain ⟨ha1, ha2⟩ := ha
  obtain ⟨hb1, hb2⟩ := hb
  refine hp_met rfl (Nat.le_of_ble_eq_true rfl) (fun p e s m below meth c C hr hk => ?_)
  refine h_aload_n C dX8_least_0 0 rfl rfl ?_
  refine h_iload_n C dX8_least_1 1 rfl rfl ?_
  refine h_aload_n C dX8_least_2 0 rfl rfl ?_
  refine h_iload_n C dX8_least_3 2 rfl rfl ?_
  refine h_callV (As := [.int (hpI b)]) (rest := [.int (hpI a), .ref (z + 0)]) C yyX8_isTold wd_549 (tX8_isTold l D cy z _ b ⟨by omega, by omega⟩ h_3_9) kd_0 rfl rfl ⟨rfl, rfl, Nat.le_of_ble_eq_true rfl, Nat.le_of_ble_eq_true rfl⟩ ⟨Nat.le_of_ble_eq_true rfl, Nat.le_of_ble_eq_true rfl⟩ (Nat.le_of_ble_eq_true rfl) dX8_least_4 (fun r1 τ1 hp1 => ?_)
  obtain ⟨rfl, rfl⟩ := hp1
  show hpV _ _ _ _ _ _ _ _ _ _ _ _ _ _ _ _ _ _ _ _ _ (_ :: _)
  refine h_callV (As := [.int (hpI a), .int (hpI 0)]) (rest := []) C yyX8_seenFault wd_977 (tX8_seenFault l D cy z _ a ⟨by omega, by omega⟩) kd_0 rfl rfl ⟨rfl, rfl, Nat.le_of_ble_eq_true rfl, Nat.le_of_ble_eq_true rfl⟩ ⟨Nat.le_of_ble_eq_true rfl, Nat.le_of_ble_eq_true rfl⟩ (Nat.le_of_ble_eq_true rfl) dX8_least_7 (fun r2 τ2 hp2 => ?_)
  obtain ⟨rfl, rfl⟩ := hp2
  show hpV _ _ _ _ _ _ _ _ _ _ _ _ _ _ _ _ _ _ _ _ _ (_ :: _)
  refine h_istore_n (lv' := [(3, .int (hpI (-2))), (0, .ref (z + 0)), (1, .int (hpI a)), (2, .int (hpI b))]) C dX8_least_10 rfl (by decide) rfl ?_
  refine h_iload_n C dX8_least_11 0 rfl rfl ?_
  refine h_if_eq (tgt := 19) C dX8_least_12 (by decide) ⟨by decide, by decide⟩ (fun h3 => ?_) (fun h3 => ?_)
  · exfalso; omega
  · refine h_iload_n C dX8_least_15 0 rfl rfl ?_
    refine h_goto (tgt := 28) C dX8_least_16 (by decide) ?_
    refine h_ireturn C hr hk dX8_least_28 ?_
    exact ⟨rfl, rfl⟩
abbrev rX8_greatest : Room := { frames := 2, cells := 0, slots := 0, locals := 42 }
abbrev pX8_greatest (z : Nat) (σ : hpMem) (a : Int) (b : Int) : Option Value → hpMem → Prop := fun r τ => r = some (.int (hpI (-2))) ∧ σ = τ
set_option maxHeartbeats 4000000 in
set_option maxRecDepth 20000 in
theorem tX8_greatest (l : Launch) (D : va_G) (cy : Nat → ClassId) (z : Nat) (σ : hpMem) (a : Int) (ha : hpR a) (b : Int) (hb : hpR b) (h_3_9 : σ 3 9 = 0) : hpM l D cy z yX8_greatest cX8_greatest 4 (some .int) rX8_greatest [.ref (z + 0), .int (hpI a), .int (hpI b)] σ (pX8_greatest z σ a b) := by
  obtain ⟨ha1, ha2⟩ := ha
  obtain ⟨hb1, hb2⟩ := hb
  refine hp_met rfl (Nat.le_of_ble_eq_true rfl) (fun p e s m below meth c C hr hk => ?_)
  refine h_aload_n C dX8_greatest_0 0 rfl rfl ?_
  refine h_iload_n C dX8_greatest_1 1 rfl rfl ?_
  refine h_aload_n C dX8_greatest_2 0 rfl rfl ?_
  refine h_iload_n C dX8_greatest_3 2 rfl rfl ?_
  refine h_callV (As := [.int (hpI b)]) (rest := [.int (hpI a), .ref (z + 0)]) C yyX8_isTold wd_549 (tX8_isTold l D cy z _ b ⟨by omega, by omega⟩ h_3_9) kd_0 rfl rfl ⟨rfl, rfl, Nat.le_of_ble_eq_true rfl, Nat.le_of_ble_eq_true rfl⟩ ⟨Nat.le_of_ble_eq_true rfl, Nat.le_of_ble_eq_true rfl⟩ (Nat.le_of_ble_eq_true rfl) dX8_greatest_4 (fun r1 τ1 hp1 => ?_)
  obtain ⟨rfl, rfl⟩ := hp1
  show hpV _ _ _ _ _ _ _ _ _ _ _ _ _ _ _ _ _ _ _ _ _ (_ :: _)
  refine h_callV (As := [.int (hpI a), .int (hpI 0)]) (rest := []) C yyX8_seenFault wd_977 (tX8_seenFault l D cy z _ a ⟨by omega, by omega⟩) kd_0 rfl rfl ⟨rfl, rfl, Nat.le_of_ble_eq_true rfl, Nat.le_of_ble_eq_true rfl⟩ ⟨Nat.le_of_ble_eq_true rfl, Nat.le_of_ble_eq_true rfl⟩ (Nat.le_of_ble_eq_true rfl) dX8_greatest_7 (fun r2 τ2 hp2 => ?_)
  obtain ⟨rfl, rfl⟩ := hp2
  show hpV _ _ _ _ _ _ _ _ _ _ _ _ _ _ _ _ _ _ _ _ _ (_ :: _)
  refine h_istore_n (lv' := [(3, .int (hpI (-2))), (0, .ref (z + 0)), (1, .int (hpI a)), (2, .int (hpI b))]) C dX8_greatest_10 rfl (by decide) rfl ?_
  refine h_iload_n C dX8_greatest_11 0 rfl rfl ?_
  refine h_if_eq (tgt := 19) C dX8_greatest_12 (by decide) ⟨by decide, by decide⟩ (fun h3 => ?_) (fun h3 => ?_)
  · exfalso; omega
  · refine h_iload_n C dX8_greatest_15 0 rfl rfl ?_
    refine h_goto (tgt := 28) C dX8_greatest_16 (by decide) ?_
    refine h_ireturn C hr hk dX8_greatest_28 ?_
    exact ⟨rfl, rfl⟩
abbrev rX8_ask : Room := { frames := 2, cells := 0, slots := 0, locals := 42 }
abbrev pX8_ask (z : Nat) (σ : hpMem) (a : Int) (b : Int) : Option Value → hpMem → Prop := fun r τ => r = some (.int (hpI (-2))) ∧ σ = τ
set_option maxHeartbeats 4000000 in
set_option maxRecDepth 20000 in
theorem tX8_ask (l : Launch) (D : va_G) (cy : Nat → ClassId) (z : Nat) (σ : hpMem) (a : Int) (ha : hpR a) (b : Int) (hb : hpR b) (h_3_9 : σ 3 9 = 0) : hpM l D cy z yX8_ask cX8_ask 4 (some .int) rX8_ask [.ref (z + 0), .int (hpI a), .int (hpI b)] σ (pX8_ask z σ a b) := by
  obtain ⟨ha1, ha2⟩ := ha
  obtain ⟨hb1, hb2⟩ := hb
  refine hp_met rfl (Nat.le_of_ble_eq_true rfl) (fun p e s m below meth c C hr hk => ?_)
  refine h_aload_n C dX8_ask_0 0 rfl rfl ?_
  refine h_iload_n C dX8_ask_1 1 rfl rfl ?_
  refine h_aload_n C dX8_ask_2 0 rfl rfl ?_
  refine h_iload_n C dX8_ask_3 2 rfl rfl ?_
  refine h_callV (As := [.int (hpI b)]) (rest := [.int (hpI a), .ref (z + 0)]) C yyX8_isTold wd_549 (tX8_isTold l D cy z _ b ⟨by omega, by omega⟩ h_3_9) kd_0 rfl rfl ⟨rfl, rfl, Nat.le_of_ble_eq_true rfl, Nat.le_of_ble_eq_true rfl⟩ ⟨Nat.le_of_ble_eq_true rfl, Nat.le_of_ble_eq_true rfl⟩ (Nat.le_of_ble_eq_true rfl) dX8_ask_4 (fun r1 τ1 hp1 => ?_)
  obtain ⟨rfl, rfl⟩ := hp1
  show hpV _ _ _ _ _ _ _ _ _ _ _ _ _ _ _ _ _ _ _ _ _ (_ :: _)
  refine h_callV (As := [.int (hpI a), .int (hpI 0)]) (rest := []) C yyX8_seenFault wd_977 (tX8_seenFault l D cy z _ a ⟨by omega, by omega⟩) kd_0 rfl rfl ⟨rfl, rfl, Nat.le_of_ble_eq_true rfl, Nat.le_of_ble_eq_true rfl⟩ ⟨Nat.le_of_ble_eq_true rfl, Nat.le_of_ble_eq_true rfl⟩ (Nat.le_of_ble_eq_true rfl) dX8_ask_7 (fun r2 τ2 hp2 => ?_)
  obtain ⟨rfl, rfl⟩ := hp2
  show hpV _ _ _ _ _ _ _ _ _ _ _ _ _ _ _ _ _ _ _ _ _ (_ :: _)
  refine h_istore_n (lv' := [(3, .int (hpI (-2))), (0, .ref (z + 0)), (1, .int (hpI a)), (2, .int (hpI b))]) C dX8_ask_10 rfl (by decide) rfl ?_
  refine h_iload_n C dX8_ask_11 0 rfl rfl ?_
  refine h_if_eq (tgt := 19) C dX8_ask_12 (by decide) ⟨by decide, by decide⟩ (fun h3 => ?_) (fun h3 => ?_)
  · exfalso; omega
  · refine h_iload_n C dX8_ask_15 0 rfl rfl ?_
    refine h_goto (tgt := 35) C dX8_ask_16 (by decide) ?_
    refine h_ireturn C hr hk dX8_ask_35 ?_
    exact ⟨rfl, rfl⟩
abbrev rX8_leaves : Room := { frames := 2, cells := 0, slots := 0, locals := 42 }
abbrev pX8_leaves (z : Nat) (σ : hpMem) (a : Int) (b : Int) : Option Value → hpMem → Prop := fun r τ => r = some (.int (hpI (-2))) ∧ σ = τ
set_option maxHeartbeats 4000000 in
set_option maxRecDepth 20000 in
theorem tX8_leaves (l : Launch) (D : va_G) (cy : Nat → ClassId) (z : Nat) (σ : hpMem) (a : Int) (ha : hpR a) (b : Int) (hb : hpR b) (h_3_9 : σ 3 9 = 0) : hpM l D cy z yX8_leaves cX8_leaves 4 (some .int) rX8_leaves [.ref (z + 0), .int (hpI a), .int (hpI b)] σ (pX8_leaves z σ a b) := by
  obtain ⟨ha1, ha2⟩ := ha
  obtain ⟨hb1, hb2⟩ := hb
  refine hp_met rfl (Nat.le_of_ble_eq_true rfl) (fun p e s m below meth c C hr hk => ?_)
  refine h_aload_n C dX8_leaves_0 0 rfl rfl ?_
  refine h_iload_n C dX8_leaves_1 1 rfl rfl ?_
  refine h_aload_n C dX8_leaves_2 0 rfl rfl ?_
  refine h_iload_n C dX8_leaves_3 2 rfl rfl ?_
  refine h_callV (As := [.int (hpI b)]) (rest := [.int (hpI a), .ref (z + 0)]) C yyX8_isTold wd_549 (tX8_isTold l D cy z _ b ⟨by omega, by omega⟩ h_3_9) kd_0 rfl rfl ⟨rfl, rfl, Nat.le_of_ble_eq_true rfl, Nat.le_of_ble_eq_true rfl⟩ ⟨Nat.le_of_ble_eq_true rfl, Nat.le_of_ble_eq_true rfl⟩ (Nat.le_of_ble_eq_true rfl) dX8_leaves_4 (fun r1 τ1 hp1 => ?_)
  obtain ⟨rfl, rfl⟩ := hp1
  show hpV _ _ _ _ _ _ _ _ _ _ _ _ _ _ _ _ _ _ _ _ _ (_ :: _)
  refine h_callV (As := [.int (hpI a), .int (hpI 0)]) (rest := []) C yyX8_seenFault wd_977 (tX8_seenFault l D cy z _ a ⟨by omega, by omega⟩) kd_0 rfl rfl ⟨rfl, rfl, Nat.le_of_ble_eq_true rfl, Nat.le_of_ble_eq_true rfl⟩ ⟨Nat.le_of_ble_eq_true rfl, Nat.le_of_ble_eq_true rfl⟩ (Nat.le_of_ble_eq_true rfl) dX8_leaves_7 (fun r2 τ2 hp2 => ?_)
  obtain ⟨rfl, rfl⟩ := hp2
  show hpV _ _ _ _ _ _ _ _ _ _ _ _ _ _ _ _ _ _ _ _ _ (_ :: _)
  refine h_istore_n (lv' := [(3, .int (hpI (-2))), (0, .ref (z + 0)), (1, .int (hpI a)), (2, .int (hpI b))]) C dX8_leaves_10 rfl (by decide) rfl ?_
  refine h_iload_n C dX8_leaves_11 0 rfl rfl ?_
  refine h_if_eq (tgt := 19) C dX8_leaves_12 (by decide) ⟨by decide, by decide⟩ (fun h3 => ?_) (fun h3 => ?_)
  · exfalso; omega
  · refine h_iload_n C dX8_leaves_15 0 rfl rfl ?_
    refine h_goto (tgt := 35) C dX8_leaves_16 (by decide) ?_
    refine h_ireturn C hr hk dX8_leaves_35 ?_
    exact ⟨rfl, rfl⟩
abbrev rX8_laws : Room := { frames := 2, cells := 0, slots := 0, locals := 42 }
abbrev pX8_laws (z : Nat) (σ : hpMem) (a : Int) : Option Value → hpMem → Prop := fun r τ => r = some (.int (hpI (-2))) ∧ σ = τ
set_option maxHeartbeats 4000000 in
set_option maxRecDepth 20000 in
theorem tX8_laws (l : Launch) (D : va_G) (cy : Nat → ClassId) (z : Nat) (σ : hpMem) (a : Int) (ha : hpR a) (h_3_8 : σ 3 8 = 0) : hpM l D cy z yX8_laws cX8_laws 5 (some .int) rX8_laws [.ref (z + 0), .int (hpI a)] σ (pX8_laws z σ a) := by
  obtain ⟨ha1, ha2⟩ := ha
  refine hp_met rfl (Nat.le_of_ble_eq_true rfl) (fun p e s m below meth c C hr hk => ?_)
  refine h_aload_n C dX8_laws_0 0 rfl rfl ?_
  refine h_iload_n C dX8_laws_1 1 rfl rfl ?_
  refine h_aload_n C dX8_laws_2 0 rfl rfl ?_
  refine h_callV (As := []) (rest := [.int (hpI a), .ref (z + 0)]) C yyX8_noMoor wd_572 (tX8_noMoor l D cy z _ h_3_8) kd_0 rfl rfl ⟨rfl, rfl, Nat.le_of_ble_eq_true rfl, Nat.le_of_ble_eq_true rfl⟩ ⟨Nat.le_of_ble_eq_true rfl, Nat.le_of_ble_eq_true rfl⟩ (Nat.le_of_ble_eq_true rfl) dX8_laws_3 (fun r1 τ1 hp1 => ?_)
  obtain ⟨rfl, rfl⟩ := hp1
  show hpV _ _ _ _ _ _ _ _ _ _ _ _ _ _ _ _ _ _ _ _ _ (_ :: _)
  refine h_if_ne (tgt := 13) C dX8_laws_6 (by decide) ⟨by decide, by decide⟩ (fun h2 => ?_) (fun h2 => ?_)
  · refine h_iconst C dX8_laws_13 ?_
    refine h_callV (As := [.int (hpI a), .int (hpI 0)]) (rest := []) C yyX8_seenFault wd_977 (tX8_seenFault l D cy z _ a ⟨by omega, by omega⟩) kd_0 rfl rfl ⟨rfl, rfl, Nat.le_of_ble_eq_true rfl, Nat.le_of_ble_eq_true rfl⟩ ⟨Nat.le_of_ble_eq_true rfl, Nat.le_of_ble_eq_true rfl⟩ (Nat.le_of_ble_eq_true rfl) dX8_laws_14 (fun r3 τ3 hp3 => ?_)
    obtain ⟨rfl, rfl⟩ := hp3
    show hpV _ _ _ _ _ _ _ _ _ _ _ _ _ _ _ _ _ _ _ _ _ (_ :: _)
    refine h_istore_n (lv' := [(2, .int (hpI (-2))), (0, .ref (z + 0)), (1, .int (hpI a))]) C dX8_laws_17 rfl (by decide) rfl ?_
    refine h_iload_n C dX8_laws_18 0 rfl rfl ?_
    refine h_if_eq (tgt := 24) C dX8_laws_19 (by decide) ⟨by decide, by decide⟩ (fun h4 => ?_) (fun h4 => ?_)
    · exfalso; omega
    · refine h_iload_n C dX8_laws_22 0 rfl rfl ?_
      refine h_ireturn C hr hk dX8_laws_23 ?_
      exact ⟨rfl, rfl⟩
  · exfalso; omega
abbrev rX8_share : Room := { frames := 1, cells := 0, slots := 0, locals := 21 }
abbrev pX8_share (z : Nat) (σ : hpMem) (a : Int) (b : Int) : Option Value → hpMem → Prop := fun r τ => r = some (.int (hpI (-1000))) ∧ σ = τ
set_option maxHeartbeats 4000000 in
set_option maxRecDepth 20000 in
theorem tX8_share (l : Launch) (D : va_G) (cy : Nat → ClassId) (z : Nat) (σ : hpMem) (a : Int) (ha : hpR a) (b : Int) (hb : hpR b) (h_3_10 : σ 3 10 = 0) : hpM l D cy z yX8_share cX8_share 3 (some .int) rX8_share [.ref (z + 0), .int (hpI a), .int (hpI b)] σ (pX8_share z σ a b) := by
  obtain ⟨ha1, ha2⟩ := ha
  obtain ⟨hb1, hb2⟩ := hb
  refine hp_met rfl (Nat.le_of_ble_eq_true rfl) (fun p e s m below meth c C hr hk => ?_)
  refine h_aload_n C dX8_share_0 0 rfl rfl ?_
  refine h_iload_n C dX8_share_1 1 rfl rfl ?_
  refine h_callV (As := [.int (hpI a)]) (rest := []) C yyX8_isCart wd_557 (tX8_isCart l D cy z _ a ⟨by omega, by omega⟩ h_3_10) kd_0 rfl rfl ⟨rfl, rfl, Nat.le_of_ble_eq_true rfl, Nat.le_of_ble_eq_true rfl⟩ ⟨Nat.le_of_ble_eq_true rfl, Nat.le_of_ble_eq_true rfl⟩ (Nat.le_of_ble_eq_true rfl) dX8_share_2 (fun r1 τ1 hp1 => ?_)
  obtain ⟨rfl, rfl⟩ := hp1
  show hpV _ _ _ _ _ _ _ _ _ _ _ _ _ _ _ _ _ _ _ _ _ (_ :: _)
  refine h_if_eq (tgt := 15) C dX8_share_5 (by decide) ⟨by decide, by decide⟩ (fun h2 => ?_) (fun h2 => ?_)
  · refine h_sipush C dX8_share_15 (by decide) ?_
    refine h_ireturn C hr hk dX8_share_18 ?_
    exact ⟨rfl, rfl⟩
  · exfalso; omega
abbrev rX8_rests : Room := { frames := 1, cells := 0, slots := 0, locals := 21 }
abbrev pX8_rests (z : Nat) (σ : hpMem) (a : Int) (b : Int) : Option Value → hpMem → Prop := fun r τ => r = some (.int (hpI (-2))) ∧ σ = τ
set_option maxHeartbeats 4000000 in
set_option maxRecDepth 20000 in
theorem tX8_rests (l : Launch) (D : va_G) (cy : Nat → ClassId) (z : Nat) (σ : hpMem) (a : Int) (ha : hpR a) (b : Int) (hb : hpR b) (h_3_10 : σ 3 10 = 0) : hpM l D cy z yX8_rests cX8_rests 5 (some .int) rX8_rests [.ref (z + 0), .int (hpI a), .int (hpI b)] σ (pX8_rests z σ a b) := by
  obtain ⟨ha1, ha2⟩ := ha
  obtain ⟨hb1, hb2⟩ := hb
  refine hp_met rfl (Nat.le_of_ble_eq_true rfl) (fun p e s m below meth c C hr hk => ?_)
  refine h_aload_n C dX8_rests_0 0 rfl rfl ?_
  refine h_iload_n C dX8_rests_1 1 rfl rfl ?_
  refine h_callV (As := [.int (hpI a)]) (rest := []) C yyX8_isCart wd_557 (tX8_isCart l D cy z _ a ⟨by omega, by omega⟩ h_3_10) kd_0 rfl rfl ⟨rfl, rfl, Nat.le_of_ble_eq_true rfl, Nat.le_of_ble_eq_true rfl⟩ ⟨Nat.le_of_ble_eq_true rfl, Nat.le_of_ble_eq_true rfl⟩ (Nat.le_of_ble_eq_true rfl) dX8_rests_2 (fun r1 τ1 hp1 => ?_)
  obtain ⟨rfl, rfl⟩ := hp1
  show hpV _ _ _ _ _ _ _ _ _ _ _ _ _ _ _ _ _ _ _ _ _ (_ :: _)
  refine h_if_eq (tgt := 21) C dX8_rests_5 (by decide) ⟨by decide, by decide⟩ (fun h2 => ?_) (fun h2 => ?_)
  · refine h_bipush C dX8_rests_21 (by decide) ?_
    refine h_ireturn C hr hk dX8_rests_23 ?_
    exact ⟨rfl, rfl⟩
  · exfalso; omega
abbrev rX8_gets : Room := { frames := 1, cells := 0, slots := 0, locals := 21 }
abbrev pX8_gets (z : Nat) (σ : hpMem) (a : Int) (b : Int) (c0 : Int) (d0 : Int) (e0 : Int) : Option Value → hpMem → Prop := fun r τ => r = some (.int (hpI (-1000))) ∧ σ = τ
set_option maxHeartbeats 4000000 in
set_option maxRecDepth 20000 in
theorem tX8_gets (l : Launch) (D : va_G) (cy : Nat → ClassId) (z : Nat) (σ : hpMem) (a : Int) (ha : hpR a) (b : Int) (hb : hpR b) (c0 : Int) (hc0 : hpR c0) (d0 : Int) (hd0 : hpR d0) (e0 : Int) (he0 : hpR e0) (h_3_10 : σ 3 10 = 0) : hpM l D cy z yX8_gets cX8_gets 8 (some .int) rX8_gets [.ref (z + 0), .int (hpI a), .int (hpI b), .int (hpI c0), .int (hpI d0), .int (hpI e0)] σ (pX8_gets z σ a b c0 d0 e0) := by
  obtain ⟨ha1, ha2⟩ := ha
  obtain ⟨hb1, hb2⟩ := hb
  obtain ⟨hc01, hc02⟩ := hc0
  obtain ⟨hd01, hd02⟩ := hd0
  obtain ⟨he01, he02⟩ := he0
  refine hp_met rfl (Nat.le_of_ble_eq_true rfl) (fun p e s m below meth c C hr hk => ?_)
  refine h_aload_n C dX8_gets_0 0 rfl rfl ?_
  refine h_iload_n C dX8_gets_1 1 rfl rfl ?_
  refine h_callV (As := [.int (hpI a)]) (rest := []) C yyX8_isCart wd_557 (tX8_isCart l D cy z _ a ⟨by omega, by omega⟩ h_3_10) kd_0 rfl rfl ⟨rfl, rfl, Nat.le_of_ble_eq_true rfl, Nat.le_of_ble_eq_true rfl⟩ ⟨Nat.le_of_ble_eq_true rfl, Nat.le_of_ble_eq_true rfl⟩ (Nat.le_of_ble_eq_true rfl) dX8_gets_2 (fun r1 τ1 hp1 => ?_)
  obtain ⟨rfl, rfl⟩ := hp1
  show hpV _ _ _ _ _ _ _ _ _ _ _ _ _ _ _ _ _ _ _ _ _ (_ :: _)
  refine h_if_eq (tgt := 25) C dX8_gets_5 (by decide) ⟨by decide, by decide⟩ (fun h2 => ?_) (fun h2 => ?_)
  · refine h_iconst C dX8_gets_25 ?_
    refine h_istore (lv' := [(6, .int (hpI 0)), (0, .ref (z + 0)), (1, .int (hpI a)), (2, .int (hpI b)), (3, .int (hpI c0)), (4, .int (hpI d0)), (5, .int (hpI e0))]) C dX8_gets_26 (by decide) rfl ?_
    refine h_iload C dX8_gets_28 0 rfl ?_
    refine h_if_eq (tgt := 56) C dX8_gets_30 (by decide) ⟨by decide, by decide⟩ (fun h3 => ?_) (fun h3 => ?_)
    · refine h_sipush C dX8_gets_56 (by decide) ?_
      refine h_ireturn C hr hk dX8_gets_59 ?_
      exact ⟨rfl, rfl⟩
    · exfalso; omega
  · exfalso; omega
abbrev rX8_chance : Room := { frames := 4, cells := 0, slots := 0, locals := 83 }
abbrev pX8_chance (z : Nat) (σ : hpMem) (a : Int) (b : Int) (c0 : Int) : Option Value → hpMem → Prop := fun r τ => r = some (.long (hpJ (-2))) ∧ σ = τ
set_option maxHeartbeats 4000000 in
set_option maxRecDepth 20000 in
theorem tX8_chance (l : Launch) (D : va_G) (cy : Nat → ClassId) (z : Nat) (σ : hpMem) (a : Int) (ha : hpR a) (b : Int) (hb : hpR b) (c0 : Int) (hc0 : hpR c0) (h_3_8 : σ 3 8 = 0) : hpM l D cy z yX8_chance cX8_chance 4 (some .long) rX8_chance [.ref (z + 0), .int (hpI a), .int (hpI b), .int (hpI c0)] σ (pX8_chance z σ a b c0) := by
  obtain ⟨ha1, ha2⟩ := ha
  obtain ⟨hb1, hb2⟩ := hb
  obtain ⟨hc01, hc02⟩ := hc0
  refine hp_met rfl (Nat.le_of_ble_eq_true rfl) (fun p e s m below meth c C hr hk => ?_)
  refine h_aload_n C dX8_chance_0 0 rfl rfl ?_
  refine h_iload_n C dX8_chance_1 1 rfl rfl ?_
  refine h_callV (As := [.int (hpI a)]) (rest := []) C yyX8_isChanceDay wd_1135 (tX8_isChanceDay l D cy z _ a ⟨by omega, by omega⟩ h_3_8) kd_0 rfl rfl ⟨rfl, rfl, Nat.le_of_ble_eq_true rfl, Nat.le_of_ble_eq_true rfl⟩ ⟨Nat.le_of_ble_eq_true rfl, Nat.le_of_ble_eq_true rfl⟩ (Nat.le_of_ble_eq_true rfl) dX8_chance_2 (fun r1 τ1 hp1 => ?_)
  obtain ⟨rfl, rfl⟩ := hp1
  show hpV _ _ _ _ _ _ _ _ _ _ _ _ _ _ _ _ _ _ _ _ _ (_ :: _)
  refine h_if_eq (tgt := 26) C dX8_chance_5 (by decide) ⟨by decide, by decide⟩ (fun h2 => ?_) (fun h2 => ?_)
  · refine h_ldc2 C (-2) wd_1139 (by decide) dX8_chance_26 ?_
    refine h_lreturn C hr hk dX8_chance_29 ?_
    exact ⟨rfl, rfl⟩
  · exfalso; omega
abbrev rX8_mean : Room := { frames := 4, cells := 0, slots := 0, locals := 83 }
abbrev pX8_mean (z : Nat) (σ : hpMem) (a : Int) (b : Int) : Option Value → hpMem → Prop := fun r τ => r = some (.long (hpJ (-2))) ∧ σ = τ
set_option maxHeartbeats 4000000 in
set_option maxRecDepth 20000 in
theorem tX8_mean (l : Launch) (D : va_G) (cy : Nat → ClassId) (z : Nat) (σ : hpMem) (a : Int) (ha : hpR a) (b : Int) (hb : hpR b) (h_3_8 : σ 3 8 = 0) : hpM l D cy z yX8_mean cX8_mean 3 (some .long) rX8_mean [.ref (z + 0), .int (hpI a), .int (hpI b)] σ (pX8_mean z σ a b) := by
  obtain ⟨ha1, ha2⟩ := ha
  obtain ⟨hb1, hb2⟩ := hb
  refine hp_met rfl (Nat.le_of_ble_eq_true rfl) (fun p e s m below meth c C hr hk => ?_)
  refine h_aload_n C dX8_mean_0 0 rfl rfl ?_
  refine h_iload_n C dX8_mean_1 1 rfl rfl ?_
  refine h_callV (As := [.int (hpI a)]) (rest := []) C yyX8_isChanceDay wd_1135 (tX8_isChanceDay l D cy z _ a ⟨by omega, by omega⟩ h_3_8) kd_0 rfl rfl ⟨rfl, rfl, Nat.le_of_ble_eq_true rfl, Nat.le_of_ble_eq_true rfl⟩ ⟨Nat.le_of_ble_eq_true rfl, Nat.le_of_ble_eq_true rfl⟩ (Nat.le_of_ble_eq_true rfl) dX8_mean_2 (fun r1 τ1 hp1 => ?_)
  obtain ⟨rfl, rfl⟩ := hp1
  show hpV _ _ _ _ _ _ _ _ _ _ _ _ _ _ _ _ _ _ _ _ _ (_ :: _)
  refine h_if_eq (tgt := 15) C dX8_mean_5 (by decide) ⟨by decide, by decide⟩ (fun h2 => ?_) (fun h2 => ?_)
  · refine h_ldc2 C (-2) wd_1139 (by decide) dX8_mean_15 ?_
    refine h_lreturn C hr hk dX8_mean_18 ?_
    exact ⟨rfl, rfl⟩
  · exfalso; omega
abbrev rX8_drawn : Room := { frames := 1, cells := 0, slots := 0, locals := 20 }
abbrev pX8_drawn (z : Nat) (σ : hpMem) (a : Int) (b : Int) : Option Value → hpMem → Prop := fun r τ => r = some (.int (hpI (-2))) ∧ σ = τ
set_option maxHeartbeats 4000000 in
set_option maxRecDepth 20000 in
theorem tX8_drawn (l : Launch) (D : va_G) (cy : Nat → ClassId) (z : Nat) (σ : hpMem) (a : Int) (ha : hpR a) (b : Int) (hb : hpR b) (h_3_8 : σ 3 8 = 0) : hpM l D cy z yX8_drawn cX8_drawn 4 (some .int) rX8_drawn [.ref (z + 0), .int (hpI a), .int (hpI b)] σ (pX8_drawn z σ a b) := by
  obtain ⟨ha1, ha2⟩ := ha
  obtain ⟨hb1, hb2⟩ := hb
  refine hp_met rfl (Nat.le_of_ble_eq_true rfl) (fun p e s m below meth c C hr hk => ?_)
  refine h_aload_n C dX8_drawn_0 0 rfl rfl ?_
  refine h_callV (As := []) (rest := []) C yyX8_noMoor wd_572 (tX8_noMoor l D cy z _ h_3_8) kd_0 rfl rfl ⟨rfl, rfl, Nat.le_of_ble_eq_true rfl, Nat.le_of_ble_eq_true rfl⟩ ⟨Nat.le_of_ble_eq_true rfl, Nat.le_of_ble_eq_true rfl⟩ (Nat.le_of_ble_eq_true rfl) dX8_drawn_1 (fun r1 τ1 hp1 => ?_)
  obtain ⟨rfl, rfl⟩ := hp1
  show hpV _ _ _ _ _ _ _ _ _ _ _ _ _ _ _ _ _ _ _ _ _ (_ :: _)
  refine h_if_ne (tgt := 25) C dX8_drawn_4 (by decide) ⟨by decide, by decide⟩ (fun h2 => ?_) (fun h2 => ?_)
  · refine h_bipush C dX8_drawn_25 (by decide) ?_
    refine h_ireturn C hr hk dX8_drawn_27 ?_
    exact ⟨rfl, rfl⟩
  · exfalso; omega
abbrev rX8_luck : Room := { frames := 1, cells := 0, slots := 0, locals := 20 }
abbrev pX8_luck (z : Nat) (σ : hpMem) (a : Int) (b : Int) (c0 : Int) : Option Value → hpMem → Prop := fun r τ => r = some (.int (hpI (-2))) ∧ σ = τ
set_option maxHeartbeats 4000000 in
set_option maxRecDepth 20000 in
theorem tX8_luck (l : Launch) (D : va_G) (cy : Nat → ClassId) (z : Nat) (σ : hpMem) (a : Int) (ha : hpR a) (b : Int) (hb : hpR b) (c0 : Int) (hc0 : hpR c0) (h_3_8 : σ 3 8 = 0) : hpM l D cy z yX8_luck cX8_luck 7 (some .int) rX8_luck [.ref (z + 0), .int (hpI a), .int (hpI b), .int (hpI c0)] σ (pX8_luck z σ a b c0) := by
  obtain ⟨ha1, ha2⟩ := ha
  obtain ⟨hb1, hb2⟩ := hb
  obtain ⟨hc01, hc02⟩ := hc0
  refine hp_met rfl (Nat.le_of_ble_eq_true rfl) (fun p e s m below meth c C hr hk => ?_)
  refine h_iload_n C dX8_luck_0 1 rfl rfl ?_
  refine h_if_lt (tgt := 26) C dX8_luck_1 (by decide) ⟨by omega, by omega⟩ (fun h1 => ?_) (fun h1 => ?_)
  · refine h_iconst C dX8_luck_26 ?_
    refine h_istore (lv' := [(4, .int (hpI 0)), (0, .ref (z + 0)), (1, .int (hpI a)), (2, .int (hpI b)), (3, .int (hpI c0))]) C dX8_luck_27 (by decide) rfl ?_
    refine h_aload_n C dX8_luck_29 1 rfl rfl ?_
    refine h_callV (As := []) (rest := []) C yyX8_noMoor wd_572 (tX8_noMoor l D cy z _ h_3_8) kd_0 rfl rfl ⟨rfl, rfl, Nat.le_of_ble_eq_true rfl, Nat.le_of_ble_eq_true rfl⟩ ⟨Nat.le_of_ble_eq_true rfl, Nat.le_of_ble_eq_true rfl⟩ (Nat.le_of_ble_eq_true rfl) dX8_luck_30 (fun r2 τ2 hp2 => ?_)
    obtain ⟨rfl, rfl⟩ := hp2
    show hpV _ _ _ _ _ _ _ _ _ _ _ _ _ _ _ _ _ _ _ _ _ (_ :: _)
    refine h_if_ne (tgt := 52) C dX8_luck_33 (by decide) ⟨by decide, by decide⟩ (fun h3 => ?_) (fun h3 => ?_)
    · refine h_bipush C dX8_luck_52 (by decide) ?_
      refine h_ireturn C hr hk dX8_luck_54 ?_
      exact ⟨rfl, rfl⟩
    · exfalso; omega
  · refine h_iload_n C dX8_luck_4 1 rfl rfl ?_
    refine h_ldcw C 2000000000 wd_1190 (by decide) dX8_luck_5 ?_
    refine h_icmp_gt (tgt := 26) C dX8_luck_8 (by decide) ⟨by omega, by omega⟩ ⟨by decide, by decide⟩ (fun h4 => ?_) (fun h4 => ?_)
    · refine h_iconst C dX8_luck_26 ?_
      refine h_istore (lv' := [(4, .int (hpI 0)), (0, .ref (z + 0)), (1, .int (hpI a)), (2, .int (hpI b)), (3, .int (hpI c0))]) C dX8_luck_27 (by decide) rfl ?_
      refine h_aload_n C dX8_luck_29 1 rfl rfl ?_
      refine h_callV (As := []) (rest := []) C yyX8_noMoor wd_572 (tX8_noMoor l D cy z _ h_3_8) kd_0 rfl rfl ⟨rfl, rfl, Nat.le_of_ble_eq_true rfl, Nat.le_of_ble_eq_true rfl⟩ ⟨Nat.le_of_ble_eq_true rfl, Nat.le_of_ble_eq_true rfl⟩ (Nat.le_of_ble_eq_true rfl) dX8_luck_30 (fun r5 τ5 hp5 => ?_)
      obtain ⟨rfl, rfl⟩ := hp5
      show hpV _ _ _ _ _ _ _ _ _ _ _ _ _ _ _ _ _ _ _ _ _ (_ :: _)
      refine h_if_ne (tgt := 52) C dX8_luck_33 (by decide) ⟨by decide, by decide⟩ (fun h6 => ?_) (fun h6 => ?_)
      · refine h_bipush C dX8_luck_52 (by decide) ?_
        refine h_ireturn C hr hk dX8_luck_54 ?_
        exact ⟨rfl, rfl⟩
      · exfalso; omega
    · refine h_iload_n C dX8_luck_11 2 rfl rfl ?_
      refine h_iconst C dX8_luck_12 ?_
      refine h_icmp_lt (tgt := 26) C dX8_luck_13 (by decide) ⟨by omega, by omega⟩ ⟨by decide, by decide⟩ (fun h7 => ?_) (fun h7 => ?_)
      · refine h_iconst C dX8_luck_26 ?_
        refine h_istore (lv' := [(4, .int (hpI 0)), (0, .ref (z + 0)), (1, .int (hpI a)), (2, .int (hpI b)), (3, .int (hpI c0))]) C dX8_luck_27 (by decide) rfl ?_
        refine h_aload_n C dX8_luck_29 1 rfl rfl ?_
        refine h_callV (As := []) (rest := []) C yyX8_noMoor wd_572 (tX8_noMoor l D cy z _ h_3_8) kd_0 rfl rfl ⟨rfl, rfl, Nat.le_of_ble_eq_true rfl, Nat.le_of_ble_eq_true rfl⟩ ⟨Nat.le_of_ble_eq_true rfl, Nat.le_of_ble_eq_true rfl⟩ (Nat.le_of_ble_eq_true rfl) dX8_luck_30 (fun r8 τ8 hp8 => ?_)
        obtain ⟨rfl, rfl⟩ := hp8
        show hpV _ _ _ _ _ _ _ _ _ _ _ _ _ _ _ _ _ _ _ _ _ (_ :: _)
        refine h_if_ne (tgt := 52) C dX8_luck_33 (by decide) ⟨by decide, by decide⟩ (fun h9 => ?_) (fun h9 => ?_)
        · refine h_bipush C dX8_luck_52 (by decide) ?_
          refine h_ireturn C hr hk dX8_luck_54 ?_
          exact ⟨rfl, rfl⟩
        · exfalso; omega
      · refine h_iload_n C dX8_luck_16 2 rfl rfl ?_
        refine h_bipush C dX8_luck_17 (by decide) ?_
        refine h_icmp_gt (tgt := 26) C dX8_luck_19 (by decide) ⟨by omega, by omega⟩ ⟨by decide, by decide⟩ (fun h10 => ?_) (fun h10 => ?_)
        · refine h_iconst C dX8_luck_26 ?_
          refine h_istore (lv' := [(4, .int (hpI 0)), (0, .ref (z + 0)), (1, .int (hpI a)), (2, .int (hpI b)), (3, .int (hpI c0))]) C dX8_luck_27 (by decide) rfl ?_
          refine h_aload_n C dX8_luck_29 1 rfl rfl ?_
          refine h_callV (As := []) (rest := []) C yyX8_noMoor wd_572 (tX8_noMoor l D cy z _ h_3_8) kd_0 rfl rfl ⟨rfl, rfl, Nat.le_of_ble_eq_true rfl, Nat.le_of_ble_eq_true rfl⟩ ⟨Nat.le_of_ble_eq_true rfl, Nat.le_of_ble_eq_true rfl⟩ (Nat.le_of_ble_eq_true rfl) dX8_luck_30 (fun r11 τ11 hp11 => ?_)
          obtain ⟨rfl, rfl⟩ := hp11
          show hpV _ _ _ _ _ _ _ _ _ _ _ _ _ _ _ _ _ _ _ _ _ (_ :: _)
          refine h_if_ne (tgt := 52) C dX8_luck_33 (by decide) ⟨by decide, by decide⟩ (fun h12 => ?_) (fun h12 => ?_)
          · refine h_bipush C dX8_luck_52 (by decide) ?_
            refine h_ireturn C hr hk dX8_luck_54 ?_
            exact ⟨rfl, rfl⟩
          · exfalso; omega
        · refine h_iconst C dX8_luck_22 ?_
          refine h_goto (tgt := 27) C dX8_luck_23 (by decide) ?_
          refine h_istore (lv' := [(4, .int (hpI 1)), (0, .ref (z + 0)), (1, .int (hpI a)), (2, .int (hpI b)), (3, .int (hpI c0))]) C dX8_luck_27 (by decide) rfl ?_
          refine h_aload_n C dX8_luck_29 1 rfl rfl ?_
          refine h_callV (As := []) (rest := []) C yyX8_noMoor wd_572 (tX8_noMoor l D cy z _ h_3_8) kd_0 rfl rfl ⟨rfl, rfl, Nat.le_of_ble_eq_true rfl, Nat.le_of_ble_eq_true rfl⟩ ⟨Nat.le_of_ble_eq_true rfl, Nat.le_of_ble_eq_true rfl⟩ (Nat.le_of_ble_eq_true rfl) dX8_luck_30 (fun r13 τ13 hp13 => ?_)
          obtain ⟨rfl, rfl⟩ := hp13
          show hpV _ _ _ _ _ _ _ _ _ _ _ _ _ _ _ _ _ _ _ _ _ (_ :: _)
          refine h_if_ne (tgt := 52) C dX8_luck_33 (by decide) ⟨by decide, by decide⟩ (fun h14 => ?_) (fun h14 => ?_)
          · refine h_bipush C dX8_luck_52 (by decide) ?_
            refine h_ireturn C hr hk dX8_luck_54 ?_
            exact ⟨rfl, rfl⟩
          · exfalso; omega
abbrev rX8_rate : Room := { frames := 1, cells := 0, slots := 0, locals := 21 }
abbrev pX8_rate (z : Nat) (σ : hpMem) (a : Int) (b : Int) : Option Value → hpMem → Prop := fun r τ => r = some (.int (hpI (-2))) ∧ σ = τ
set_option maxHeartbeats 4000000 in
set_option maxRecDepth 20000 in
theorem tX8_rate (l : Launch) (D : va_G) (cy : Nat → ClassId) (z : Nat) (σ : hpMem) (a : Int) (ha : hpR a) (b : Int) (hb : hpR b) (h_3_9 : σ 3 9 = 0) : hpM l D cy z yX8_rate cX8_rate 4 (some .int) rX8_rate [.ref (z + 0), .int (hpI a), .int (hpI b)] σ (pX8_rate z σ a b) := by
  obtain ⟨ha1, ha2⟩ := ha
  obtain ⟨hb1, hb2⟩ := hb
  refine hp_met rfl (Nat.le_of_ble_eq_true rfl) (fun p e s m below meth c C hr hk => ?_)
  refine h_aload_n C dX8_rate_0 0 rfl rfl ?_
  refine h_iload_n C dX8_rate_1 1 rfl rfl ?_
  refine h_callV (As := [.int (hpI a)]) (rest := []) C yyX8_isTold wd_549 (tX8_isTold l D cy z _ a ⟨by omega, by omega⟩ h_3_9) kd_0 rfl rfl ⟨rfl, rfl, Nat.le_of_ble_eq_true rfl, Nat.le_of_ble_eq_true rfl⟩ ⟨Nat.le_of_ble_eq_true rfl, Nat.le_of_ble_eq_true rfl⟩ (Nat.le_of_ble_eq_true rfl) dX8_rate_2 (fun r1 τ1 hp1 => ?_)
  obtain ⟨rfl, rfl⟩ := hp1
  show hpV _ _ _ _ _ _ _ _ _ _ _ _ _ _ _ _ _ _ _ _ _ (_ :: _)
  refine h_if_eq (tgt := 19) C dX8_rate_5 (by decide) ⟨by decide, by decide⟩ (fun h2 => ?_) (fun h2 => ?_)
  · refine h_bipush C dX8_rate_19 (by decide) ?_
    refine h_ireturn C hr hk dX8_rate_21 ?_
    exact ⟨rfl, rfl⟩
  · exfalso; omega
abbrev rX8_count : Room := { frames := 2, cells := 0, slots := 0, locals := 42 }
abbrev pX8_count (z : Nat) (σ : hpMem) (n : Int) : Option Value → hpMem → Prop := fun r τ => (∃ x : Int, r = some (.int (hpI x)) ∧ hpR x ∧ ((0 ≤ n ∧ n ≤ 8 ∧ x = 0) ∨ ((n < 0 ∨ 8 < n) ∧ x = -1))) ∧ σ = τ
set_option maxHeartbeats 4000000 in
set_option maxRecDepth 20000 in
theorem tX8_count (l : Launch) (D : va_G) (cy : Nat → ClassId) (z : Nat) (σ : hpMem) (n : Int) (hn : hpR n) (h_3_5 : σ 3 5 = 0) (h_3_6 : σ 3 6 = 0) (h_3_7 : σ 3 7 = 0) (h_3_8 : σ 3 8 = 0) (h_3_9 : σ 3 9 = 0) (h_3_10 : σ 3 10 = 0) (h_3_11 : σ 3 11 = 0) (h_1_1 : σ 1 1 = 0) (h_187_1 : σ 187 1 = 0) (h_189_1 : σ 189 1 = 0) (h_191_1 : σ 191 1 = 0) (h_193_1 : σ 193 1 = 0) : hpM l D cy z yX8_count cX8_count 2 (some .int) rX8_count [.ref (z + 0), .int (hpI n)] σ (pX8_count z σ n) := by
  obtain ⟨hn1, hn2⟩ := hn
  refine hp_met rfl (Nat.le_of_ble_eq_true rfl) (fun p e s m below meth c C hr hk => ?_)
  refine h_iload_n C dX8_count_0 1 rfl rfl ?_
  rcases (show n = 0 ∨ n = 1 ∨ n = 2 ∨ n = 3 ∨ n = 4 ∨ n = 5 ∨ n = 6 ∨ n = 7 ∨ n = 8 ∨ (n < 0 ∨ 8 < n) by omega) with rfl | rfl | rfl | rfl | rfl | rfl | rfl | rfl | rfl | h_out
  · refine h_tableIn (tgt := 52) C dX8_count_1 ⟨by decide, by decide⟩ (by decide) (by decide) rfl (by decide) ?_
    refine h_aload_n C dX8_count_52 0 rfl rfl ?_
    refine h_get C O8 1 kd_0 (by decide) wd_350 dX8_count_53 fr_0_1 ?_
    refine h_getN C O1 5 kd_3 (by decide) nw_85 dX8_count_56 (fi_3_5 h_3_5) ?_
    refine h_ireturn C hr hk dX8_count_59 ?_
    exact ⟨⟨_, rfl, ⟨by decide, by decide⟩, by omega⟩, rfl⟩
  · refine h_tableIn (tgt := 60) C dX8_count_1 ⟨by decide, by decide⟩ (by decide) (by decide) rfl (by decide) ?_
    refine h_aload_n C dX8_count_60 0 rfl rfl ?_
    refine h_get C O8 1 kd_0 (by decide) wd_350 dX8_count_61 fr_0_1 ?_
    refine h_getN C O1 6 kd_3 (by decide) nw_89 dX8_count_64 (fi_3_6 h_3_6) ?_
    refine h_ireturn C hr hk dX8_count_67 ?_
    exact ⟨⟨_, rfl, ⟨by decide, by decide⟩, by omega⟩, rfl⟩
  · refine h_tableIn (tgt := 68) C dX8_count_1 ⟨by decide, by decide⟩ (by decide) (by decide) rfl (by decide) ?_
    refine h_aload_n C dX8_count_68 0 rfl rfl ?_
    refine h_get C O8 1 kd_0 (by decide) wd_350 dX8_count_69 fr_0_1 ?_
    refine h_getN C O1 7 kd_3 (by decide) nw_92 dX8_count_72 (fi_3_7 h_3_7) ?_
    refine h_ireturn C hr hk dX8_count_75 ?_
    exact ⟨⟨_, rfl, ⟨by decide, by decide⟩, by omega⟩, rfl⟩
  · refine h_tableIn (tgt := 76) C dX8_count_1 ⟨by decide, by decide⟩ (by decide) (by decide) rfl (by decide) ?_
    refine h_aload_n C dX8_count_76 0 rfl rfl ?_
    refine h_get C O8 1 kd_0 (by decide) wd_350 dX8_count_77 fr_0_1 ?_
    refine h_getN C O1 9 kd_3 (by decide) nw_99 dX8_count_80 (fi_3_9 h_3_9) ?_
    refine h_ireturn C hr hk dX8_count_83 ?_
    exact ⟨⟨_, rfl, ⟨by decide, by decide⟩, by omega⟩, rfl⟩
  · refine h_tableIn (tgt := 84) C dX8_count_1 ⟨by decide, by decide⟩ (by decide) (by decide) rfl (by decide) ?_
    refine h_aload_n C dX8_count_84 0 rfl rfl ?_
    refine h_get C O8 1 kd_0 (by decide) wd_350 dX8_count_85 fr_0_1 ?_
    refine h_getN C O1 10 kd_3 (by decide) nw_103 dX8_count_88 (fi_3_10 h_3_10) ?_
    refine h_ireturn C hr hk dX8_count_91 ?_
    exact ⟨⟨_, rfl, ⟨by decide, by decide⟩, by omega⟩, rfl⟩
  · refine h_tableIn (tgt := 92) C dX8_count_1 ⟨by decide, by decide⟩ (by decide) (by decide) rfl (by decide) ?_
    refine h_aload_n C dX8_count_92 0 rfl rfl ?_
    refine h_get C O8 1 kd_0 (by decide) wd_350 dX8_count_93 fr_0_1 ?_
    refine h_getN C O1 11 kd_3 (by decide) nw_106 dX8_count_96 (fi_3_11 h_3_11) ?_
    refine h_ireturn C hr hk dX8_count_99 ?_
    exact ⟨⟨_, rfl, ⟨by decide, by decide⟩, by omega⟩, rfl⟩
  · refine h_tableIn (tgt := 100) C dX8_count_1 ⟨by decide, by decide⟩ (by decide) (by decide) rfl (by decide) ?_
    refine h_aload_n C dX8_count_100 0 rfl rfl ?_
    refine h_get C O8 1 kd_0 (by decide) wd_350 dX8_count_101 fr_0_1 ?_
    refine h_getN C O1 8 kd_3 (by decide) nw_95 dX8_count_104 (fi_3_8 h_3_8) ?_
    refine h_ireturn C hr hk dX8_count_107 ?_
    exact ⟨⟨_, rfl, ⟨by decide, by decide⟩, by omega⟩, rfl⟩
  · refine h_tableIn (tgt := 108) C dX8_count_1 ⟨by decide, by decide⟩ (by decide) (by decide) rfl (by decide) ?_
    refine h_aload_n C dX8_count_108 0 rfl rfl ?_
    refine h_get C O8 0 kd_0 (by decide) wd_349 dX8_count_109 fr_0_0 ?_
    refine h_getN C O7 1 kd_1 (by decide) nw_33 dX8_count_112 (fi_1_1 h_1_1) ?_
    refine h_ireturn C hr hk dX8_count_115 ?_
    exact ⟨⟨_, rfl, ⟨by decide, by decide⟩, by omega⟩, rfl⟩
  · refine h_tableIn (tgt := 116) C dX8_count_1 ⟨by decide, by decide⟩ (by decide) (by decide) rfl (by decide) ?_
    refine h_aload_n C dX8_count_116 0 rfl rfl ?_
    refine h_callV (As := []) (rest := []) C yyX8_slotsWithRow wd_1215 (tX8_slotsWithRow l D cy z _ h_187_1 h_189_1 h_191_1 h_193_1) kd_0 rfl rfl ⟨rfl, rfl, Nat.le_of_ble_eq_true rfl, Nat.le_of_ble_eq_true rfl⟩ ⟨Nat.le_of_ble_eq_true rfl, Nat.le_of_ble_eq_true rfl⟩ (Nat.le_of_ble_eq_true rfl) dX8_count_117 (fun r1 τ1 hp1 => ?_)
    obtain ⟨rfl, rfl⟩ := hp1
    show hpV _ _ _ _ _ _ _ _ _ _ _ _ _ _ _ _ _ _ _ _ _ (_ :: _)
    refine h_ireturn C hr hk dX8_count_120 ?_
    exact ⟨⟨_, rfl, ⟨by decide, by decide⟩, by omega⟩, rfl⟩
  · refine h_tableOut (tgt := 121) C dX8_count_1 ⟨by omega, by omega⟩ h_out (by decide) ?_
    refine h_iconst C dX8_count_121 ?_
    refine h_ireturn C hr hk dX8_count_122 ?_
    exact ⟨⟨_, rfl, ⟨by decide, by decide⟩, by omega⟩, rfl⟩
abbrev rX8_image : Room := { frames := 2, cells := 0, slots := 0, locals := 81 }
abbrev pX8_image (z : Nat) (σ : hpMem) (n : Int) : Option Value → hpMem → Prop := fun r τ => (∃ x : Int, r = some (.int (hpI x)) ∧ hpR x ∧ ((0 ≤ n ∧ n ≤ 2 ∧ x = 0) ∨ ((n < 0 ∨ 2 < n) ∧ x = -2))) ∧ (∀ j : Nat, j ≠ 169 → j ≠ 170 → j ≠ 171 → j ≠ 172 → j ≠ 173 → j ≠ 174 → j ≠ 175 → j ≠ 176 → j ≠ 177 → j ≠ 178 → j ≠ 179 → j ≠ 180 → j ≠ 181 → j ≠ 182 → j ≠ 183 → j ≠ 184 → j ≠ 185 → j ≠ 186 → τ j = σ j)
set_option maxHeartbeats 4000000 in
set_option maxRecDepth 20000 in
theorem tX8_image (l : Launch) (D : va_G) (cy : Nat → ClassId) (z : Nat) (σ : hpMem) (n : Int) (hn : hpR n) (h_3_8 : σ 3 8 = 0) : hpM l D cy z yX8_image cX8_image 2 (some .int) rX8_image [.ref (z + 0), .int (hpI n)] σ (pX8_image z σ n) := by
  obtain ⟨hn1, hn2⟩ := hn
  refine hp_met rfl (Nat.le_of_ble_eq_true rfl) (fun p e s m below meth c C hr hk => ?_)
  refine h_iload_n C dX8_image_0 1 rfl rfl ?_
  refine h_if_lt (tgt := 9) C dX8_image_1 (by decide) ⟨by omega, by omega⟩ (fun h1 => ?_) (fun h1 => ?_)
  · refine h_bipush C dX8_image_9 (by decide) ?_
    refine h_ireturn C hr hk dX8_image_11 ?_
    exact ⟨⟨_, rfl, ⟨by decide, by decide⟩, by omega⟩, (fun j hj0 hj1 hj2 hj3 hj4 hj5 hj6 hj7 hj8 hj9 hj10 hj11 hj12 hj13 hj14 hj15 hj16 hj17 => rfl)⟩
  · refine h_iload_n C dX8_image_4 1 rfl rfl ?_
    refine h_iconst C dX8_image_5 ?_
    refine h_icmp_lt (tgt := 12) C dX8_image_6 (by decide) ⟨by omega, by omega⟩ ⟨by decide, by decide⟩ (fun h2 => ?_) (fun h2 => ?_)
    · refine h_aload_n C dX8_image_12 0 rfl rfl ?_
      refine h_get C O8 3 kd_0 (by decide) wd_352 dX8_image_13 fr_0_3 ?_
      refine h_iload_n C dX8_image_16 1 rfl rfl ?_
      rcases (show n = 0 ∨ n = 1 ∨ n = 2 by omega) with rfl | rfl | rfl
      · refine h_aaload (t0 := 4) C dX8_image_17 kd_15 (by decide) (by decide) rfl 0 rfl (by rw [ln_15]; decide) (by decide +kernel : hprf 15 0 = 169) ?_
        refine h_aload_n C dX8_image_18 0 rfl rfl ?_
        refine h_get C O8 1 kd_0 (by decide) wd_350 dX8_image_19 fr_0_1 ?_
        refine h_callVN (As := [.ref (z + 3)]) (rest := []) C yyX1_become nw_530 (tX1_become_169 l D cy z _ h_3_8) kd_169 rfl rfl ⟨rfl, rfl, Nat.le_of_ble_eq_true rfl, Nat.le_of_ble_eq_true rfl⟩ ⟨Nat.le_of_ble_eq_true rfl, Nat.le_of_ble_eq_true rfl⟩ (Nat.le_of_ble_eq_true rfl) dX8_image_22 (fun r3 τ3 hp3 => ?_)
        obtain ⟨rfl, hF3, hc3_0⟩ := hp3
        show hpV _ _ _ _ _ _ _ _ _ _ _ _ _ _ _ _ _ _ _ _ _ []
        refine h_aload_n C dX8_image_25 0 rfl rfl ?_
        refine h_get C O8 3 kd_0 (by decide) wd_352 dX8_image_26 fr_0_3 ?_
        refine h_iload_n C dX8_image_29 1 rfl rfl ?_
        refine h_aaload (t0 := 4) C dX8_image_30 kd_15 (by decide) (by decide) rfl 0 rfl (by rw [ln_15]; decide) (by decide +kernel : hprf 15 0 = 169) ?_
        refine h_iconst C dX8_image_31 ?_
        refine h_putN C O1 12 kd_169 (by decide) rfl nw_107 dX8_image_32 (by decide) rfl (fi_169_12 hpu_at) ?_
        refine h_iconst C dX8_image_35 ?_
        refine h_ireturn C hr hk dX8_image_36 ?_
        exact ⟨⟨_, rfl, ⟨by decide, by decide⟩, by omega⟩, (fun j hj0 hj1 hj2 hj3 hj4 hj5 hj6 hj7 hj8 hj9 hj10 hj11 hj12 hj13 hj14 hj15 hj16 hj17 => ((hpw_ne hj0).trans ((hF3 j hj0 hj1 hj2 hj3 hj4 hj5).trans rfl)))⟩
      · refine h_aaload (t0 := 4) C dX8_image_17 kd_15 (by decide) (by decide) rfl 1 rfl (by rw [ln_15]; decide) (by decide +kernel : hprf 15 1 = 175) ?_
        refine h_aload_n C dX8_image_18 0 rfl rfl ?_
        refine h_get C O8 1 kd_0 (by decide) wd_350 dX8_image_19 fr_0_1 ?_
        refine h_callVN (As := [.ref (z + 3)]) (rest := []) C yyX1_become nw_530 (tX1_become_175 l D cy z _ h_3_8) kd_175 rfl rfl ⟨rfl, rfl, Nat.le_of_ble_eq_true rfl, Nat.le_of_ble_eq_true rfl⟩ ⟨Nat.le_of_ble_eq_true rfl, Nat.le_of_ble_eq_true rfl⟩ (Nat.le_of_ble_eq_true rfl) dX8_image_22 (fun r4 τ4 hp4 => ?_)
        obtain ⟨rfl, hF4, hc4_0⟩ := hp4
        show hpV _ _ _ _ _ _ _ _ _ _ _ _ _ _ _ _ _ _ _ _ _ []
        refine h_aload_n C dX8_image_25 0 rfl rfl ?_
        refine h_get C O8 3 kd_0 (by decide) wd_352 dX8_image_26 fr_0_3 ?_
        refine h_iload_n C dX8_image_29 1 rfl rfl ?_
        refine h_aaload (t0 := 4) C dX8_image_30 kd_15 (by decide) (by decide) rfl 1 rfl (by rw [ln_15]; decide) (by decide +kernel : hprf 15 1 = 175) ?_
        refine h_iconst C dX8_image_31 ?_
        refine h_putN C O1 12 kd_175 (by decide) rfl nw_107 dX8_image_32 (by decide) rfl (fi_175_12 hpu_at) ?_
        refine h_iconst C dX8_image_35 ?_
        refine h_ireturn C hr hk dX8_image_36 ?_
        exact ⟨⟨_, rfl, ⟨by decide, by decide⟩, by omega⟩, (fun j hj0 hj1 hj2 hj3 hj4 hj5 hj6 hj7 hj8 hj9 hj10 hj11 hj12 hj13 hj14 hj15 hj16 hj17 => ((hpw_ne hj6).trans ((hF4 j hj6 hj7 hj8 hj9 hj10 hj11).trans rfl)))⟩
      · refine h_aaload (t0 := 4) C dX8_image_17 kd_15 (by decide) (by decide) rfl 2 rfl (by rw [ln_15]; decide) (by decide +kernel : hprf 15 2 = 181) ?_
        refine h_aload_n C dX8_image_18 0 rfl rfl ?_
        refine h_get C O8 1 kd_0 (by decide) wd_350 dX8_image_19 fr_0_1 ?_
        refine h_callVN (As := [.ref (z + 3)]) (rest := []) C yyX1_become nw_530 (tX1_become_181 l D cy z _ h_3_8) kd_181 rfl rfl ⟨rfl, rfl, Nat.le_of_ble_eq_true rfl, Nat.le_of_ble_eq_true rfl⟩ ⟨Nat.le_of_ble_eq_true rfl, Nat.le_of_ble_eq_true rfl⟩ (Nat.le_of_ble_eq_true rfl) dX8_image_22 (fun r5 τ5 hp5 => ?_)
        obtain ⟨rfl, hF5, hc5_0⟩ := hp5
        show hpV _ _ _ _ _ _ _ _ _ _ _ _ _ _ _ _ _ _ _ _ _ []
        refine h_aload_n C dX8_image_25 0 rfl rfl ?_
        refine h_get C O8 3 kd_0 (by decide) wd_352 dX8_image_26 fr_0_3 ?_
        refine h_iload_n C dX8_image_29 1 rfl rfl ?_
        refine h_aaload (t0 := 4) C dX8_image_30 kd_15 (by decide) (by decide) rfl 2 rfl (by rw [ln_15]; decide) (by decide +kernel : hprf 15 2 = 181) ?_
        refine h_iconst C dX8_image_31 ?_
        refine h_putN C O1 12 kd_181 (by decide) rfl nw_107 dX8_image_32 (by decide) rfl (fi_181_12 hpu_at) ?_
        refine h_iconst C dX8_image_35 ?_
        refine h_ireturn C hr hk dX8_image_36 ?_
        exact ⟨⟨_, rfl, ⟨by decide, by decide⟩, by omega⟩, (fun j hj0 hj1 hj2 hj3 hj4 hj5 hj6 hj7 hj8 hj9 hj10 hj11 hj12 hj13 hj14 hj15 hj16 hj17 => ((hpw_ne hj12).trans ((hF5 j hj12 hj13 hj14 hj15 hj16 hj17).trans rfl)))⟩
    · refine h_bipush C dX8_image_9 (by decide) ?_
      refine h_ireturn C hr hk dX8_image_11 ?_
      exact ⟨⟨_, rfl, ⟨by decide, by decide⟩, by omega⟩, (fun j hj0 hj1 hj2 hj3 hj4 hj5 hj6 hj7 hj8 hj9 hj10 hj11 hj12 hj13 hj14 hj15 hj16 hj17 => rfl)⟩
abbrev rX8_back : Room := { frames := 0, cells := 0, slots := 0, locals := 0 }
abbrev pX8_back (z : Nat) (σ : hpMem) (n : Int) : Option Value → hpMem → Prop := fun r τ => (∃ x : Int, r = some (.int (hpI x)) ∧ hpR x ∧ ((0 ≤ n ∧ n ≤ 2 ∧ x = -6) ∨ ((n < 0 ∨ 2 < n) ∧ x = -2))) ∧ σ = τ
set_option maxHeartbeats 4000000 in
set_option maxRecDepth 20000 in
theorem tX8_back (l : Launch) (D : va_G) (cy : Nat → ClassId) (z : Nat) (σ : hpMem) (n : Int) (hn : hpR n) (h_169_12 : σ 169 12 = 0) (h_175_12 : σ 175 12 = 0) (h_181_12 : σ 181 12 = 0) : hpM l D cy z yX8_back cX8_back 2 (some .int) rX8_back [.ref (z + 0), .int (hpI n)] σ (pX8_back z σ n) := by
  obtain ⟨hn1, hn2⟩ := hn
  refine hp_met rfl (Nat.le_of_ble_eq_true rfl) (fun p e s m below meth c C hr hk => ?_)
  refine h_iload_n C dX8_back_0 1 rfl rfl ?_
  refine h_if_lt (tgt := 9) C dX8_back_1 (by decide) ⟨by omega, by omega⟩ (fun h1 => ?_) (fun h1 => ?_)
  · refine h_bipush C dX8_back_9 (by decide) ?_
    refine h_ireturn C hr hk dX8_back_11 ?_
    exact ⟨⟨_, rfl, ⟨by decide, by decide⟩, by omega⟩, rfl⟩
  · refine h_iload_n C dX8_back_4 1 rfl rfl ?_
    refine h_iconst C dX8_back_5 ?_
    refine h_icmp_lt (tgt := 12) C dX8_back_6 (by decide) ⟨by omega, by omega⟩ ⟨by decide, by decide⟩ (fun h2 => ?_) (fun h2 => ?_)
    · refine h_aload_n C dX8_back_12 0 rfl rfl ?_
      refine h_get C O8 3 kd_0 (by decide) wd_352 dX8_back_13 fr_0_3 ?_
      refine h_iload_n C dX8_back_16 1 rfl rfl ?_
      rcases (show n = 0 ∨ n = 1 ∨ n = 2 by omega) with rfl | rfl | rfl
      · refine h_aaload (t0 := 4) C dX8_back_17 kd_15 (by decide) (by decide) rfl 0 rfl (by rw [ln_15]; decide) (by decide +kernel : hprf 15 0 = 169) ?_
        refine h_getN C O1 12 kd_169 (by decide) nw_107 dX8_back_18 (fi_169_12 h_169_12) ?_
        refine h_if_ne (tgt := 27) C dX8_back_21 (by decide) ⟨by decide, by decide⟩ (fun h3 => ?_) (fun h3 => ?_)
        · exfalso; omega
        · refine h_bipush C dX8_back_24 (by decide) ?_
          refine h_ireturn C hr hk dX8_back_26 ?_
          exact ⟨⟨_, rfl, ⟨by decide, by decide⟩, by omega⟩, rfl⟩
      · refine h_aaload (t0 := 4) C dX8_back_17 kd_15 (by decide) (by decide) rfl 1 rfl (by rw [ln_15]; decide) (by decide +kernel : hprf 15 1 = 175) ?_
        refine h_getN C O1 12 kd_175 (by decide) nw_107 dX8_back_18 (fi_175_12 h_175_12) ?_
        refine h_if_ne (tgt := 27) C dX8_back_21 (by decide) ⟨by decide, by decide⟩ (fun h4 => ?_) (fun h4 => ?_)
        · exfalso; omega
        · refine h_bipush C dX8_back_24 (by decide) ?_
          refine h_ireturn C hr hk dX8_back_26 ?_
          exact ⟨⟨_, rfl, ⟨by decide, by decide⟩, by omega⟩, rfl⟩
      · refine h_aaload (t0 := 4) C dX8_back_17 kd_15 (by decide) (by decide) rfl 2 rfl (by rw [ln_15]; decide) (by decide +kernel : hprf 15 2 = 181) ?_
        refine h_getN C O1 12 kd_181 (by decide) nw_107 dX8_back_18 (fi_181_12 h_181_12) ?_
        refine h_if_ne (tgt := 27) C dX8_back_21 (by decide) ⟨by decide, by decide⟩ (fun h5 => ?_) (fun h5 => ?_)
        · exfalso; omega
        · refine h_bipush C dX8_back_24 (by decide) ?_
          refine h_ireturn C hr hk dX8_back_26 ?_
          exact ⟨⟨_, rfl, ⟨by decide, by decide⟩, by omega⟩, rfl⟩
    · refine h_bipush C dX8_back_9 (by decide) ?_
      refine h_ireturn C hr hk dX8_back_11 ?_
      exact ⟨⟨_, rfl, ⟨by decide, by decide⟩, by omega⟩, rfl⟩
abbrev rX6_lay_187 : Room := { frames := 0, cells := 0, slots := 0, locals := 0 }
abbrev pX6_lay_187 (z : Nat) (σ : hpMem) (a : Int) (b : Int) : Option Value → hpMem → Prop := fun r τ => r = none ∧ (∀ j : Nat, j ≠ 187 → j ≠ 188 → τ j = σ j)
set_option maxHeartbeats 4000000 in
set_option maxRecDepth 20000 in
theorem tX6_lay_187 (l : Launch) (D : va_G) (cy : Nat → ClassId) (z : Nat) (σ : hpMem) (a : Int) (ha : hpR a) (b : Int) (hb : hpR b) (hb0 : b ≤ 60) : hpM l D cy z yX6_lay cX6_lay 4 none rX6_lay_187 [.ref (z + 187), .int (hpI a), .int (hpI b)] σ (pX6_lay_187 z σ a b) := by
  obtain ⟨ha1, ha2⟩ := ha
  obtain ⟨hb1, hb2⟩ := hb
  refine hp_met rfl (Nat.le_of_ble_eq_true rfl) (fun p e s m below meth c C hr hk => ?_)
  refine h_aload_n C dX6_lay_0 0 rfl rfl ?_
  refine h_iconst C dX6_lay_1 ?_
  refine h_put C O6 1 kd_187 (by decide) rfl wd_334 dX6_lay_2 (by decide) rfl (fi_187_1 hpu_at) ?_
  refine h_aload_n C dX6_lay_5 0 rfl rfl ?_
  refine h_iload_n C dX6_lay_6 1 rfl rfl ?_
  refine h_put C O6 2 kd_187 (by decide) rfl wd_336 dX6_lay_7 rfl rfl (fi_187_2 hpu_at) ?_
  refine h_aload_n C dX6_lay_10 0 rfl rfl ?_
  refine h_iload_n C dX6_lay_11 2 rfl rfl ?_
  refine h_put C O6 3 kd_187 (by decide) rfl wd_338 dX6_lay_12 rfl rfl (fi_187_3 hpu_at) ?_
  refine h_iconst C dX6_lay_15 ?_
  refine h_istore_n (lv' := [(3, .int (hpI 0)), (0, .ref (z + 187)), (1, .int (hpI a)), (2, .int (hpI b))]) C dX6_lay_16 rfl (by decide) rfl ?_
  have L1 : ∀ (n1 : Nat) (τ1 : hpMem) (i : Int), 0 ≤ i → i ≤ 60 → (∀ j : Nat, j ≠ 187 → j ≠ 188 → τ1 j = σ j) → (60 - i) < (n1 : Int) → hpF p l e rX6_lay_187 s m [.ref (z + 187), .int (hpI a), .int (hpI b)] below meth c 4 D cy z (pX6_lay_187 z σ a b) τ1 17 [(0, .ref (z + 187)), (1, .int (hpI a)), (2, .int (hpI b)), (3, .int (hpI i))] [] := by
    intro n1
    induction n1 with
    | zero => intro τ1 i hi1_0 hi1_1 hF1 hm1; exfalso; omega
    | succ n1 ih1 =>
      intro τ1 i hi1_0 hi1_1 hF1 hm1
      refine h_iload_n C dX6_lay_17 3 rfl rfl ?_
      refine h_iload_n C dX6_lay_18 2 rfl rfl ?_
      refine h_icmp_ge (tgt := 35) C dX6_lay_19 (by decide) ⟨by omega, by omega⟩ ⟨by omega, by omega⟩ (fun h2 => ?_) (fun h2 => ?_)
      · refine h_return C hr hk dX6_lay_35 ?_
        exact ⟨rfl, (fun j hj0 hj1 => ((hF1 j hj0 hj1).trans rfl))⟩
      · refine h_aload_n C dX6_lay_22 0 rfl rfl ?_
        refine h_get C O6 0 kd_187 (by decide) wd_332 dX6_lay_23 fr_187_0 ?_
        refine h_iload_n C dX6_lay_26 3 rfl rfl ?_
        refine h_lconst C 0 dX6_lay_27 (by decide) ?_
        refine h_lastore C dX6_lay_28 kd_188 (i).toNat (Int.toNat_of_nonneg (by omega)) (by rw [ln_188]; omega) ?_
        refine h_iinc (lv' := [(3, .int (hpI (i + 1))), (0, .ref (z + 187)), (1, .int (hpI a)), (2, .int (hpI b))]) C dX6_lay_29 3 rfl rfl (by decide) rfl ?_
        refine h_goto (tgt := 17) C dX6_lay_32 (by decide) ?_
        exact hp_sub [1, 2, 3, 0] rfl (ih1 _ (i + 1) (by omega) (by omega) (fun j hj0 hj1 => ((hpw_ne hj1).trans ((hF1 j hj0 hj1).trans rfl))) (by omega))
  exact hp_sub [1, 2, 3, 0] rfl (L1 61 _ 0 (by omega) (by omega) (fun j hj0 hj1 => ((hpw_ne hj0).trans ((hpw_ne hj0).trans ((hpw_ne hj0).trans rfl)))) (by omega))
abbrev rX6_lay_189 : Room := { frames := 0, cells := 0, slots := 0, locals := 0 }
abbrev pX6_lay_189 (z : Nat) (σ : hpMem) (a : Int) (b : Int) : Option Value → hpMem → Prop := fun r τ => r = none ∧ (∀ j : Nat, j ≠ 189 → j ≠ 190 → τ j = σ j)
set_option maxHeartbeats 4000000 in
set_option maxRecDepth 20000 in
theorem tX6_lay_189 (l : Launch) (D : va_G) (cy : Nat → ClassId) (z : Nat) (σ : hpMem) (a : Int) (ha : hpR a) (b : Int) (hb : hpR b) (hb0 : b ≤ 60) : hpM l D cy z yX6_lay cX6_lay 4 none rX6_lay_189 [.ref (z + 189), .int (hpI a), .int (hpI b)] σ (pX6_lay_189 z σ a b) := by
  obtain ⟨ha1, ha2⟩ := ha
  obtain ⟨hb1, hb2⟩ := hb
  refine hp_met rfl (Nat.le_of_ble_eq_true rfl) (fun p e s m below meth c C hr hk => ?_)
  refine h_aload_n C dX6_lay_0 0 rfl rfl ?_
  refine h_iconst C dX6_lay_1 ?_
  refine h_put C O6 1 kd_189 (by decide) rfl wd_334 dX6_lay_2 (by decide) rfl (fi_189_1 hpu_at) ?_
  refine h_aload_n C dX6_lay_5 0 rfl rfl ?_
  refine h_iload_n C dX6_lay_6 1 rfl rfl ?_
  refine h_put C O6 2 kd_189 (by decide) rfl wd_336 dX6_lay_7 rfl rfl (fi_189_2 hpu_at) ?_
  refine h_aload_n C dX6_lay_10 0 rfl rfl ?_
  refine h_iload_n C dX6_lay_11 2 rfl rfl ?_
  refine h_put C O6 3 kd_189 (by decide) rfl wd_338 dX6_lay_12 rfl rfl (fi_189_3 hpu_at) ?_
  refine h_iconst C dX6_lay_15 ?_
  refine h_istore_n (lv' := [(3, .int (hpI 0)), (0, .ref (z + 189)), (1, .int (hpI a)), (2, .int (hpI b))]) C dX6_lay_16 rfl (by decide) rfl ?_
  have L1 : ∀ (n1 : Nat) (τ1 : hpMem) (i : Int), 0 ≤ i → i ≤ 60 → (∀ j : Nat, j ≠ 189 → j ≠ 190 → τ1 j = σ j) → (60 - i) < (n1 : Int) → hpF p l e rX6_lay_189 s m [.ref (z + 189), .int (hpI a), .int (hpI b)] below meth c 4 D cy z (pX6_lay_189 z σ a b) τ1 17 [(0, .ref (z + 189)), (1, .int (hpI a)), (2, .int (hpI b)), (3, .int (hpI i))] [] := by
    intro n1
    induction n1 with
    | zero => intro τ1 i hi1_0 hi1_1 hF1 hm1; exfalso; omega
    | succ n1 ih1 =>
      intro τ1 i hi1_0 hi1_1 hF1 hm1
      refine h_iload_n C dX6_lay_17 3 rfl rfl ?_
      refine h_iload_n C dX6_lay_18 2 rfl rfl ?_
      refine h_icmp_ge (tgt := 35) C dX6_lay_19 (by decide) ⟨by omega, by omega⟩ ⟨by omega, by omega⟩ (fun h2 => ?_) (fun h2 => ?_)
      · refine h_return C hr hk dX6_lay_35 ?_
        exact ⟨rfl, (fun j hj0 hj1 => ((hF1 j hj0 hj1).trans rfl))⟩
      · refine h_aload_n C dX6_lay_22 0 rfl rfl ?_
        refine h_get C O6 0 kd_189 (by decide) wd_332 dX6_lay_23 fr_189_0 ?_
        refine h_iload_n C dX6_lay_26 3 rfl rfl ?_
        refine h_lconst C 0 dX6_lay_27 (by decide) ?_
        refine h_lastore C dX6_lay_28 kd_190 (i).toNat (Int.toNat_of_nonneg (by omega)) (by rw [ln_190]; omega) ?_
        refine h_iinc (lv' := [(3, .int (hpI (i + 1))), (0, .ref (z + 189)), (1, .int (hpI a)), (2, .int (hpI b))]) C dX6_lay_29 3 rfl rfl (by decide) rfl ?_
        refine h_goto (tgt := 17) C dX6_lay_32 (by decide) ?_
        exact hp_sub [1, 2, 3, 0] rfl (ih1 _ (i + 1) (by omega) (by omega) (fun j hj0 hj1 => ((hpw_ne hj1).trans ((hF1 j hj0 hj1).trans rfl))) (by omega))
  exact hp_sub [1, 2, 3, 0] rfl (L1 61 _ 0 (by omega) (by omega) (fun j hj0 hj1 => ((hpw_ne hj0).trans ((hpw_ne hj0).trans ((hpw_ne hj0).trans rfl)))) (by omega))
abbrev rX6_lay_191 : Room := { frames := 0, cells := 0, slots := 0, locals := 0 }
abbrev pX6_lay_191 (z : Nat) (σ : hpMem) (a : Int) (b : Int) : Option Value → hpMem → Prop := fun r τ => r = none ∧ (∀ j : Nat, j ≠ 191 → j ≠ 192 → τ j = σ j)
set_option maxHeartbeats 4000000 in
set_option maxRecDepth 20000 in
theorem tX6_lay_191 (l : Launch) (D : va_G) (cy : Nat → ClassId) (z : Nat) (σ : hpMem) (a : Int) (ha : hpR a) (b : Int) (hb : hpR b) (hb0 : b ≤ 60) : hpM l D cy z yX6_lay cX6_lay 4 none rX6_lay_191 [.ref (z + 191), .int (hpI a), .int (hpI b)] σ (pX6_lay_191 z σ a b) := by
  obtain ⟨ha1, ha2⟩ := ha
  obtain ⟨hb1, hb2⟩ := hb
  refine hp_met rfl (Nat.le_of_ble_eq_true rfl) (fun p e s m below meth c C hr hk => ?_)
  refine h_aload_n C dX6_lay_0 0 rfl rfl ?_
  refine h_iconst C dX6_lay_1 ?_
  refine h_put C O6 1 kd_191 (by decide) rfl wd_334 dX6_lay_2 (by decide) rfl (fi_191_1 hpu_at) ?_
  refine h_aload_n C dX6_lay_5 0 rfl rfl ?_
  refine h_iload_n C dX6_lay_6 1 rfl rfl ?_
  refine h_put C O6 2 kd_191 (by decide) rfl wd_336 dX6_lay_7 rfl rfl (fi_191_2 hpu_at) ?_
  refine h_aload_n C dX6_lay_10 0 rfl rfl ?_
  refine h_iload_n C dX6_lay_11 2 rfl rfl ?_
  refine h_put C O6 3 kd_191 (by decide) rfl wd_338 dX6_lay_12 rfl rfl (fi_191_3 hpu_at) ?_
  refine h_iconst C dX6_lay_15 ?_
  refine h_istore_n (lv' := [(3, .int (hpI 0)), (0, .ref (z + 191)), (1, .int (hpI a)), (2, .int (hpI b))]) C dX6_lay_16 rfl (by decide) rfl ?_
  have L1 : ∀ (n1 : Nat) (τ1 : hpMem) (i : Int), 0 ≤ i → i ≤ 60 → (∀ j : Nat, j ≠ 191 → j ≠ 192 → τ1 j = σ j) → (60 - i) < (n1 : Int) → hpF p l e rX6_lay_191 s m [.ref (z + 191), .int (hpI a), .int (hpI b)] below meth c 4 D cy z (pX6_lay_191 z σ a b) τ1 17 [(0, .ref (z + 191)), (1, .int (hpI a)), (2, .int (hpI b)), (3, .int (hpI i))] [] := by
    intro n1
    induction n1 with
    | zero => intro τ1 i hi1_0 hi1_1 hF1 hm1; exfalso; omega
    | succ n1 ih1 =>
      intro τ1 i hi1_0 hi1_1 hF1 hm1
      refine h_iload_n C dX6_lay_17 3 rfl rfl ?_
      refine h_iload_n C dX6_lay_18 2 rfl rfl ?_
      refine h_icmp_ge (tgt := 35) C dX6_lay_19 (by decide) ⟨by omega, by omega⟩ ⟨by omega, by omega⟩ (fun h2 => ?_) (fun h2 => ?_)
      · refine h_return C hr hk dX6_lay_35 ?_
        exact ⟨rfl, (fun j hj0 hj1 => ((hF1 j hj0 hj1).trans rfl))⟩
      · refine h_aload_n C dX6_lay_22 0 rfl rfl ?_
        refine h_get C O6 0 kd_191 (by decide) wd_332 dX6_lay_23 fr_191_0 ?_
        refine h_iload_n C dX6_lay_26 3 rfl rfl ?_
        refine h_lconst C 0 dX6_lay_27 (by decide) ?_
        refine h_lastore C dX6_lay_28 kd_192 (i).toNat (Int.toNat_of_nonneg (by omega)) (by rw [ln_192]; omega) ?_
        refine h_iinc (lv' := [(3, .int (hpI (i + 1))), (0, .ref (z + 191)), (1, .int (hpI a)), (2, .int (hpI b))]) C dX6_lay_29 3 rfl rfl (by decide) rfl ?_
        refine h_goto (tgt := 17) C dX6_lay_32 (by decide) ?_
        exact hp_sub [1, 2, 3, 0] rfl (ih1 _ (i + 1) (by omega) (by omega) (fun j hj0 hj1 => ((hpw_ne hj1).trans ((hF1 j hj0 hj1).trans rfl))) (by omega))
  exact hp_sub [1, 2, 3, 0] rfl (L1 61 _ 0 (by omega) (by omega) (fun j hj0 hj1 => ((hpw_ne hj0).trans ((hpw_ne hj0).trans ((hpw_ne hj0).trans rfl)))) (by omega))
abbrev rX6_lay_193 : Room := { frames := 0, cells := 0, slots := 0, locals := 0 }
abbrev pX6_lay_193 (z : Nat) (σ : hpMem) (a : Int) (b : Int) : Option Value → hpMem → Prop := fun r τ => r = none ∧ (∀ j : Nat, j ≠ 193 → j ≠ 194 → τ j = σ j)
set_option maxHeartbeats 4000000 in
set_option maxRecDepth 20000 in
theorem tX6_lay_193 (l : Launch) (D : va_G) (cy : Nat → ClassId) (z : Nat) (σ : hpMem) (a : Int) (ha : hpR a) (b : Int) (hb : hpR b) (hb0 : b ≤ 60) : hpM l D cy z yX6_lay cX6_lay 4 none rX6_lay_193 [.ref (z + 193), .int (hpI a), .int (hpI b)] σ (pX6_lay_193 z σ a b) := by
  obtain ⟨ha1, ha2⟩ := ha
  obtain ⟨hb1, hb2⟩ := hb
  refine hp_met rfl (Nat.le_of_ble_eq_true rfl) (fun p e s m below meth c C hr hk => ?_)
  refine h_aload_n C dX6_lay_0 0 rfl rfl ?_
  refine h_iconst C dX6_lay_1 ?_
  refine h_put C O6 1 kd_193 (by decide) rfl wd_334 dX6_lay_2 (by decide) rfl (fi_193_1 hpu_at) ?_
  refine h_aload_n C dX6_lay_5 0 rfl rfl ?_
  refine h_iload_n C dX6_lay_6 1 rfl rfl ?_
  refine h_put C O6 2 kd_193 (by decide) rfl wd_336 dX6_lay_7 rfl rfl (fi_193_2 hpu_at) ?_
  refine h_aload_n C dX6_lay_10 0 rfl rfl ?_
  refine h_iload_n C dX6_lay_11 2 rfl rfl ?_
  refine h_put C O6 3 kd_193 (by decide) rfl wd_338 dX6_lay_12 rfl rfl (fi_193_3 hpu_at) ?_
  refine h_iconst C dX6_lay_15 ?_
  refine h_istore_n (lv' := [(3, .int (hpI 0)), (0, .ref (z + 193)), (1, .int (hpI a)), (2, .int (hpI b))]) C dX6_lay_16 rfl (by decide) rfl ?_
  have L1 : ∀ (n1 : Nat) (τ1 : hpMem) (i : Int), 0 ≤ i → i ≤ 60 → (∀ j : Nat, j ≠ 193 → j ≠ 194 → τ1 j = σ j) → (60 - i) < (n1 : Int) → hpF p l e rX6_lay_193 s m [.ref (z + 193), .int (hpI a), .int (hpI b)] below meth c 4 D cy z (pX6_lay_193 z σ a b) τ1 17 [(0, .ref (z + 193)), (1, .int (hpI a)), (2, .int (hpI b)), (3, .int (hpI i))] [] := by
    intro n1
    induction n1 with
    | zero => intro τ1 i hi1_0 hi1_1 hF1 hm1; exfalso; omega
    | succ n1 ih1 =>
      intro τ1 i hi1_0 hi1_1 hF1 hm1
      refine h_iload_n C dX6_lay_17 3 rfl rfl ?_
      refine h_iload_n C dX6_lay_18 2 rfl rfl ?_
      refine h_icmp_ge (tgt := 35) C dX6_lay_19 (by decide) ⟨by omega, by omega⟩ ⟨by omega, by omega⟩ (fun h2 => ?_) (fun h2 => ?_)
      · refine h_return C hr hk dX6_lay_35 ?_
        exact ⟨rfl, (fun j hj0 hj1 => ((hF1 j hj0 hj1).trans rfl))⟩
      · refine h_aload_n C dX6_lay_22 0 rfl rfl ?_
        refine h_get C O6 0 kd_193 (by decide) wd_332 dX6_lay_23 fr_193_0 ?_
        refine h_iload_n C dX6_lay_26 3 rfl rfl ?_
        refine h_lconst C 0 dX6_lay_27 (by decide) ?_
        refine h_lastore C dX6_lay_28 kd_194 (i).toNat (Int.toNat_of_nonneg (by omega)) (by rw [ln_194]; omega) ?_
        refine h_iinc (lv' := [(3, .int (hpI (i + 1))), (0, .ref (z + 193)), (1, .int (hpI a)), (2, .int (hpI b))]) C dX6_lay_29 3 rfl rfl (by decide) rfl ?_
        refine h_goto (tgt := 17) C dX6_lay_32 (by decide) ?_
        exact hp_sub [1, 2, 3, 0] rfl (ih1 _ (i + 1) (by omega) (by omega) (fun j hj0 hj1 => ((hpw_ne hj1).trans ((hF1 j hj0 hj1).trans rfl))) (by omega))
  exact hp_sub [1, 2, 3, 0] rfl (L1 61 _ 0 (by omega) (by omega) (fun j hj0 hj1 => ((hpw_ne hj0).trans ((hpw_ne hj0).trans ((hpw_ne hj0).trans rfl)))) (by omega))
abbrev rX8_row : Room := { frames := 1, cells := 0, slots := 0, locals := 23 }
abbrev pX8_row (z : Nat) (σ : hpMem) (a : Int) (b : Int) (c0 : Int) : Option Value → hpMem → Prop := fun r τ => (∃ x : Int, r = some (.int (hpI x)) ∧ hpR x ∧ ((((a < 0 ∨ 3 < a) ∨ (b < 0 ∨ 3 < b) ∨ 60 < c0) ∧ x = -2) ∨ (0 ≤ a ∧ a ≤ 3 ∧ 0 ≤ b ∧ b ≤ 3 ∧ c0 < 0 ∧ x = -3) ∨ (0 ≤ a ∧ a ≤ 3 ∧ 0 ≤ b ∧ b ≤ 3 ∧ 0 ≤ c0 ∧ c0 ≤ 60 ∧ x = 0))) ∧ (∀ j : Nat, j ≠ 187 → j ≠ 188 → j ≠ 189 → j ≠ 190 → j ≠ 191 → j ≠ 192 → j ≠ 193 → j ≠ 194 → τ j = σ j)
set_option maxHeartbeats 4000000 in
set_option maxRecDepth 20000 in
theorem tX8_row (l : Launch) (D : va_G) (cy : Nat → ClassId) (z : Nat) (σ : hpMem) (a : Int) (ha : hpR a) (b : Int) (hb : hpR b) (c0 : Int) (hc0 : hpR c0) : hpM l D cy z yX8_row cX8_row 4 (some .int) rX8_row [.ref (z + 0), .int (hpI a), .int (hpI b), .int (hpI c0)] σ (pX8_row z σ a b c0) := by
  obtain ⟨ha1, ha2⟩ := ha
  obtain ⟨hb1, hb2⟩ := hb
  obtain ⟨hc01, hc02⟩ := hc0
  refine hp_met rfl (Nat.le_of_ble_eq_true rfl) (fun p e s m below meth c C hr hk => ?_)
  refine h_iload_n C dX8_row_0 1 rfl rfl ?_
  refine h_callS (As := [.int (hpI a)]) (rest := []) C yyX8_isSlot rfl wd_920 (tX8_isSlot l D cy z _ a ⟨by omega, by omega⟩) rfl rfl ⟨rfl, rfl, Nat.le_of_ble_eq_true rfl, Nat.le_of_ble_eq_true rfl⟩ ⟨Nat.le_of_ble_eq_true rfl, Nat.le_of_ble_eq_true rfl⟩ (Nat.le_of_ble_eq_true rfl) dX8_row_1 (fun r1 τ1 hp1 => ?_)
  obtain ⟨⟨x1, rfl, ⟨hx1a, hx1b⟩, hx1⟩, rfl⟩ := hp1
  show hpV _ _ _ _ _ _ _ _ _ _ _ _ _ _ _ _ _ _ _ _ _ (_ :: _)
  refine h_if_eq (tgt := 22) C dX8_row_4 (by decide) ⟨by omega, by omega⟩ (fun h2 => ?_) (fun h2 => ?_)
  · refine h_bipush C dX8_row_22 (by decide) ?_
    refine h_ireturn C hr hk dX8_row_24 ?_
    exact ⟨⟨_, rfl, ⟨by decide, by decide⟩, by omega⟩, (fun j hj0 hj1 hj2 hj3 hj4 hj5 hj6 hj7 => rfl)⟩
  · refine h_iload_n C dX8_row_7 2 rfl rfl ?_
    refine h_if_lt (tgt := 22) C dX8_row_8 (by decide) ⟨by omega, by omega⟩ (fun h3 => ?_) (fun h3 => ?_)
    · refine h_bipush C dX8_row_22 (by decide) ?_
      refine h_ireturn C hr hk dX8_row_24 ?_
      exact ⟨⟨_, rfl, ⟨by decide, by decide⟩, by omega⟩, (fun j hj0 hj1 hj2 hj3 hj4 hj5 hj6 hj7 => rfl)⟩
    · refine h_iload_n C dX8_row_11 2 rfl rfl ?_
      refine h_iconst C dX8_row_12 ?_
      refine h_icmp_ge (tgt := 22) C dX8_row_13 (by decide) ⟨by omega, by omega⟩ ⟨by decide, by decide⟩ (fun h4 => ?_) (fun h4 => ?_)
      · refine h_bipush C dX8_row_22 (by decide) ?_
        refine h_ireturn C hr hk dX8_row_24 ?_
        exact ⟨⟨_, rfl, ⟨by decide, by decide⟩, by omega⟩, (fun j hj0 hj1 hj2 hj3 hj4 hj5 hj6 hj7 => rfl)⟩
      · refine h_iload_n C dX8_row_16 3 rfl rfl ?_
        refine h_bipush C dX8_row_17 (by decide) ?_
        refine h_icmp_le (tgt := 25) C dX8_row_19 (by decide) ⟨by omega, by omega⟩ ⟨by decide, by decide⟩ (fun h5 => ?_) (fun h5 => ?_)
        · refine h_iload_n C dX8_row_25 3 rfl rfl ?_
          refine h_if_ge (tgt := 32) C dX8_row_26 (by decide) ⟨by omega, by omega⟩ (fun h6 => ?_) (fun h6 => ?_)
          · refine h_aload_n C dX8_row_32 0 rfl rfl ?_
            refine h_get C O8 4 kd_0 (by decide) wd_353 dX8_row_33 fr_0_4 ?_
            refine h_iload_n C dX8_row_36 1 rfl rfl ?_
            rcases (show a = 0 ∨ a = 1 ∨ a = 2 ∨ a = 3 by omega) with rfl | rfl | rfl | rfl
            · refine h_aaload (t0 := 6) C dX8_row_37 kd_16 (by decide) (by decide) rfl 0 rfl (by rw [ln_16]; decide) (by decide +kernel : hprf 16 0 = 187) ?_
              refine h_iload_n C dX8_row_38 2 rfl rfl ?_
              refine h_iload_n C dX8_row_39 3 rfl rfl ?_
              refine h_callVN (As := [.int (hpI b), .int (hpI c0)]) (rest := []) C yyX6_lay nw_1231 (tX6_lay_187 l D cy z _ b ⟨by omega, by omega⟩ c0 ⟨by omega, by omega⟩ (by omega)) kd_187 rfl rfl ⟨rfl, rfl, Nat.le_of_ble_eq_true rfl, Nat.le_of_ble_eq_true rfl⟩ ⟨Nat.le_of_ble_eq_true rfl, Nat.le_of_ble_eq_true rfl⟩ (Nat.le_of_ble_eq_true rfl) dX8_row_40 (fun r7 τ7 hp7 => ?_)
              obtain ⟨rfl, hF7⟩ := hp7
              show hpV _ _ _ _ _ _ _ _ _ _ _ _ _ _ _ _ _ _ _ _ _ []
              refine h_iconst C dX8_row_43 ?_
              refine h_ireturn C hr hk dX8_row_44 ?_
              exact ⟨⟨_, rfl, ⟨by decide, by decide⟩, by omega⟩, (fun j hj0 hj1 hj2 hj3 hj4 hj5 hj6 hj7 => ((hF7 j hj0 hj1).trans rfl))⟩
            · refine h_aaload (t0 := 6) C dX8_row_37 kd_16 (by decide) (by decide) rfl 1 rfl (by rw [ln_16]; decide) (by decide +kernel : hprf 16 1 = 189) ?_
              refine h_iload_n C dX8_row_38 2 rfl rfl ?_
              refine h_iload_n C dX8_row_39 3 rfl rfl ?_
              refine h_callVN (As := [.int (hpI b), .int (hpI c0)]) (rest := []) C yyX6_lay nw_1231 (tX6_lay_189 l D cy z _ b ⟨by omega, by omega⟩ c0 ⟨by omega, by omega⟩ (by omega)) kd_189 rfl rfl ⟨rfl, rfl, Nat.le_of_ble_eq_true rfl, Nat.le_of_ble_eq_true rfl⟩ ⟨Nat.le_of_ble_eq_true rfl, Nat.le_of_ble_eq_true rfl⟩ (Nat.le_of_ble_eq_true rfl) dX8_row_40 (fun r8 τ8 hp8 => ?_)
              obtain ⟨rfl, hF8⟩ := hp8
              show hpV _ _ _ _ _ _ _ _ _ _ _ _ _ _ _ _ _ _ _ _ _ []
              refine h_iconst C dX8_row_43 ?_
              refine h_ireturn C hr hk dX8_row_44 ?_
              exact ⟨⟨_, rfl, ⟨by decide, by decide⟩, by omega⟩, (fun j hj0 hj1 hj2 hj3 hj4 hj5 hj6 hj7 => ((hF8 j hj2 hj3).trans rfl))⟩
            · refine h_aaload (t0 := 6) C dX8_row_37 kd_16 (by decide) (by decide) rfl 2 rfl (by rw [ln_16]; decide) (by decide +kernel : hprf 16 2 = 191) ?_
              refine h_iload_n C dX8_row_38 2 rfl rfl ?_
              refine h_iload_n C dX8_row_39 3 rfl rfl ?_
              refine h_callVN (As := [.int (hpI b), .int (hpI c0)]) (rest := []) C yyX6_lay nw_1231 (tX6_lay_191 l D cy z _ b ⟨by omega, by omega⟩ c0 ⟨by omega, by omega⟩ (by omega)) kd_191 rfl rfl ⟨rfl, rfl, Nat.le_of_ble_eq_true rfl, Nat.le_of_ble_eq_true rfl⟩ ⟨Nat.le_of_ble_eq_true rfl, Nat.le_of_ble_eq_true rfl⟩ (Nat.le_of_ble_eq_true rfl) dX8_row_40 (fun r9 τ9 hp9 => ?_)
              obtain ⟨rfl, hF9⟩ := hp9
              show hpV _ _ _ _ _ _ _ _ _ _ _ _ _ _ _ _ _ _ _ _ _ []
              refine h_iconst C dX8_row_43 ?_
              refine h_ireturn C hr hk dX8_row_44 ?_
              exact ⟨⟨_, rfl, ⟨by decide, by decide⟩, by omega⟩, (fun j hj0 hj1 hj2 hj3 hj4 hj5 hj6 hj7 => ((hF9 j hj4 hj5).trans rfl))⟩
            · refine h_aaload (t0 := 6) C dX8_row_37 kd_16 (by decide) (by decide) rfl 3 rfl (by rw [ln_16]; decide) (by decide +kernel : hprf 16 3 = 193) ?_
              refine h_iload_n C dX8_row_38 2 rfl rfl ?_
              refine h_iload_n C dX8_row_39 3 rfl rfl ?_
              refine h_callVN (As := [.int (hpI b), .int (hpI c0)]) (rest := []) C yyX6_lay nw_1231 (tX6_lay_193 l D cy z _ b ⟨by omega, by omega⟩ c0 ⟨by omega, by omega⟩ (by omega)) kd_193 rfl rfl ⟨rfl, rfl, Nat.le_of_ble_eq_true rfl, Nat.le_of_ble_eq_true rfl⟩ ⟨Nat.le_of_ble_eq_true rfl, Nat.le_of_ble_eq_true rfl⟩ (Nat.le_of_ble_eq_true rfl) dX8_row_40 (fun r10 τ10 hp10 => ?_)
              obtain ⟨rfl, hF10⟩ := hp10
              show hpV _ _ _ _ _ _ _ _ _ _ _ _ _ _ _ _ _ _ _ _ _ []
              refine h_iconst C dX8_row_43 ?_
              refine h_ireturn C hr hk dX8_row_44 ?_
              exact ⟨⟨_, rfl, ⟨by decide, by decide⟩, by omega⟩, (fun j hj0 hj1 hj2 hj3 hj4 hj5 hj6 hj7 => ((hF10 j hj6 hj7).trans rfl))⟩
          · refine h_bipush C dX8_row_29 (by decide) ?_
            refine h_ireturn C hr hk dX8_row_31 ?_
            exact ⟨⟨_, rfl, ⟨by decide, by decide⟩, by omega⟩, (fun j hj0 hj1 hj2 hj3 hj4 hj5 hj6 hj7 => rfl)⟩
        · refine h_bipush C dX8_row_22 (by decide) ?_
          refine h_ireturn C hr hk dX8_row_24 ?_
          exact ⟨⟨_, rfl, ⟨by decide, by decide⟩, by omega⟩, (fun j hj0 hj1 hj2 hj3 hj4 hj5 hj6 hj7 => rfl)⟩
abbrev rX8_write : Room := { frames := 1, cells := 0, slots := 0, locals := 20 }
abbrev pX8_write (z : Nat) (σ : hpMem) (a : Int) (b : Int) (v : Int) : Option Value → hpMem → Prop := fun r τ => (∃ x : Int, r = some (.int (hpI x)) ∧ hpR x ∧ (((a < 0 ∨ 3 < a) ∧ x = -2) ∨ (0 ≤ a ∧ a ≤ 3 ∧ x = -6))) ∧ σ = τ
set_option maxHeartbeats 4000000 in
set_option maxRecDepth 20000 in
theorem tX8_write (l : Launch) (D : va_G) (cy : Nat → ClassId) (z : Nat) (σ : hpMem) (a : Int) (ha : hpR a) (b : Int) (hb : hpR b) (v : Int) (hv : hpRL v) (h_187_1 : σ 187 1 = 0) (h_189_1 : σ 189 1 = 0) (h_191_1 : σ 191 1 = 0) (h_193_1 : σ 193 1 = 0) : hpM l D cy z yX8_write cX8_write 6 (some .int) rX8_write [.ref (z + 0), .int (hpI a), .int (hpI b), .long (hpJ v)] σ (pX8_write z σ a b v) := by
  obtain ⟨ha1, ha2⟩ := ha
  obtain ⟨hb1, hb2⟩ := hb
  obtain ⟨hv1, hv2⟩ := hv
  refine hp_met rfl (Nat.le_of_ble_eq_true rfl) (fun p e s m below meth c C hr hk => ?_)
  refine h_iload_n C dX8_write_0 1 rfl rfl ?_
  refine h_callS (As := [.int (hpI a)]) (rest := []) C yyX8_isSlot rfl wd_920 (tX8_isSlot l D cy z _ a ⟨by omega, by omega⟩) rfl rfl ⟨rfl, rfl, Nat.le_of_ble_eq_true rfl, Nat.le_of_ble_eq_true rfl⟩ ⟨Nat.le_of_ble_eq_true rfl, Nat.le_of_ble_eq_true rfl⟩ (Nat.le_of_ble_eq_true rfl) dX8_write_1 (fun r1 τ1 hp1 => ?_)
  obtain ⟨⟨x1, rfl, ⟨hx1a, hx1b⟩, hx1⟩, rfl⟩ := hp1
  show hpV _ _ _ _ _ _ _ _ _ _ _ _ _ _ _ _ _ _ _ _ _ (_ :: _)
  refine h_if_ne (tgt := 10) C dX8_write_4 (by decide) ⟨by omega, by omega⟩ (fun h2 => ?_) (fun h2 => ?_)
  · refine h_aload_n C dX8_write_10 0 rfl rfl ?_
    refine h_get C O8 4 kd_0 (by decide) wd_353 dX8_write_11 fr_0_4 ?_
    refine h_iload_n C dX8_write_14 1 rfl rfl ?_
    rcases (show a = 0 ∨ a = 1 ∨ a = 2 ∨ a = 3 by omega) with rfl | rfl | rfl | rfl
    · refine h_aaload (t0 := 6) C dX8_write_15 kd_16 (by decide) (by decide) rfl 0 rfl (by rw [ln_16]; decide) (by decide +kernel : hprf 16 0 = 187) ?_
      refine h_astore (lv' := [(5, .ref (z + 187)), (0, .ref (z + 0)), (1, .int (hpI 0)), (2, .int (hpI b)), (3, .long (hpJ v))]) C dX8_write_16 (by decide) rfl ?_
      refine h_aload C dX8_write_18 0 rfl ?_
      refine h_getN C O6 1 kd_187 (by decide) nw_335 dX8_write_20 (fi_187_1 h_187_1) ?_
      refine h_if_ne (tgt := 29) C dX8_write_23 (by decide) ⟨by decide, by decide⟩ (fun h3 => ?_) (fun h3 => ?_)
      · exfalso; omega
      · refine h_bipush C dX8_write_26 (by decide) ?_
        refine h_ireturn C hr hk dX8_write_28 ?_
        exact ⟨⟨_, rfl, ⟨by decide, by decide⟩, by omega⟩, rfl⟩
    · refine h_aaload (t0 := 6) C dX8_write_15 kd_16 (by decide) (by decide) rfl 1 rfl (by rw [ln_16]; decide) (by decide +kernel : hprf 16 1 = 189) ?_
      refine h_astore (lv' := [(5, .ref (z + 189)), (0, .ref (z + 0)), (1, .int (hpI 1)), (2, .int (hpI b)), (3, .long (hpJ v))]) C dX8_write_16 (by decide) rfl ?_
      refine h_aload C dX8_write_18 0 rfl ?_
      refine h_getN C O6 1 kd_189 (by decide) nw_335 dX8_write_20 (fi_189_1 h_189_1) ?_
      refine h_if_ne (tgt := 29) C dX8_write_23 (by decide) ⟨by decide, by decide⟩ (fun h4 => ?_) (fun h4 => ?_)
      · exfalso; omega
      · refine h_bipush C dX8_write_26 (by decide) ?_
        refine h_ireturn C hr hk dX8_write_28 ?_
        exact ⟨⟨_, rfl, ⟨by decide, by decide⟩, by omega⟩, rfl⟩
    · refine h_aaload (t0 := 6) C dX8_write_15 kd_16 (by decide) (by decide) rfl 2 rfl (by rw [ln_16]; decide) (by decide +kernel : hprf 16 2 = 191) ?_
      refine h_astore (lv' := [(5, .ref (z + 191)), (0, .ref (z + 0)), (1, .int (hpI 2)), (2, .int (hpI b)), (3, .long (hpJ v))]) C dX8_write_16 (by decide) rfl ?_
      refine h_aload C dX8_write_18 0 rfl ?_
      refine h_getN C O6 1 kd_191 (by decide) nw_335 dX8_write_20 (fi_191_1 h_191_1) ?_
      refine h_if_ne (tgt := 29) C dX8_write_23 (by decide) ⟨by decide, by decide⟩ (fun h5 => ?_) (fun h5 => ?_)
      · exfalso; omega
      · refine h_bipush C dX8_write_26 (by decide) ?_
        refine h_ireturn C hr hk dX8_write_28 ?_
        exact ⟨⟨_, rfl, ⟨by decide, by decide⟩, by omega⟩, rfl⟩
    · refine h_aaload (t0 := 6) C dX8_write_15 kd_16 (by decide) (by decide) rfl 3 rfl (by rw [ln_16]; decide) (by decide +kernel : hprf 16 3 = 193) ?_
      refine h_astore (lv' := [(5, .ref (z + 193)), (0, .ref (z + 0)), (1, .int (hpI 3)), (2, .int (hpI b)), (3, .long (hpJ v))]) C dX8_write_16 (by decide) rfl ?_
      refine h_aload C dX8_write_18 0 rfl ?_
      refine h_getN C O6 1 kd_193 (by decide) nw_335 dX8_write_20 (fi_193_1 h_193_1) ?_
      refine h_if_ne (tgt := 29) C dX8_write_23 (by decide) ⟨by decide, by decide⟩ (fun h6 => ?_) (fun h6 => ?_)
      · exfalso; omega
      · refine h_bipush C dX8_write_26 (by decide) ?_
        refine h_ireturn C hr hk dX8_write_28 ?_
        exact ⟨⟨_, rfl, ⟨by decide, by decide⟩, by omega⟩, rfl⟩
  · refine h_bipush C dX8_write_7 (by decide) ?_
    refine h_ireturn C hr hk dX8_write_9 ?_
    exact ⟨⟨_, rfl, ⟨by decide, by decide⟩, by omega⟩, rfl⟩
abbrev rX8_paste : Room := { frames := 1, cells := 0, slots := 0, locals := 20 }
abbrev pX8_paste (z : Nat) (σ : hpMem) (a : Int) (b : Int) (c0 : Int) (d0 : Int) (e0 : Int) : Option Value → hpMem → Prop := fun r τ => (∃ x : Int, r = some (.int (hpI x)) ∧ hpR x ∧ ((((a < 0 ∨ 3 < a) ∨ (c0 < 0 ∨ 3 < c0)) ∧ x = -2) ∨ (0 ≤ a ∧ a ≤ 3 ∧ 0 ≤ c0 ∧ c0 ≤ 3 ∧ x = -6))) ∧ σ = τ
set_option maxHeartbeats 4000000 in
set_option maxRecDepth 20000 in
theorem tX8_paste (l : Launch) (D : va_G) (cy : Nat → ClassId) (z : Nat) (σ : hpMem) (a : Int) (ha : hpR a) (b : Int) (hb : hpR b) (c0 : Int) (hc0 : hpR c0) (d0 : Int) (hd0 : hpR d0) (e0 : Int) (he0 : hpR e0) (h_187_1 : σ 187 1 = 0) (h_189_1 : σ 189 1 = 0) (h_191_1 : σ 191 1 = 0) (h_193_1 : σ 193 1 = 0) : hpM l D cy z yX8_paste cX8_paste 8 (some .int) rX8_paste [.ref (z + 0), .int (hpI a), .int (hpI b), .int (hpI c0), .int (hpI d0), .int (hpI e0)] σ (pX8_paste z σ a b c0 d0 e0) := by
  obtain ⟨ha1, ha2⟩ := ha
  obtain ⟨hb1, hb2⟩ := hb
  obtain ⟨hc01, hc02⟩ := hc0
  obtain ⟨hd01, hd02⟩ := hd0
  obtain ⟨he01, he02⟩ := he0
  refine hp_met rfl (Nat.le_of_ble_eq_true rfl) (fun p e s m below meth c C hr hk => ?_)
  refine h_iload_n C dX8_paste_0 1 rfl rfl ?_
  refine h_callS (As := [.int (hpI a)]) (rest := []) C yyX8_isSlot rfl wd_920 (tX8_isSlot l D cy z _ a ⟨by omega, by omega⟩) rfl rfl ⟨rfl, rfl, Nat.le_of_ble_eq_true rfl, Nat.le_of_ble_eq_true rfl⟩ ⟨Nat.le_of_ble_eq_true rfl, Nat.le_of_ble_eq_true rfl⟩ (Nat.le_of_ble_eq_true rfl) dX8_paste_1 (fun r1 τ1 hp1 => ?_)
  obtain ⟨⟨x1, rfl, ⟨hx1a, hx1b⟩, hx1⟩, rfl⟩ := hp1
  show hpV _ _ _ _ _ _ _ _ _ _ _ _ _ _ _ _ _ _ _ _ _ (_ :: _)
  refine h_if_eq (tgt := 14) C dX8_paste_4 (by decide) ⟨by omega, by omega⟩ (fun h2 => ?_) (fun h2 => ?_)
  · refine h_bipush C dX8_paste_14 (by decide) ?_
    refine h_ireturn C hr hk dX8_paste_16 ?_
    exact ⟨⟨_, rfl, ⟨by decide, by decide⟩, by omega⟩, rfl⟩
  · refine h_iload_n C dX8_paste_7 3 rfl rfl ?_
    refine h_callS (As := [.int (hpI c0)]) (rest := []) C yyX8_isSlot rfl wd_920 (tX8_isSlot l D cy z _ c0 ⟨by omega, by omega⟩) rfl rfl ⟨rfl, rfl, Nat.le_of_ble_eq_true rfl, Nat.le_of_ble_eq_true rfl⟩ ⟨Nat.le_of_ble_eq_true rfl, Nat.le_of_ble_eq_true rfl⟩ (Nat.le_of_ble_eq_true rfl) dX8_paste_8 (fun r3 τ3 hp3 => ?_)
    obtain ⟨⟨x3, rfl, ⟨hx3a, hx3b⟩, hx3⟩, rfl⟩ := hp3
    show hpV _ _ _ _ _ _ _ _ _ _ _ _ _ _ _ _ _ _ _ _ _ (_ :: _)
    refine h_if_ne (tgt := 17) C dX8_paste_11 (by decide) ⟨by omega, by omega⟩ (fun h4 => ?_) (fun h4 => ?_)
    · refine h_aload_n C dX8_paste_17 0 rfl rfl ?_
      refine h_get C O8 4 kd_0 (by decide) wd_353 dX8_paste_18 fr_0_4 ?_
      refine h_iload_n C dX8_paste_21 1 rfl rfl ?_
      rcases (show a = 0 ∨ a = 1 ∨ a = 2 ∨ a = 3 by omega) with rfl | rfl | rfl | rfl
      · refine h_aaload (t0 := 6) C dX8_paste_22 kd_16 (by decide) (by decide) rfl 0 rfl (by rw [ln_16]; decide) (by decide +kernel : hprf 16 0 = 187) ?_
        refine h_astore (lv' := [(6, .ref (z + 187)), (0, .ref (z + 0)), (1, .int (hpI 0)), (2, .int (hpI b)), (3, .int (hpI c0)), (4, .int (hpI d0)), (5, .int (hpI e0))]) C dX8_paste_23 (by decide) rfl ?_
        refine h_aload_n C dX8_paste_25 1 rfl rfl ?_
        refine h_get C O8 4 kd_0 (by decide) wd_353 dX8_paste_26 fr_0_4 ?_
        refine h_iload_n C dX8_paste_29 4 rfl rfl ?_
        rcases (show c0 = 0 ∨ c0 = 1 ∨ c0 = 2 ∨ c0 = 3 by omega) with rfl | rfl | rfl | rfl
        · refine h_aaload (t0 := 6) C dX8_paste_30 kd_16 (by decide) (by decide) rfl 0 rfl (by rw [ln_16]; decide) (by decide +kernel : hprf 16 0 = 187) ?_
          refine h_astore (lv' := [(7, .ref (z + 187)), (6, .ref (z + 187)), (0, .ref (z + 0)), (1, .int (hpI 0)), (2, .int (hpI b)), (3, .int (hpI 0)), (4, .int (hpI d0)), (5, .int (hpI e0))]) C dX8_paste_31 (by decide) rfl ?_
          refine h_aload C dX8_paste_33 1 rfl ?_
          refine h_getN C O6 1 kd_187 (by decide) nw_335 dX8_paste_35 (fi_187_1 h_187_1) ?_
          refine h_if_eq (tgt := 49) C dX8_paste_38 (by decide) ⟨by decide, by decide⟩ (fun h5 => ?_) (fun h5 => ?_)
          · refine h_bipush C dX8_paste_49 (by decide) ?_
            refine h_ireturn C hr hk dX8_paste_51 ?_
            exact ⟨⟨_, rfl, ⟨by decide, by decide⟩, by omega⟩, rfl⟩
          · exfalso; omega
        · refine h_aaload (t0 := 6) C dX8_paste_30 kd_16 (by decide) (by decide) rfl 1 rfl (by rw [ln_16]; decide) (by decide +kernel : hprf 16 1 = 189) ?_
          refine h_astore (lv' := [(7, .ref (z + 189)), (6, .ref (z + 187)), (0, .ref (z + 0)), (1, .int (hpI 0)), (2, .int (hpI b)), (3, .int (hpI 1)), (4, .int (hpI d0)), (5, .int (hpI e0))]) C dX8_paste_31 (by decide) rfl ?_
          refine h_aload C dX8_paste_33 1 rfl ?_
          refine h_getN C O6 1 kd_187 (by decide) nw_335 dX8_paste_35 (fi_187_1 h_187_1) ?_
          refine h_if_eq (tgt := 49) C dX8_paste_38 (by decide) ⟨by decide, by decide⟩ (fun h6 => ?_) (fun h6 => ?_)
          · refine h_bipush C dX8_paste_49 (by decide) ?_
            refine h_ireturn C hr hk dX8_paste_51 ?_
            exact ⟨⟨_, rfl, ⟨by decide, by decide⟩, by omega⟩, rfl⟩
          · exfalso; omega
        · refine h_aaload (t0 := 6) C dX8_paste_30 kd_16 (by decide) (by decide) rfl 2 rfl (by rw [ln_16]; decide) (by decide +kernel : hprf 16 2 = 191) ?_
          refine h_astore (lv' := [(7, .ref (z + 191)), (6, .ref (z + 187)), (0, .ref (z + 0)), (1, .int (hpI 0)), (2, .int (hpI b)), (3, .int (hpI 2)), (4, .int (hpI d0)), (5, .int (hpI e0))]) C dX8_paste_31 (by decide) rfl ?_
          refine h_aload C dX8_paste_33 1 rfl ?_
          refine h_getN C O6 1 kd_187 (by decide) nw_335 dX8_paste_35 (fi_187_1 h_187_1) ?_
          refine h_if_eq (tgt := 49) C dX8_paste_38 (by decide) ⟨by decide, by decide⟩ (fun h7 => ?_) (fun h7 => ?_)
          · refine h_bipush C dX8_paste_49 (by decide) ?_
            refine h_ireturn C hr hk dX8_paste_51 ?_
            exact ⟨⟨_, rfl, ⟨by decide, by decide⟩, by omega⟩, rfl⟩
          · exfalso; omega
        · refine h_aaload (t0 := 6) C dX8_paste_30 kd_16 (by decide) (by decide) rfl 3 rfl (by rw [ln_16]; decide) (by decide +kernel : hprf 16 3 = 193) ?_
          refine h_astore (lv' := [(7, .ref (z + 193)), (6, .ref (z + 187)), (0, .ref (z + 0)), (1, .int (hpI 0)), (2, .int (hpI b)), (3, .int (hpI 3)), (4, .int (hpI d0)), (5, .int (hpI e0))]) C dX8_paste_31 (by decide) rfl ?_
          refine h_aload C dX8_paste_33 1 rfl ?_
          refine h_getN C O6 1 kd_187 (by decide) nw_335 dX8_paste_35 (fi_187_1 h_187_1) ?_
          refine h_if_eq (tgt := 49) C dX8_paste_38 (by decide) ⟨by decide, by decide⟩ (fun h8 => ?_) (fun h8 => ?_)
          · refine h_bipush C dX8_paste_49 (by decide) ?_
            refine h_ireturn C hr hk dX8_paste_51 ?_
            exact ⟨⟨_, rfl, ⟨by decide, by decide⟩, by omega⟩, rfl⟩
          · exfalso; omega
      · refine h_aaload (t0 := 6) C dX8_paste_22 kd_16 (by decide) (by decide) rfl 1 rfl (by rw [ln_16]; decide) (by decide +kernel : hprf 16 1 = 189) ?_
        refine h_astore (lv' := [(6, .ref (z + 189)), (0, .ref (z + 0)), (1, .int (hpI 1)), (2, .int (hpI b)), (3, .int (hpI c0)), (4, .int (hpI d0)), (5, .int (hpI e0))]) C dX8_paste_23 (by decide) rfl ?_
        refine h_aload_n C dX8_paste_25 1 rfl rfl ?_
        refine h_get C O8 4 kd_0 (by decide) wd_353 dX8_paste_26 fr_0_4 ?_
        refine h_iload_n C dX8_paste_29 4 rfl rfl ?_
        rcases (show c0 = 0 ∨ c0 = 1 ∨ c0 = 2 ∨ c0 = 3 by omega) with rfl | rfl | rfl | rfl
        · refine h_aaload (t0 := 6) C dX8_paste_30 kd_16 (by decide) (by decide) rfl 0 rfl (by rw [ln_16]; decide) (by decide +kernel : hprf 16 0 = 187) ?_
          refine h_astore (lv' := [(7, .ref (z + 187)), (6, .ref (z + 189)), (0, .ref (z + 0)), (1, .int (hpI 1)), (2, .int (hpI b)), (3, .int (hpI 0)), (4, .int (hpI d0)), (5, .int (hpI e0))]) C dX8_paste_31 (by decide) rfl ?_
          refine h_aload C dX8_paste_33 1 rfl ?_
          refine h_getN C O6 1 kd_189 (by decide) nw_335 dX8_paste_35 (fi_189_1 h_189_1) ?_
          refine h_if_eq (tgt := 49) C dX8_paste_38 (by decide) ⟨by decide, by decide⟩ (fun h9 => ?_) (fun h9 => ?_)
          · refine h_bipush C dX8_paste_49 (by decide) ?_
            refine h_ireturn C hr hk dX8_paste_51 ?_
            exact ⟨⟨_, rfl, ⟨by decide, by decide⟩, by omega⟩, rfl⟩
          · exfalso; omega
        · refine h_aaload (t0 := 6) C dX8_paste_30 kd_16 (by decide) (by decide) rfl 1 rfl (by rw [ln_16]; decide) (by decide +kernel : hprf 16 1 = 189) ?_
          refine h_astore (lv' := [(7, .ref (z + 189)), (6, .ref (z + 189)), (0, .ref (z + 0)), (1, .int (hpI 1)), (2, .int (hpI b)), (3, .int (hpI 1)), (4, .int (hpI d0)), (5, .int (hpI e0))]) C dX8_paste_31 (by decide) rfl ?_
          refine h_aload C dX8_paste_33 1 rfl ?_
          refine h_getN C O6 1 kd_189 (by decide) nw_335 dX8_paste_35 (fi_189_1 h_189_1) ?_
          refine h_if_eq (tgt := 49) C dX8_paste_38 (by decide) ⟨by decide, by decide⟩ (fun h10 => ?_) (fun h10 => ?_)
          · refine h_bipush C dX8_paste_49 (by decide) ?_
            refine h_ireturn C hr hk dX8_paste_51 ?_
            exact ⟨⟨_, rfl, ⟨by decide, by decide⟩, by omega⟩, rfl⟩
          · exfalso; omega
        · refine h_aaload (t0 := 6) C dX8_paste_30 kd_16 (by decide) (by decide) rfl 2 rfl (by rw [ln_16]; decide) (by decide +kernel : hprf 16 2 = 191) ?_
          refine h_astore (lv' := [(7, .ref (z + 191)), (6, .ref (z + 189)), (0, .ref (z + 0)), (1, .int (hpI 1)), (2, .int (hpI b)), (3, .int (hpI 2)), (4, .int (hpI d0)), (5, .int (hpI e0))]) C dX8_paste_31 (by decide) rfl ?_
          refine h_aload C dX8_paste_33 1 rfl ?_
          refine h_getN C O6 1 kd_189 (by decide) nw_335 dX8_paste_35 (fi_189_1 h_189_1) ?_
          refine h_if_eq (tgt := 49) C dX8_paste_38 (by decide) ⟨by decide, by decide⟩ (fun h11 => ?_) (fun h11 => ?_)
          · refine h_bipush C dX8_paste_49 (by decide) ?_
            refine h_ireturn C hr hk dX8_paste_51 ?_
            exact ⟨⟨_, rfl, ⟨by decide, by decide⟩, by omega⟩, rfl⟩
          · exfalso; omega
        · refine h_aaload (t0 := 6) C dX8_paste_30 kd_16 (by decide) (by decide) rfl 3 rfl (by rw [ln_16]; decide) (by decide +kernel : hprf 16 3 = 193) ?_
          refine h_astore (lv' := [(7, .ref (z + 193)), (6, .ref (z + 189)), (0, .ref (z + 0)), (1, .int (hpI 1)), (2, .int (hpI b)), (3, .int (hpI 3)), (4, .int (hpI d0)), (5, .int (hpI e0))]) C dX8_paste_31 (by decide) rfl ?_
          refine h_aload C dX8_paste_33 1 rfl ?_
          refine h_getN C O6 1 kd_189 (by decide) nw_335 dX8_paste_35 (fi_189_1 h_189_1) ?_
          refine h_if_eq (tgt := 49) C dX8_paste_38 (by decide) ⟨by decide, by decide⟩ (fun h12 => ?_) (fun h12 => ?_)
          · refine h_bipush C dX8_paste_49 (by decide) ?_
            refine h_ireturn C hr hk dX8_paste_51 ?_
            exact ⟨⟨_, rfl, ⟨by decide, by decide⟩, by omega⟩, rfl⟩
          · exfalso; omega
      · refine h_aaload (t0 := 6) C dX8_paste_22 kd_16 (by decide) (by decide) rfl 2 rfl (by rw [ln_16]; decide) (by decide +kernel : hprf 16 2 = 191) ?_
        refine h_astore (lv' := [(6, .ref (z + 191)), (0, .ref (z + 0)), (1, .int (hpI 2)), (2, .int (hpI b)), (3, .int (hpI c0)), (4, .int (hpI d0)), (5, .int (hpI e0))]) C dX8_paste_23 (by decide) rfl ?_
        refine h_aload_n C dX8_paste_25 1 rfl rfl ?_
        refine h_get C O8 4 kd_0 (by decide) wd_353 dX8_paste_26 fr_0_4 ?_
        refine h_iload_n C dX8_paste_29 4 rfl rfl ?_
        rcases (show c0 = 0 ∨ c0 = 1 ∨ c0 = 2 ∨ c0 = 3 by omega) with rfl | rfl | rfl | rfl
        · refine h_aaload (t0 := 6) C dX8_paste_30 kd_16 (by decide) (by decide) rfl 0 rfl (by rw [ln_16]; decide) (by decide +kernel : hprf 16 0 = 187) ?_
          refine h_astore (lv' := [(7, .ref (z + 187)), (6, .ref (z + 191)), (0, .ref (z + 0)), (1, .int (hpI 2)), (2, .int (hpI b)), (3, .int (hpI 0)), (4, .int (hpI d0)), (5, .int (hpI e0))]) C dX8_paste_31 (by decide) rfl ?_
          refine h_aload C dX8_paste_33 1 rfl ?_
          refine h_getN C O6 1 kd_191 (by decide) nw_335 dX8_paste_35 (fi_191_1 h_191_1) ?_
          refine h_if_eq (tgt := 49) C dX8_paste_38 (by decide) ⟨by decide, by decide⟩ (fun h13 => ?_) (fun h13 => ?_)
          · refine h_bipush C dX8_paste_49 (by decide) ?_
            refine h_ireturn C hr hk dX8_paste_51 ?_
            exact ⟨⟨_, rfl, ⟨by decide, by decide⟩, by omega⟩, rfl⟩
          · exfalso; omega
        · refine h_aaload (t0 := 6) C dX8_paste_30 kd_16 (by decide) (by decide) rfl 1 rfl (by rw [ln_16]; decide) (by decide +kernel : hprf 16 1 = 189) ?_
          refine h_astore (lv' := [(7, .ref (z + 189)), (6, .ref (z + 191)), (0, .ref (z + 0)), (1, .int (hpI 2)), (2, .int (hpI b)), (3, .int (hpI 1)), (4, .int (hpI d0)), (5, .int (hpI e0))]) C dX8_paste_31 (by decide) rfl ?_
          refine h_aload C dX8_paste_33 1 rfl ?_
          refine h_getN C O6 1 kd_191 (by decide) nw_335 dX8_paste_35 (fi_191_1 h_191_1) ?_
          refine h_if_eq (tgt := 49) C dX8_paste_38 (by decide) ⟨by decide, by decide⟩ (fun h14 => ?_) (fun h14 => ?_)
          · refine h_bipush C dX8_paste_49 (by decide) ?_
            refine h_ireturn C hr hk dX8_paste_51 ?_
            exact ⟨⟨_, rfl, ⟨by decide, by decide⟩, by omega⟩, rfl⟩
          · exfalso; omega
        · refine h_aaload (t0 := 6) C dX8_paste_30 kd_16 (by decide) (by decide) rfl 2 rfl (by rw [ln_16]; decide) (by decide +kernel : hprf 16 2 = 191) ?_
          refine h_astore (lv' := [(7, .ref (z + 191)), (6, .ref (z + 191)), (0, .ref (z + 0)), (1, .int (hpI 2)), (2, .int (hpI b)), (3, .int (hpI 2)), (4, .int (hpI d0)), (5, .int (hpI e0))]) C dX8_paste_31 (by decide) rfl ?_
          refine h_aload C dX8_paste_33 1 rfl ?_
          refine h_getN C O6 1 kd_191 (by decide) nw_335 dX8_paste_35 (fi_191_1 h_191_1) ?_
          refine h_if_eq (tgt := 49) C dX8_paste_38 (by decide) ⟨by decide, by decide⟩ (fun h15 => ?_) (fun h15 => ?_)
          · refine h_bipush C dX8_paste_49 (by decide) ?_
            refine h_ireturn C hr hk dX8_paste_51 ?_
            exact ⟨⟨_, rfl, ⟨by decide, by decide⟩, by omega⟩, rfl⟩
          · exfalso; omega
        · refine h_aaload (t0 := 6) C dX8_paste_30 kd_16 (by decide) (by decide) rfl 3 rfl (by rw [ln_16]; decide) (by decide +kernel : hprf 16 3 = 193) ?_
          refine h_astore (lv' := [(7, .ref (z + 193)), (6, .ref (z + 191)), (0, .ref (z + 0)), (1, .int (hpI 2)), (2, .int (hpI b)), (3, .int (hpI 3)), (4, .int (hpI d0)), (5, .int (hpI e0))]) C dX8_paste_31 (by decide) rfl ?_
          refine h_aload C dX8_paste_33 1 rfl ?_
          refine h_getN C O6 1 kd_191 (by decide) nw_335 dX8_paste_35 (fi_191_1 h_191_1) ?_
          refine h_if_eq (tgt := 49) C dX8_paste_38 (by decide) ⟨by decide, by decide⟩ (fun h16 => ?_) (fun h16 => ?_)
          · refine h_bipush C dX8_paste_49 (by decide) ?_
            refine h_ireturn C hr hk dX8_paste_51 ?_
            exact ⟨⟨_, rfl, ⟨by decide, by decide⟩, by omega⟩, rfl⟩
          · exfalso; omega
      · refine h_aaload (t0 := 6) C dX8_paste_22 kd_16 (by decide) (by decide) rfl 3 rfl (by rw [ln_16]; decide) (by decide +kernel : hprf 16 3 = 193) ?_
        refine h_astore (lv' := [(6, .ref (z + 193)), (0, .ref (z + 0)), (1, .int (hpI 3)), (2, .int (hpI b)), (3, .int (hpI c0)), (4, .int (hpI d0)), (5, .int (hpI e0))]) C dX8_paste_23 (by decide) rfl ?_
        refine h_aload_n C dX8_paste_25 1 rfl rfl ?_
        refine h_get C O8 4 kd_0 (by decide) wd_353 dX8_paste_26 fr_0_4 ?_
        refine h_iload_n C dX8_paste_29 4 rfl rfl ?_
        rcases (show c0 = 0 ∨ c0 = 1 ∨ c0 = 2 ∨ c0 = 3 by omega) with rfl | rfl | rfl | rfl
        · refine h_aaload (t0 := 6) C dX8_paste_30 kd_16 (by decide) (by decide) rfl 0 rfl (by rw [ln_16]; decide) (by decide +kernel : hprf 16 0 = 187) ?_
          refine h_astore (lv' := [(7, .ref (z + 187)), (6, .ref (z + 193)), (0, .ref (z + 0)), (1, .int (hpI 3)), (2, .int (hpI b)), (3, .int (hpI 0)), (4, .int (hpI d0)), (5, .int (hpI e0))]) C dX8_paste_31 (by decide) rfl ?_
          refine h_aload C dX8_paste_33 1 rfl ?_
          refine h_getN C O6 1 kd_193 (by decide) nw_335 dX8_paste_35 (fi_193_1 h_193_1) ?_
          refine h_if_eq (tgt := 49) C dX8_paste_38 (by decide) ⟨by decide, by decide⟩ (fun h17 => ?_) (fun h17 => ?_)
          · refine h_bipush C dX8_paste_49 (by decide) ?_
            refine h_ireturn C hr hk dX8_paste_51 ?_
            exact ⟨⟨_, rfl, ⟨by decide, by decide⟩, by omega⟩, rfl⟩
          · exfalso; omega
        · refine h_aaload (t0 := 6) C dX8_paste_30 kd_16 (by decide) (by decide) rfl 1 rfl (by rw [ln_16]; decide) (by decide +kernel : hprf 16 1 = 189) ?_
          refine h_astore (lv' := [(7, .ref (z + 189)), (6, .ref (z + 193)), (0, .ref (z + 0)), (1, .int (hpI 3)), (2, .int (hpI b)), (3, .int (hpI 1)), (4, .int (hpI d0)), (5, .int (hpI e0))]) C dX8_paste_31 (by decide) rfl ?_
          refine h_aload C dX8_paste_33 1 rfl ?_
          refine h_getN C O6 1 kd_193 (by decide) nw_335 dX8_paste_35 (fi_193_1 h_193_1) ?_
          refine h_if_eq (tgt := 49) C dX8_paste_38 (by decide) ⟨by decide, by decide⟩ (fun h18 => ?_) (fun h18 => ?_)
          · refine h_bipush C dX8_paste_49 (by decide) ?_
            refine h_ireturn C hr hk dX8_paste_51 ?_
            exact ⟨⟨_, rfl, ⟨by decide, by decide⟩, by omega⟩, rfl⟩
          · exfalso; omega
        · refine h_aaload (t0 := 6) C dX8_paste_30 kd_16 (by decide) (by decide) rfl 2 rfl (by rw [ln_16]; decide) (by decide +kernel : hprf 16 2 = 191) ?_
          refine h_astore (lv' := [(7, .ref (z + 191)), (6, .ref (z + 193)), (0, .ref (z + 0)), (1, .int (hpI 3)), (2, .int (hpI b)), (3, .int (hpI 2)), (4, .int (hpI d0)), (5, .int (hpI e0))]) C dX8_paste_31 (by decide) rfl ?_
          refine h_aload C dX8_paste_33 1 rfl ?_
          refine h_getN C O6 1 kd_193 (by decide) nw_335 dX8_paste_35 (fi_193_1 h_193_1) ?_
          refine h_if_eq (tgt := 49) C dX8_paste_38 (by decide) ⟨by decide, by decide⟩ (fun h19 => ?_) (fun h19 => ?_)
          · refine h_bipush C dX8_paste_49 (by decide) ?_
            refine h_ireturn C hr hk dX8_paste_51 ?_
            exact ⟨⟨_, rfl, ⟨by decide, by decide⟩, by omega⟩, rfl⟩
          · exfalso; omega
        · refine h_aaload (t0 := 6) C dX8_paste_30 kd_16 (by decide) (by decide) rfl 3 rfl (by rw [ln_16]; decide) (by decide +kernel : hprf 16 3 = 193) ?_
          refine h_astore (lv' := [(7, .ref (z + 193)), (6, .ref (z + 193)), (0, .ref (z + 0)), (1, .int (hpI 3)), (2, .int (hpI b)), (3, .int (hpI 3)), (4, .int (hpI d0)), (5, .int (hpI e0))]) C dX8_paste_31 (by decide) rfl ?_
          refine h_aload C dX8_paste_33 1 rfl ?_
          refine h_getN C O6 1 kd_193 (by decide) nw_335 dX8_paste_35 (fi_193_1 h_193_1) ?_
          refine h_if_eq (tgt := 49) C dX8_paste_38 (by decide) ⟨by decide, by decide⟩ (fun h20 => ?_) (fun h20 => ?_)
          · refine h_bipush C dX8_paste_49 (by decide) ?_
            refine h_ireturn C hr hk dX8_paste_51 ?_
            exact ⟨⟨_, rfl, ⟨by decide, by decide⟩, by omega⟩, rfl⟩
          · exfalso; omega
    · refine h_bipush C dX8_paste_14 (by decide) ?_
      refine h_ireturn C hr hk dX8_paste_16 ?_
      exact ⟨⟨_, rfl, ⟨by decide, by decide⟩, by omega⟩, rfl⟩
end
