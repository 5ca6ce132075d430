section
-- ===== PART A: goes FIRST, ahead of the names: the tables' words, and 'selects' of the private methods out of them =====
/-- a private method of a class that the tables say can be made, by its rows of tables_1 -/
def lw_okq (q : MethodName × Nat) : Prop := (q.1.cls ≠ "java/lang/invoke/MethodHandle" ∧ q.1.cls ≠ "java/lang/invoke/VarHandle") ∧ Cond.instantiable q.1.cls q.2 ∈ tables_1 ∧ Cond.privateMethod q.1 ∈ tables_1 ∧ Cond.instanceMethod q.1 ∈ tables_1
theorem lw_p0 : lw_okq (⟨"InkPad", "endPart", "(I)Z"⟩, 10) := ⟨⟨by decide +kernel, by decide +kernel⟩, List.mem_of_getElem? (i := 13) (by decide +kernel), List.mem_of_getElem? (i := 356) (by decide +kernel), List.mem_of_getElem? (i := 357) (by decide +kernel)⟩
theorem lw_p1 : lw_okq (⟨"InkPad", "replace", "(I)I"⟩, 10) := ⟨⟨by decide +kernel, by decide +kernel⟩, List.mem_of_getElem? (i := 13) (by decide +kernel), List.mem_of_getElem? (i := 388) (by decide +kernel), List.mem_of_getElem? (i := 389) (by decide +kernel)⟩
theorem lw_p2 : lw_okq (⟨"InkPad$Sheet", "leastFrom", "(II)I"⟩, 2) := ⟨⟨by decide +kernel, by decide +kernel⟩, List.mem_of_getElem? (i := 57) (by decide +kernel), List.mem_of_getElem? (i := 427) (by decide +kernel), List.mem_of_getElem? (i := 428) (by decide +kernel)⟩
theorem lw_p3 : lw_okq (⟨"InkPad$Sheet", "greatestFrom", "(II)I"⟩, 2) := ⟨⟨by decide +kernel, by decide +kernel⟩, List.mem_of_getElem? (i := 57) (by decide +kernel), List.mem_of_getElem? (i := 436) (by decide +kernel), List.mem_of_getElem? (i := 437) (by decide +kernel)⟩
theorem lw_p4 : lw_okq (⟨"InkPad$History", "show", "(LInkPad$Sheet;)V"⟩, 5) := ⟨⟨by decide +kernel, by decide +kernel⟩, List.mem_of_getElem? (i := 76) (by decide +kernel), List.mem_of_getElem? (i := 471) (by decide +kernel), List.mem_of_getElem? (i := 472) (by decide +kernel)⟩
theorem lw_p5 : lw_okq (⟨"InkPad", "layOut", "()V"⟩, 10) := ⟨⟨by decide +kernel, by decide +kernel⟩, List.mem_of_getElem? (i := 13) (by decide +kernel), List.mem_of_getElem? (i := 495) (by decide +kernel), List.mem_of_getElem? (i := 496) (by decide +kernel)⟩
theorem lw_p6 : lw_okq (⟨"InkPad$Lines", "bestFor", "(II)I"⟩, 8) := ⟨⟨by decide +kernel, by decide +kernel⟩, List.mem_of_getElem? (i := 100) (by decide +kernel), List.mem_of_getElem? (i := 505) (by decide +kernel), List.mem_of_getElem? (i := 506) (by decide +kernel)⟩
theorem lw_p7 : lw_okq (⟨"InkPad$Lines", "rank", "(I)V"⟩, 8) := ⟨⟨by decide +kernel, by decide +kernel⟩, List.mem_of_getElem? (i := 100) (by decide +kernel), List.mem_of_getElem? (i := 511) (by decide +kernel), List.mem_of_getElem? (i := 512) (by decide +kernel)⟩
theorem lw_p8 : lw_okq (⟨"InkPad$Lines", "isBefore", "(II)Z"⟩, 8) := ⟨⟨by decide +kernel, by decide +kernel⟩, List.mem_of_getElem? (i := 100) (by decide +kernel), List.mem_of_getElem? (i := 515) (by decide +kernel), List.mem_of_getElem? (i := 516) (by decide +kernel)⟩
theorem lw_p9 : lw_okq (⟨"InkPad$Words", "setOrder", "(LInkPad$Sheet;LInkPad$Lines;)V"⟩, 12) := ⟨⟨by decide +kernel, by decide +kernel⟩, List.mem_of_getElem? (i := 137) (by decide +kernel), List.mem_of_getElem? (i := 523) (by decide +kernel), List.mem_of_getElem? (i := 524) (by decide +kernel)⟩
theorem lw_p10 : lw_okq (⟨"InkPad$Words", "isBefore", "(IILInkPad$Lines;)Z"⟩, 12) := ⟨⟨by decide +kernel, by decide +kernel⟩, List.mem_of_getElem? (i := 137) (by decide +kernel), List.mem_of_getElem? (i := 528) (by decide +kernel), List.mem_of_getElem? (i := 529) (by decide +kernel)⟩
theorem lw_p11 : lw_okq (⟨"InkPad$Tally", "add", "(I)V"⟩, 4) := ⟨⟨by decide +kernel, by decide +kernel⟩, List.mem_of_getElem? (i := 191) (by decide +kernel), List.mem_of_getElem? (i := 596) (by decide +kernel), List.mem_of_getElem? (i := 597) (by decide +kernel)⟩
theorem lw_p12 : lw_okq (⟨"InkPadModel", "push", "()V"⟩, 31) := ⟨⟨by decide +kernel, by decide +kernel⟩, List.mem_of_getElem? (i := 605) (by decide +kernel), List.mem_of_getElem? (i := 716) (by decide +kernel), List.mem_of_getElem? (i := 717) (by decide +kernel)⟩
theorem lw_p13 : lw_okq (⟨"InkPadModel", "add", "(II)V"⟩, 31) := ⟨⟨by decide +kernel, by decide +kernel⟩, List.mem_of_getElem? (i := 605) (by decide +kernel), List.mem_of_getElem? (i := 730) (by decide +kernel), List.mem_of_getElem? (i := 731) (by decide +kernel)⟩
theorem lw_p14 : lw_okq (⟨"InkPadModel", "isLast", "(II)Z"⟩, 31) := ⟨⟨by decide +kernel, by decide +kernel⟩, List.mem_of_getElem? (i := 605) (by decide +kernel), List.mem_of_getElem? (i := 734) (by decide +kernel), List.mem_of_getElem? (i := 735) (by decide +kernel)⟩
theorem lw_p15 : lw_okq (⟨"InkPadModel", "readPoint", "()V"⟩, 31) := ⟨⟨by decide +kernel, by decide +kernel⟩, List.mem_of_getElem? (i := 605) (by decide +kernel), List.mem_of_getElem? (i := 754) (by decide +kernel), List.mem_of_getElem? (i := 755) (by decide +kernel)⟩
def lw_privs_1 : List (MethodName × Nat) := [(⟨"InkPad", "endPart", "(I)Z"⟩, 10), (⟨"InkPad", "replace", "(I)I"⟩, 10), (⟨"InkPad$Sheet", "leastFrom", "(II)I"⟩, 2), (⟨"InkPad$Sheet", "greatestFrom", "(II)I"⟩, 2), (⟨"InkPad$History", "show", "(LInkPad$Sheet;)V"⟩, 5), (⟨"InkPad", "layOut", "()V"⟩, 10), (⟨"InkPad$Lines", "bestFor", "(II)I"⟩, 8), (⟨"InkPad$Lines", "rank", "(I)V"⟩, 8), (⟨"InkPad$Lines", "isBefore", "(II)Z"⟩, 8), (⟨"InkPad$Words", "setOrder", "(LInkPad$Sheet;LInkPad$Lines;)V"⟩, 12), (⟨"InkPad$Words", "isBefore", "(IILInkPad$Lines;)Z"⟩, 12), (⟨"InkPad$Tally", "add", "(I)V"⟩, 4), (⟨"InkPadModel", "push", "()V"⟩, 31), (⟨"InkPadModel", "add", "(II)V"⟩, 31), (⟨"InkPadModel", "isLast", "(II)Z"⟩, 31), (⟨"InkPadModel", "readPoint", "()V"⟩, 31)]
theorem lw_r1 : ∀ q ∈ lw_privs_1, lw_okq q := List.forall_mem_cons.mpr ⟨lw_p0, List.forall_mem_cons.mpr ⟨lw_p1, List.forall_mem_cons.mpr ⟨lw_p2, List.forall_mem_cons.mpr ⟨lw_p3, List.forall_mem_cons.mpr ⟨lw_p4, List.forall_mem_cons.mpr ⟨lw_p5, List.forall_mem_cons.mpr ⟨lw_p6, List.forall_mem_cons.mpr ⟨lw_p7, List.forall_mem_cons.mpr ⟨lw_p8, List.forall_mem_cons.mpr ⟨lw_p9, List.forall_mem_cons.mpr ⟨lw_p10, List.forall_mem_cons.mpr ⟨lw_p11, List.forall_mem_cons.mpr ⟨lw_p12, List.forall_mem_cons.mpr ⟨lw_p13, List.forall_mem_cons.mpr ⟨lw_p14, List.forall_mem_cons.mpr ⟨lw_p15, fun _ h => absurd h List.not_mem_nil⟩⟩⟩⟩⟩⟩⟩⟩⟩⟩⟩⟩⟩⟩⟩⟩
theorem lw_p16 : lw_okq (⟨"InkPadModel", "number", "()I"⟩, 31) := ⟨⟨by decide +kernel, by decide +kernel⟩, List.mem_of_getElem? (i := 605) (by decide +kernel), List.mem_of_getElem? (i := 758) (by decide +kernel), List.mem_of_getElem? (i := 759) (by decide +kernel)⟩
theorem lw_p17 : lw_okq (⟨"InkPadModel", "isAt", "(CC)Z"⟩, 31) := ⟨⟨by decide +kernel, by decide +kernel⟩, List.mem_of_getElem? (i := 605) (by decide +kernel), List.mem_of_getElem? (i := 762) (by decide +kernel), List.mem_of_getElem? (i := 763) (by decide +kernel)⟩
theorem lw_p18 : lw_okq (⟨"InkPadModel", "strokes", "()I"⟩, 31) := ⟨⟨by decide +kernel, by decide +kernel⟩, List.mem_of_getElem? (i := 605) (by decide +kernel), List.mem_of_getElem? (i := 770) (by decide +kernel), List.mem_of_getElem? (i := 771) (by decide +kernel)⟩
theorem lw_p19 : lw_okq (⟨"InkPadModel", "begin", "()V"⟩, 31) := ⟨⟨by decide +kernel, by decide +kernel⟩, List.mem_of_getElem? (i := 605) (by decide +kernel), List.mem_of_getElem? (i := 774) (by decide +kernel), List.mem_of_getElem? (i := 775) (by decide +kernel)⟩
theorem lw_p20 : lw_okq (⟨"InkPadModel", "copyStroke", "(I)V"⟩, 31) := ⟨⟨by decide +kernel, by decide +kernel⟩, List.mem_of_getElem? (i := 605) (by decide +kernel), List.mem_of_getElem? (i := 778) (by decide +kernel), List.mem_of_getElem? (i := 779) (by decide +kernel)⟩
theorem lw_p21 : lw_okq (⟨"InkPadModel", "addStroke", "(I)V"⟩, 31) := ⟨⟨by decide +kernel, by decide +kernel⟩, List.mem_of_getElem? (i := 605) (by decide +kernel), List.mem_of_getElem? (i := 782) (by decide +kernel), List.mem_of_getElem? (i := 783) (by decide +kernel)⟩
theorem lw_p22 : lw_okq (⟨"InkPadModel", "size", "(I)I"⟩, 31) := ⟨⟨by decide +kernel, by decide +kernel⟩, List.mem_of_getElem? (i := 605) (by decide +kernel), List.mem_of_getElem? (i := 786) (by decide +kernel), List.mem_of_getElem? (i := 787) (by decide +kernel)⟩
theorem lw_p23 : lw_okq (⟨"InkPadModel", "x", "(II)I"⟩, 31) := ⟨⟨by decide +kernel, by decide +kernel⟩, List.mem_of_getElem? (i := 605) (by decide +kernel), List.mem_of_getElem? (i := 790) (by decide +kernel), List.mem_of_getElem? (i := 791) (by decide +kernel)⟩
theorem lw_p24 : lw_okq (⟨"InkPadModel", "y", "(II)I"⟩, 31) := ⟨⟨by decide +kernel, by decide +kernel⟩, List.mem_of_getElem? (i := 605) (by decide +kernel), List.mem_of_getElem? (i := 794) (by decide +kernel), List.mem_of_getElem? (i := 795) (by decide +kernel)⟩
theorem lw_p25 : lw_okq (⟨"InkPadModel", "addPoint", "(II)V"⟩, 31) := ⟨⟨by decide +kernel, by decide +kernel⟩, List.mem_of_getElem? (i := 605) (by decide +kernel), List.mem_of_getElem? (i := 798) (by decide +kernel), List.mem_of_getElem? (i := 799) (by decide +kernel)⟩
theorem lw_p26 : lw_okq (⟨"InkPadModel", "become", "()V"⟩, 31) := ⟨⟨by decide +kernel, by decide +kernel⟩, List.mem_of_getElem? (i := 605) (by decide +kernel), List.mem_of_getElem? (i := 802) (by decide +kernel), List.mem_of_getElem? (i := 803) (by decide +kernel)⟩
theorem lw_p27 : lw_okq (⟨"InkPadModel", "record", "()V"⟩, 31) := ⟨⟨by decide +kernel, by decide +kernel⟩, List.mem_of_getElem? (i := 605) (by decide +kernel), List.mem_of_getElem? (i := 806) (by decide +kernel), List.mem_of_getElem? (i := 807) (by decide +kernel)⟩
theorem lw_p28 : lw_okq (⟨"InkPadModel", "noStroke", "(I)Z"⟩, 31) := ⟨⟨by decide +kernel, by decide +kernel⟩, List.mem_of_getElem? (i := 605) (by decide +kernel), List.mem_of_getElem? (i := 821) (by decide +kernel), List.mem_of_getElem? (i := 822) (by decide +kernel)⟩
theorem lw_p29 : lw_okq (⟨"InkPadModel", "take", "(I)V"⟩, 31) := ⟨⟨by decide +kernel, by decide +kernel⟩, List.mem_of_getElem? (i := 605) (by decide +kernel), List.mem_of_getElem? (i := 825) (by decide +kernel), List.mem_of_getElem? (i := 826) (by decide +kernel)⟩
theorem lw_p30 : lw_okq (⟨"InkPadModel", "smoothOnce", "()V"⟩, 31) := ⟨⟨by decide +kernel, by decide +kernel⟩, List.mem_of_getElem? (i := 605) (by decide +kernel), List.mem_of_getElem? (i := 829) (by decide +kernel), List.mem_of_getElem? (i := 830) (by decide +kernel)⟩
theorem lw_p31 : lw_okq (⟨"InkPadModel", "dropSame", "()V"⟩, 31) := ⟨⟨by decide +kernel, by decide +kernel⟩, List.mem_of_getElem? (i := 605) (by decide +kernel), List.mem_of_getElem? (i := 833) (by decide +kernel), List.mem_of_getElem? (i := 834) (by decide +kernel)⟩
def lw_privs_2 : List (MethodName × Nat) := [(⟨"InkPadModel", "number", "()I"⟩, 31), (⟨"InkPadModel", "isAt", "(CC)Z"⟩, 31), (⟨"InkPadModel", "strokes", "()I"⟩, 31), (⟨"InkPadModel", "begin", "()V"⟩, 31), (⟨"InkPadModel", "copyStroke", "(I)V"⟩, 31), (⟨"InkPadModel", "addStroke", "(I)V"⟩, 31), (⟨"InkPadModel", "size", "(I)I"⟩, 31), (⟨"InkPadModel", "x", "(II)I"⟩, 31), (⟨"InkPadModel", "y", "(II)I"⟩, 31), (⟨"InkPadModel", "addPoint", "(II)V"⟩, 31), (⟨"InkPadModel", "become", "()V"⟩, 31), (⟨"InkPadModel", "record", "()V"⟩, 31), (⟨"InkPadModel", "noStroke", "(I)Z"⟩, 31), (⟨"InkPadModel", "take", "(I)V"⟩, 31), (⟨"InkPadModel", "smoothOnce", "()V"⟩, 31), (⟨"InkPadModel", "dropSame", "()V"⟩, 31)]
theorem lw_r2 : ∀ q ∈ lw_privs_2, lw_okq q := List.forall_mem_cons.mpr ⟨lw_p16, List.forall_mem_cons.mpr ⟨lw_p17, List.forall_mem_cons.mpr ⟨lw_p18, List.forall_mem_cons.mpr ⟨lw_p19, List.forall_mem_cons.mpr ⟨lw_p20, List.forall_mem_cons.mpr ⟨lw_p21, List.forall_mem_cons.mpr ⟨lw_p22, List.forall_mem_cons.mpr ⟨lw_p23, List.forall_mem_cons.mpr ⟨lw_p24, List.forall_mem_cons.mpr ⟨lw_p25, List.forall_mem_cons.mpr ⟨lw_p26, List.forall_mem_cons.mpr ⟨lw_p27, List.forall_mem_cons.mpr ⟨lw_p28, List.forall_mem_cons.mpr ⟨lw_p29, List.forall_mem_cons.mpr ⟨lw_p30, List.forall_mem_cons.mpr ⟨lw_p31, fun _ h => absurd h List.not_mem_nil⟩⟩⟩⟩⟩⟩⟩⟩⟩⟩⟩⟩⟩⟩⟩⟩
theorem lw_p32 : lw_okq (⟨"InkPadModel", "putBack", "(I)I"⟩, 31) := ⟨⟨by decide +kernel, by decide +kernel⟩, List.mem_of_getElem? (i := 605) (by decide +kernel), List.mem_of_getElem? (i := 837) (by decide +kernel), List.mem_of_getElem? (i := 838) (by decide +kernel)⟩
theorem lw_p33 : lw_okq (⟨"InkPadModel", "layOut", "()V"⟩, 31) := ⟨⟨by decide +kernel, by decide +kernel⟩, List.mem_of_getElem? (i := 605) (by decide +kernel), List.mem_of_getElem? (i := 869) (by decide +kernel), List.mem_of_getElem? (i := 870) (by decide +kernel)⟩
theorem lw_p34 : lw_okq (⟨"InkPadModel", "findLines", "()V"⟩, 31) := ⟨⟨by decide +kernel, by decide +kernel⟩, List.mem_of_getElem? (i := 605) (by decide +kernel), List.mem_of_getElem? (i := 873) (by decide +kernel), List.mem_of_getElem? (i := 874) (by decide +kernel)⟩
theorem lw_p35 : lw_okq (⟨"InkPadModel", "bound", "(IZZ)I"⟩, 31) := ⟨⟨by decide +kernel, by decide +kernel⟩, List.mem_of_getElem? (i := 605) (by decide +kernel), List.mem_of_getElem? (i := 877) (by decide +kernel), List.mem_of_getElem? (i := 878) (by decide +kernel)⟩
theorem lw_p36 : lw_okq (⟨"InkPadModel", "mayJoin", "(III)Z"⟩, 31) := ⟨⟨by decide +kernel, by decide +kernel⟩, List.mem_of_getElem? (i := 605) (by decide +kernel), List.mem_of_getElem? (i := 881) (by decide +kernel), List.mem_of_getElem? (i := 882) (by decide +kernel)⟩
theorem lw_p37 : lw_okq (⟨"InkPadModel", "shared", "(III)I"⟩, 31) := ⟨⟨by decide +kernel, by decide +kernel⟩, List.mem_of_getElem? (i := 605) (by decide +kernel), List.mem_of_getElem? (i := 885) (by decide +kernel), List.mem_of_getElem? (i := 886) (by decide +kernel)⟩
theorem lw_p38 : lw_okq (⟨"InkPadModel", "isAbove", "(II)Z"⟩, 31) := ⟨⟨by decide +kernel, by decide +kernel⟩, List.mem_of_getElem? (i := 605) (by decide +kernel), List.mem_of_getElem? (i := 889) (by decide +kernel), List.mem_of_getElem? (i := 890) (by decide +kernel)⟩
theorem lw_p39 : lw_okq (⟨"InkPadModel", "placeOf", "(I)I"⟩, 31) := ⟨⟨by decide +kernel, by decide +kernel⟩, List.mem_of_getElem? (i := 605) (by decide +kernel), List.mem_of_getElem? (i := 893) (by decide +kernel), List.mem_of_getElem? (i := 894) (by decide +kernel)⟩
theorem lw_p40 : lw_okq (⟨"InkPadModel", "isBefore", "(II)Z"⟩, 31) := ⟨⟨by decide +kernel, by decide +kernel⟩, List.mem_of_getElem? (i := 605) (by decide +kernel), List.mem_of_getElem? (i := 897) (by decide +kernel), List.mem_of_getElem? (i := 898) (by decide +kernel)⟩
theorem lw_p41 : lw_okq (⟨"InkPadModel", "lineOf", "(I)I"⟩, 31) := ⟨⟨by decide +kernel, by decide +kernel⟩, List.mem_of_getElem? (i := 605) (by decide +kernel), List.mem_of_getElem? (i := 901) (by decide +kernel), List.mem_of_getElem? (i := 902) (by decide +kernel)⟩
theorem lw_p42 : lw_okq (⟨"InkPadModel", "longOf", "(I)I"⟩, 31) := ⟨⟨by decide +kernel, by decide +kernel⟩, List.mem_of_getElem? (i := 605) (by decide +kernel), List.mem_of_getElem? (i := 905) (by decide +kernel), List.mem_of_getElem? (i := 906) (by decide +kernel)⟩
theorem lw_p43 : lw_okq (⟨"InkPadModel", "ink", "(I)V"⟩, 31) := ⟨⟨by decide +kernel, by decide +kernel⟩, List.mem_of_getElem? (i := 605) (by decide +kernel), List.mem_of_getElem? (i := 936) (by decide +kernel), List.mem_of_getElem? (i := 937) (by decide +kernel)⟩
theorem lw_p44 : lw_okq (⟨"InkPadModel", "inkedCells", "()I"⟩, 31) := ⟨⟨by decide +kernel, by decide +kernel⟩, List.mem_of_getElem? (i := 605) (by decide +kernel), List.mem_of_getElem? (i := 944) (by decide +kernel), List.mem_of_getElem? (i := 945) (by decide +kernel)⟩
theorem lw_p45 : lw_okq (⟨"InkPadModel", "fullest", "()I"⟩, 31) := ⟨⟨by decide +kernel, by decide +kernel⟩, List.mem_of_getElem? (i := 605) (by decide +kernel), List.mem_of_getElem? (i := 952) (by decide +kernel), List.mem_of_getElem? (i := 953) (by decide +kernel)⟩
def lw_privs_3 : List (MethodName × Nat) := [(⟨"InkPadModel", "putBack", "(I)I"⟩, 31), (⟨"InkPadModel", "layOut", "()V"⟩, 31), (⟨"InkPadModel", "findLines", "()V"⟩, 31), (⟨"InkPadModel", "bound", "(IZZ)I"⟩, 31), (⟨"InkPadModel", "mayJoin", "(III)Z"⟩, 31), (⟨"InkPadModel", "shared", "(III)I"⟩, 31), (⟨"InkPadModel", "isAbove", "(II)Z"⟩, 31), (⟨"InkPadModel", "placeOf", "(I)I"⟩, 31), (⟨"InkPadModel", "isBefore", "(II)Z"⟩, 31), (⟨"InkPadModel", "lineOf", "(I)I"⟩, 31), (⟨"InkPadModel", "longOf", "(I)I"⟩, 31), (⟨"InkPadModel", "ink", "(I)V"⟩, 31), (⟨"InkPadModel", "inkedCells", "()I"⟩, 31), (⟨"InkPadModel", "fullest", "()I"⟩, 31)]
theorem lw_r3 : ∀ q ∈ lw_privs_3, lw_okq q := List.forall_mem_cons.mpr ⟨lw_p32, List.forall_mem_cons.mpr ⟨lw_p33, List.forall_mem_cons.mpr ⟨lw_p34, List.forall_mem_cons.mpr ⟨lw_p35, List.forall_mem_cons.mpr ⟨lw_p36, List.forall_mem_cons.mpr ⟨lw_p37, List.forall_mem_cons.mpr ⟨lw_p38, List.forall_mem_cons.mpr ⟨lw_p39, List.forall_mem_cons.mpr ⟨lw_p40, List.forall_mem_cons.mpr ⟨lw_p41, List.forall_mem_cons.mpr ⟨lw_p42, List.forall_mem_cons.mpr ⟨lw_p43, List.forall_mem_cons.mpr ⟨lw_p44, List.forall_mem_cons.mpr ⟨lw_p45, fun _ h => absurd h List.not_mem_nil⟩⟩⟩⟩⟩⟩⟩⟩⟩⟩⟩⟩⟩⟩
def lw_privs : List (MethodName × Nat) := lw_privs_1 ++ (lw_privs_2 ++ (lw_privs_3))
def lw_tbl : List Cond := k2_sels lw_privs ++ tables_1
theorem lw_privs_ok : ∀ q ∈ lw_privs, lw_okq q := by
  show ∀ q ∈ lw_privs_1 ++ (lw_privs_2 ++ (lw_privs_3)), lw_okq q
  exact List.forall_mem_append.mpr ⟨lw_r1, List.forall_mem_append.mpr ⟨lw_r2, lw_r3⟩⟩
end
section
/-! ===== BEGIN words of one list among another's, by their places ===== -/
theorem goodIn_r {big : List Cond} (ws : List Cond) (ps : List Nat) (hp : ws = ps.filterMap (fun i => big[i]?)) (h : ws.all goodWord = true) : GoodIn big ws := by
  intro w hw
  have h1 := List.all_eq_true.mp h w hw
  rw [hp] at hw
  obtain ⟨i, -, hi⟩ := List.mem_filterMap.mp hw
  have hm : w ∈ big := by first | exact List.mem_of_getElem? hi | exact List.getElem?_mem hi
  exact ⟨hm, good_of_word h1⟩
theorem goodIn_app {big a b : List Cond} (ha : GoodIn big a) (hb : GoodIn big b) : GoodIn big (a ++ b) := fun w h => (List.mem_append.mp h).elim (ha w) (hb w)
theorem goodIn_ca {big a b : List Cond} {c : Cond} (ha : GoodIn big (c :: a)) (hb : GoodIn big b) : GoodIn big (c :: (a ++ b)) := fun w h => (List.mem_cons.mp h).elim (fun e => ha w (List.mem_cons.mpr (Or.inl e))) (fun h => (List.mem_append.mp h).elim (fun h => ha w (List.mem_cons.mpr (Or.inr h))) (hb w))
theorem goodIn_sub {big ws : List Cond} (hm : ∀ w ∈ ws, w ∈ big) (h : ws.all goodWord = true) : GoodIn big ws := fun w hw => ⟨hm w hw, good_of_word (List.all_eq_true.mp h w hw)⟩
/-! ===== END ===== -/

/-! ===== BEGIN printed: names, fields, word lists, decode rows ===== -/
def RX0 : String := "InkPad$History"
def TX0 : u_T := fun k => match k with
  | 0 => ("InkPad$History", "past", "I", false)
  | 1 => ("InkPad$History", "future", "I", false)
  | 2 => ("InkPad$History", "at", "I", false)
  | 3 => ("InkPad$History", "numbers", "[I", true)
  | _ => ("InkPad$History", "sheets", "[I", true)
def tyX0 : Nat → FieldType := fun k => match k with
  | 0 => .int
  | 1 => .int
  | 2 => .int
  | 3 => .array .int
  | _ => .array .int
abbrev wsX00 : List Cond := u_ws RX0 TX0 5
theorem nmX0 : ∀ a, a < 5 → ∀ b, b < 5 → a ≠ b → (TX0 a).2.1 ≠ (TX0 b).2.1 := by decide +kernel
theorem tyX0_ok : ∀ k, k < 5 → parseFieldDescriptor (TX0 k).2.2.1 = some (tyX0 k) := by decide +kernel
abbrev cX0_init : ByteArray := prog_2_method_1_code
def yX0_init : MethodName := ⟨RX0, "<init>", "()V"⟩
abbrev cX0_record : ByteArray := prog_2_method_2_code
def yX0_record : MethodName := ⟨RX0, "record", "(LInkPad$Sheet;)V"⟩
abbrev cX0_stepBack : ByteArray := prog_2_method_3_code
def yX0_stepBack : MethodName := ⟨RX0, "stepBack", "(LInkPad$Sheet;)V"⟩
abbrev cX0_stepOn : ByteArray := prog_2_method_4_code
def yX0_stepOn : MethodName := ⟨RX0, "stepOn", "(LInkPad$Sheet;)V"⟩
abbrev cX0_show : ByteArray := prog_2_method_5_code
def yX0_show : MethodName := ⟨RX0, "show", "(LInkPad$Sheet;)V"⟩
def RX1 : String := "InkPad$Lines"
def TX1 : u_T := fun k => match k with
  | 0 => ("InkPad$Lines", "number", "I", false)
  | 1 => ("InkPad$Lines", "lineOf", "[I", true)
  | 2 => ("InkPad$Lines", "tops", "[I", true)
  | 3 => ("InkPad$Lines", "bottoms", "[I", true)
  | 4 => ("InkPad$Lines", "sizes", "[I", true)
  | 5 => ("InkPad$Lines", "begunTops", "[I", true)
  | 6 => ("InkPad$Lines", "begunBottoms", "[I", true)
  | _ => ("InkPad$Lines", "ranks", "[I", true)
def tyX1 : Nat → FieldType := fun k => match k with
  | 0 => .int
  | 1 => .array .int
  | 2 => .array .int
  | 3 => .array .int
  | 4 => .array .int
  | 5 => .array .int
  | 6 => .array .int
  | _ => .array .int
abbrev wsX10 : List Cond := u_ws RX1 TX1 8
theorem nmX1 : ∀ a, a < 8 → ∀ b, b < 8 → a ≠ b → (TX1 a).2.1 ≠ (TX1 b).2.1 := by decide +kernel
theorem tyX1_ok : ∀ k, k < 8 → parseFieldDescriptor (TX1 k).2.2.1 = some (tyX1 k) := by decide +kernel
abbrev cX1_init : ByteArray := prog_3_method_1_code
def yX1_init : MethodName := ⟨RX1, "<init>", "()V"⟩
abbrev cX1_group : ByteArray := prog_3_method_2_code
def yX1_group : MethodName := ⟨RX1, "group", "(LInkPad$Sheet;)V"⟩
abbrev cX1_bestFor : ByteArray := prog_3_method_3_code
def yX1_bestFor : MethodName := ⟨RX1, "bestFor", "(II)I"⟩
abbrev cX1_rank : ByteArray := prog_3_method_4_code
def yX1_rank : MethodName := ⟨RX1, "rank", "(I)V"⟩
abbrev cX1_isBefore : ByteArray := prog_3_method_5_code
def yX1_isBefore : MethodName := ⟨RX1, "isBefore", "(II)Z"⟩
def RX2 : String := "InkPad$Sheet"
def TX2 : u_T := fun k => match k with
  | 0 => ("InkPad$Sheet", "strokes", "I", false)
  | _ => ("InkPad$Sheet", "rows", "[I", true)
def tyX2 : Nat → FieldType := fun k => match k with
  | 0 => .int
  | _ => .array .int
abbrev wsX20 : List Cond := u_ws RX2 TX2 2
theorem nmX2 : ∀ a, a < 2 → ∀ b, b < 2 → a ≠ b → (TX2 a).2.1 ≠ (TX2 b).2.1 := by decide +kernel
theorem tyX2_ok : ∀ k, k < 2 → parseFieldDescriptor (TX2 k).2.2.1 = some (tyX2 k) := by decide +kernel
abbrev cX2_init : ByteArray := prog_4_method_1_code
def yX2_init : MethodName := ⟨RX2, "<init>", "()V"⟩
abbrev cX2_empty : ByteArray := prog_4_method_2_code
def yX2_empty : MethodName := ⟨RX2, "empty", "()V"⟩
abbrev cX2_copy : ByteArray := prog_4_method_3_code
def yX2_copy : MethodName := ⟨RX2, "copy", "(LInkPad$Sheet;)V"⟩
abbrev cX2_has : ByteArray := prog_4_method_4_code
def yX2_has : MethodName := ⟨RX2, "has", "(I)Z"⟩
abbrev cX2_colorOf : ByteArray := prog_4_method_5_code
def yX2_colorOf : MethodName := ⟨RX2, "colorOf", "(I)I"⟩
abbrev cX2_size : ByteArray := prog_4_method_6_code
def yX2_size : MethodName := ⟨RX2, "size", "(I)I"⟩
abbrev cX2_x : ByteArray := prog_4_method_7_code
def yX2_x : MethodName := ⟨RX2, "x", "(II)I"⟩
abbrev cX2_y : ByteArray := prog_4_method_8_code
def yX2_y : MethodName := ⟨RX2, "y", "(II)I"⟩
abbrev cX2_setColor : ByteArray := prog_4_method_9_code
def yX2_setColor : MethodName := ⟨RX2, "setColor", "(II)V"⟩
abbrev cX2_set : ByteArray := prog_4_method_10_code
def yX2_set : MethodName := ⟨RX2, "set", "(IILInkPad$Trail;)V"⟩
abbrev cX2_append : ByteArray := prog_4_method_11_code
def yX2_append : MethodName := ⟨RX2, "append", "(ILInkPad$Trail;)Z"⟩
abbrev cX2_drop : ByteArray := prog_4_method_12_code
def yX2_drop : MethodName := ⟨RX2, "drop", "(I)V"⟩
abbrev cX2_isSame : ByteArray := prog_4_method_13_code
def yX2_isSame : MethodName := ⟨RX2, "isSame", "(ILInkPad$Trail;)Z"⟩
abbrev cX2_left : ByteArray := prog_4_method_14_code
def yX2_left : MethodName := ⟨RX2, "left", "(I)I"⟩
abbrev cX2_right : ByteArray := prog_4_method_15_code
def yX2_right : MethodName := ⟨RX2, "right", "(I)I"⟩
abbrev cX2_top : ByteArray := prog_4_method_16_code
def yX2_top : MethodName := ⟨RX2, "top", "(I)I"⟩
abbrev cX2_bottom : ByteArray := prog_4_method_17_code
def yX2_bottom : MethodName := ⟨RX2, "bottom", "(I)I"⟩
abbrev cX2_leastFrom : ByteArray := prog_4_method_18_code
def yX2_leastFrom : MethodName := ⟨RX2, "leastFrom", "(II)I"⟩
abbrev cX2_greatestFrom : ByteArray := prog_4_method_19_code
def yX2_greatestFrom : MethodName := ⟨RX2, "greatestFrom", "(II)I"⟩
abbrev cX2_length : ByteArray := prog_4_method_20_code
def yX2_length : MethodName := ⟨RX2, "length", "(I)I"⟩
abbrev cX2_isOf : ByteArray := prog_4_method_21_code
def yX2_isOf : MethodName := ⟨RX2, "isOf", "(II)Z"⟩
abbrev cX2_strokesOf : ByteArray := prog_4_method_22_code
def yX2_strokesOf : MethodName := ⟨RX2, "strokesOf", "(I)I"⟩
abbrev cX2_pointsOf : ByteArray := prog_4_method_23_code
def yX2_pointsOf : MethodName := ⟨RX2, "pointsOf", "(I)I"⟩
abbrev cX2_lengthsOf : ByteArray := prog_4_method_24_code
def yX2_lengthsOf : MethodName := ⟨RX2, "lengthsOf", "(I)I"⟩
def RX3 : String := "InkPad$Tally"
def TX3 : u_T := fun k => match k with
  | 0 => ("InkPad$Tally", "cells", "I", false)
  | 1 => ("InkPad$Tally", "most", "I", false)
  | 2 => ("InkPad$Tally", "keys", "[I", true)
  | _ => ("InkPad$Tally", "points", "[I", true)
def tyX3 : Nat → FieldType := fun k => match k with
  | 0 => .int
  | 1 => .int
  | 2 => .array .int
  | _ => .array .int
abbrev wsX30 : List Cond := u_ws RX3 TX3 4
theorem nmX3 : ∀ a, a < 4 → ∀ b, b < 4 → a ≠ b → (TX3 a).2.1 ≠ (TX3 b).2.1 := by decide +kernel
theorem tyX3_ok : ∀ k, k < 4 → parseFieldDescriptor (TX3 k).2.2.1 = some (tyX3 k) := by decide +kernel
abbrev cX3_init : ByteArray := prog_5_method_1_code
def yX3_init : MethodName := ⟨RX3, "<init>", "()V"⟩
abbrev cX3_take : ByteArray := prog_5_method_2_code
def yX3_take : MethodName := ⟨RX3, "take", "(LInkPad$Sheet;I)V"⟩
abbrev cX3_add : ByteArray := prog_5_method_3_code
def yX3_add : MethodName := ⟨RX3, "add", "(I)V"⟩
def RX4 : String := "InkPad$Text"
def TX4 : u_T := fun k => match k with
  | 0 => ("InkPad$Text", "length", "I", false)
  | _ => ("InkPad$Text", "signs", "[C", true)
def tyX4 : Nat → FieldType := fun k => match k with
  | 0 => .int
  | _ => .array .char
abbrev wsX40 : List Cond := u_ws RX4 TX4 2
theorem nmX4 : ∀ a, a < 2 → ∀ b, b < 2 → a ≠ b → (TX4 a).2.1 ≠ (TX4 b).2.1 := by decide +kernel
theorem tyX4_ok : ∀ k, k < 2 → parseFieldDescriptor (TX4 k).2.2.1 = some (tyX4 k) := by decide +kernel
abbrev cX4_init : ByteArray := prog_6_method_1_code
def yX4_init : MethodName := ⟨RX4, "<init>", "()V"⟩
abbrev cX4_empty : ByteArray := prog_6_method_2_code
def yX4_empty : MethodName := ⟨RX4, "empty", "()V"⟩
abbrev cX4_append : ByteArray := prog_6_method_3_code
def yX4_append : MethodName := ⟨RX4, "append", "(C)V"⟩
abbrev cX4_parse : ByteArray := prog_6_method_4_code
def yX4_parse : MethodName := ⟨RX4, "parse", "(LInkPad$Trail;)I"⟩
abbrev cX4_isDigit : ByteArray := prog_6_method_5_code
def yX4_isDigit : MethodName := ⟨RX4, "isDigit", "(C)Z"⟩
def RX5 : String := "InkPad$Trail"
def TX5 : u_T := fun k => match k with
  | 0 => ("InkPad$Trail", "size", "I", false)
  | 1 => ("InkPad$Trail", "xs", "[I", true)
  | _ => ("InkPad$Trail", "ys", "[I", true)
def tyX5 : Nat → FieldType := fun k => match k with
  | 0 => .int
  | 1 => .array .int
  | _ => .array .int
abbrev wsX50 : List Cond := u_ws RX5 TX5 3
theorem nmX5 : ∀ a, a < 3 → ∀ b, b < 3 → a ≠ b → (TX5 a).2.1 ≠ (TX5 b).2.1 := by decide +kernel
theorem tyX5_ok : ∀ k, k < 3 → parseFieldDescriptor (TX5 k).2.2.1 = some (tyX5 k) := by decide +kernel
abbrev cX5_init : ByteArray := prog_7_method_1_code
def yX5_init : MethodName := ⟨RX5, "<init>", "()V"⟩
abbrev cX5_empty : ByteArray := prog_7_method_2_code
def yX5_empty : MethodName := ⟨RX5, "empty", "()V"⟩
abbrev cX5_isLast : ByteArray := prog_7_method_3_code
def yX5_isLast : MethodName := ⟨RX5, "isLast", "(II)Z"⟩
abbrev cX5_append : ByteArray := prog_7_method_4_code
def yX5_append : MethodName := ⟨RX5, "append", "(II)V"⟩
abbrev cX5_copy : ByteArray := prog_7_method_5_code
def yX5_copy : MethodName := ⟨RX5, "copy", "(LInkPad$Trail;)V"⟩
abbrev cX5_take : ByteArray := prog_7_method_6_code
def yX5_take : MethodName := ⟨RX5, "take", "(LInkPad$Sheet;I)V"⟩
abbrev cX5_smoothOnce : ByteArray := prog_7_method_7_code
def yX5_smoothOnce : MethodName := ⟨RX5, "smoothOnce", "()V"⟩
abbrev cX5_dropRepeats : ByteArray := prog_7_method_8_code
def yX5_dropRepeats : MethodName := ⟨RX5, "dropRepeats", "()V"⟩
abbrev cX5_dropNear : ByteArray := prog_7_method_9_code
def yX5_dropNear : MethodName := ⟨RX5, "dropNear", "(I)V"⟩
def RX6 : String := "InkPad$Words"
def TX6 : u_T := fun k => match k with
  | 0 => ("InkPad$Words", "number", "I", false)
  | 1 => ("InkPad$Words", "order", "[I", true)
  | 2 => ("InkPad$Words", "placeOf", "[I", true)
  | 3 => ("InkPad$Words", "wordOf", "[I", true)
  | 4 => ("InkPad$Words", "lines", "[I", true)
  | 5 => ("InkPad$Words", "sizes", "[I", true)
  | 6 => ("InkPad$Words", "lefts", "[I", true)
  | 7 => ("InkPad$Words", "rights", "[I", true)
  | 8 => ("InkPad$Words", "firsts", "[I", true)
  | 9 => ("InkPad$Words", "wordsIn", "[I", true)
  | 10 => ("InkPad$Words", "firstIn", "[I", true)
  | _ => ("InkPad$Words", "strokeLefts", "[I", true)
def tyX6 : Nat → FieldType := fun k => match k with
  | 0 => .int
  | 1 => .array .int
  | 2 => .array .int
  | 3 => .array .int
  | 4 => .array .int
  | 5 => .array .int
  | 6 => .array .int
  | 7 => .array .int
  | 8 => .array .int
  | 9 => .array .int
  | 10 => .array .int
  | _ => .array .int
abbrev wsX60 : List Cond := u_ws RX6 TX6 12
theorem nmX6 : ∀ a, a < 12 → ∀ b, b < 12 → a ≠ b → (TX6 a).2.1 ≠ (TX6 b).2.1 := by decide +kernel
theorem tyX6_ok : ∀ k, k < 12 → parseFieldDescriptor (TX6 k).2.2.1 = some (tyX6 k) := by decide +kernel
abbrev cX6_init : ByteArray := prog_8_method_1_code
def yX6_init : MethodName := ⟨RX6, "<init>", "()V"⟩
abbrev cX6_group : ByteArray := prog_8_method_2_code
def yX6_group : MethodName := ⟨RX6, "group", "(LInkPad$Sheet;LInkPad$Lines;I)V"⟩
abbrev cX6_setOrder : ByteArray := prog_8_method_3_code
def yX6_setOrder : MethodName := ⟨RX6, "setOrder", "(LInkPad$Sheet;LInkPad$Lines;)V"⟩
abbrev cX6_isBefore : ByteArray := prog_8_method_4_code
def yX6_isBefore : MethodName := ⟨RX6, "isBefore", "(IILInkPad$Lines;)Z"⟩
def RX7 : String := "InkPad"
def TX7 : u_T := fun k => match k with
  | 0 => ("InkPad", "buffer", "LInkPad$Trail;", true)
  | 1 => ("InkPad", "text", "LInkPad$Text;", true)
  | 2 => ("InkPad", "present", "LInkPad$Sheet;", true)
  | 3 => ("InkPad", "draft", "LInkPad$Sheet;", true)
  | 4 => ("InkPad", "work", "LInkPad$Trail;", true)
  | 5 => ("InkPad", "history", "LInkPad$History;", true)
  | 6 => ("InkPad", "lines", "LInkPad$Lines;", true)
  | 7 => ("InkPad", "words", "LInkPad$Words;", true)
  | 8 => ("InkPad", "tally", "LInkPad$Tally;", true)
  | _ => ("InkPad", "gap", "I", false)
def tyX7 : Nat → FieldType := fun k => match k with
  | 0 => .object "InkPad$Trail"
  | 1 => .object "InkPad$Text"
  | 2 => .object "InkPad$Sheet"
  | 3 => .object "InkPad$Sheet"
  | 4 => .object "InkPad$Trail"
  | 5 => .object "InkPad$History"
  | 6 => .object "InkPad$Lines"
  | 7 => .object "InkPad$Words"
  | 8 => .object "InkPad$Tally"
  | _ => .int
abbrev wsX70 : List Cond := u_ws RX7 TX7 10
theorem nmX7 : ∀ a, a < 10 → ∀ b, b < 10 → a ≠ b → (TX7 a).2.1 ≠ (TX7 b).2.1 := by decide +kernel
theorem tyX7_ok : ∀ k, k < 10 → parseFieldDescriptor (TX7 k).2.2.1 = some (tyX7 k) := by decide +kernel
abbrev cX7_init : ByteArray := prog_1_method_1_code
def yX7_init : MethodName := ⟨RX7, "<init>", "()V"⟩
abbrev cX7_put : ByteArray := prog_1_method_2_code
def yX7_put : MethodName := ⟨RX7, "put", "(II)I"⟩
abbrev cX7_clearPoints : ByteArray := prog_1_method_3_code
def yX7_clearPoints : MethodName := ⟨RX7, "clearPoints", "()I"⟩
abbrev cX7_type : ByteArray := prog_1_method_4_code
def yX7_type : MethodName := ⟨RX7, "type", "(C)I"⟩
abbrev cX7_clearText : ByteArray := prog_1_method_5_code
def yX7_clearText : MethodName := ⟨RX7, "clearText", "()I"⟩
abbrev cX7_readPoints : ByteArray := prog_1_method_6_code
def yX7_readPoints : MethodName := ⟨RX7, "readPoints", "()I"⟩
abbrev cX7_draw : ByteArray := prog_1_method_7_code
def yX7_draw : MethodName := ⟨RX7, "draw", "(I)I"⟩
abbrev cX7_rub : ByteArray := prog_1_method_8_code
def yX7_rub : MethodName := ⟨RX7, "rub", "(III)I"⟩
abbrev cX7_smooth : ByteArray := prog_1_method_9_code
def yX7_smooth : MethodName := ⟨RX7, "smooth", "(II)I"⟩
abbrev cX7_thin : ByteArray := prog_1_method_10_code
def yX7_thin : MethodName := ⟨RX7, "thin", "(II)I"⟩
abbrev cX7_join : ByteArray := prog_1_method_11_code
def yX7_join : MethodName := ⟨RX7, "join", "(II)I"⟩
abbrev cX7_shift : ByteArray := prog_1_method_12_code
def yX7_shift : MethodName := ⟨RX7, "shift", "(III)I"⟩
abbrev cX7_paint : ByteArray := prog_1_method_13_code
def yX7_paint : MethodName := ⟨RX7, "paint", "(II)I"⟩
abbrev cX7_remove : ByteArray := prog_1_method_14_code
def yX7_remove : MethodName := ⟨RX7, "remove", "(I)I"⟩
abbrev cX7_undo : ByteArray := prog_1_method_15_code
def yX7_undo : MethodName := ⟨RX7, "undo", "()I"⟩
abbrev cX7_redo : ByteArray := prog_1_method_16_code
def yX7_redo : MethodName := ⟨RX7, "redo", "()I"⟩
abbrev cX7_stroke : ByteArray := prog_1_method_17_code
def yX7_stroke : MethodName := ⟨RX7, "stroke", "(II)I"⟩
abbrev cX7_point : ByteArray := prog_1_method_18_code
def yX7_point : MethodName := ⟨RX7, "point", "(III)I"⟩
abbrev cX7_read : ByteArray := prog_1_method_19_code
def yX7_read : MethodName := ⟨RX7, "read", "(I)I"⟩
abbrev cX7_line : ByteArray := prog_1_method_20_code
def yX7_line : MethodName := ⟨RX7, "line", "(II)I"⟩
abbrev cX7_word : ByteArray := prog_1_method_21_code
def yX7_word : MethodName := ⟨RX7, "word", "(II)I"⟩
abbrev cX7_setGap : ByteArray := prog_1_method_22_code
def yX7_setGap : MethodName := ⟨RX7, "setGap", "(I)I"⟩
abbrev cX7_nearest : ByteArray := prog_1_method_23_code
def yX7_nearest : MethodName := ⟨RX7, "nearest", "(II)I"⟩
abbrev cX7_cell : ByteArray := prog_1_method_24_code
def yX7_cell : MethodName := ⟨RX7, "cell", "(II)I"⟩
abbrev cX7_color : ByteArray := prog_1_method_25_code
def yX7_color : MethodName := ⟨RX7, "color", "(II)I"⟩
abbrev cX7_count : ByteArray := prog_1_method_26_code
def yX7_count : MethodName := ⟨RX7, "count", "(I)I"⟩
abbrev cX7_endPart : ByteArray := prog_1_method_27_code
def yX7_endPart : MethodName := ⟨RX7, "endPart", "(I)Z"⟩
abbrev cX7_replace : ByteArray := prog_1_method_28_code
def yX7_replace : MethodName := ⟨RX7, "replace", "(I)I"⟩
abbrev cX7_layOut : ByteArray := prog_1_method_29_code
def yX7_layOut : MethodName := ⟨RX7, "layOut", "()V"⟩
abbrev cX7_isWithin : ByteArray := prog_1_method_30_code
def yX7_isWithin : MethodName := ⟨RX7, "isWithin", "(III)Z"⟩
abbrev cX7_isCoordinate : ByteArray := prog_1_method_31_code
def yX7_isCoordinate : MethodName := ⟨RX7, "isCoordinate", "(I)Z"⟩
abbrev cX7_isColor : ByteArray := prog_1_method_32_code
def yX7_isColor : MethodName := ⟨RX7, "isColor", "(I)Z"⟩
abbrev cX7_square : ByteArray := prog_1_method_33_code
def yX7_square : MethodName := ⟨RX7, "square", "(II)I"⟩
abbrev cX7_cellOf : ByteArray := prog_1_method_34_code
def yX7_cellOf : MethodName := ⟨RX7, "cellOf", "(II)I"⟩
abbrev cX7_root : ByteArray := prog_1_method_35_code
def yX7_root : MethodName := ⟨RX7, "root", "(I)I"⟩
def RX8 : String := "InkPadModel"
def TX8 : u_T := fun k => match k with
  | 0 => ("InkPadModel", "now", "[I", true)
  | 1 => ("InkPadModel", "gap", "I", false)
  | 2 => ("InkPadModel", "history", "[I", true)
  | 3 => ("InkPadModel", "kept", "I", false)
  | 4 => ("InkPadModel", "again", "[I", true)
  | 5 => ("InkPadModel", "undone", "I", false)
  | 6 => ("InkPadModel", "buffered", "I", false)
  | 7 => ("InkPadModel", "bufferX", "[I", true)
  | 8 => ("InkPadModel", "bufferY", "[I", true)
  | 9 => ("InkPadModel", "typed", "I", false)
  | 10 => ("InkPadModel", "text", "[C", true)
  | 11 => ("InkPadModel", "place", "I", false)
  | 12 => ("InkPadModel", "isGood", "Z", false)
  | 13 => ("InkPadModel", "readX", "[I", true)
  | 14 => ("InkPadModel", "readY", "[I", true)
  | 15 => ("InkPadModel", "read", "I", false)
  | 16 => ("InkPadModel", "next", "[I", true)
  | 17 => ("InkPadModel", "points", "I", false)
  | 18 => ("InkPadModel", "px", "[I", true)
  | 19 => ("InkPadModel", "py", "[I", true)
  | 20 => ("InkPadModel", "qx", "[I", true)
  | 21 => ("InkPadModel", "qy", "[I", true)
  | 22 => ("InkPadModel", "lines", "I", false)
  | 23 => ("InkPadModel", "topOf", "[I", true)
  | 24 => ("InkPadModel", "bottomOf", "[I", true)
  | 25 => ("InkPadModel", "begunIn", "[I", true)
  | 26 => ("InkPadModel", "rankOf", "[I", true)
  | 27 => ("InkPadModel", "words", "I", false)
  | 28 => ("InkPadModel", "wordOf", "[I", true)
  | 29 => ("InkPadModel", "orderOf", "[I", true)
  | _ => ("InkPadModel", "inked", "[I", true)
def tyX8 : Nat → FieldType := fun k => match k with
  | 0 => .array .int
  | 1 => .int
  | 2 => .array .int
  | 3 => .int
  | 4 => .array .int
  | 5 => .int
  | 6 => .int
  | 7 => .array .int
  | 8 => .array .int
  | 9 => .int
  | 10 => .array .char
  | 11 => .int
  | 12 => .boolean
  | 13 => .array .int
  | 14 => .array .int
  | 15 => .int
  | 16 => .array .int
  | 17 => .int
  | 18 => .array .int
  | 19 => .array .int
  | 20 => .array .int
  | 21 => .array .int
  | 22 => .int
  | 23 => .array .int
  | 24 => .array .int
  | 25 => .array .int
  | 26 => .array .int
  | 27 => .int
  | 28 => .array .int
  | 29 => .array .int
  | _ => .array .int
abbrev wsX80 : List Cond := u_ws RX8 TX8 31
theorem nmX8 : ∀ a, a < 31 → ∀ b, b < 31 → a ≠ b → (TX8 a).2.1 ≠ (TX8 b).2.1 := by decide +kernel
theorem tyX8_ok : ∀ k, k < 31 → parseFieldDescriptor (TX8 k).2.2.1 = some (tyX8 k) := by decide +kernel
abbrev cX8_init : ByteArray := prog_10_method_1_code
def yX8_init : MethodName := ⟨RX8, "<init>", "()V"⟩
abbrev cX8_in : ByteArray := prog_10_method_2_code
def yX8_in : MethodName := ⟨RX8, "in", "(III)Z"⟩
abbrev cX8_isPlace : ByteArray := prog_10_method_3_code
def yX8_isPlace : MethodName := ⟨RX8, "isPlace", "(I)Z"⟩
abbrev cX8_strokes : ByteArray := prog_10_method_4_code
def yX8_strokes : MethodName := ⟨RX8, "strokes", "()I"⟩
abbrev cX8_size : ByteArray := prog_10_method_5_code
def yX8_size : MethodName := ⟨RX8, "size", "(I)I"⟩
abbrev cX8_x : ByteArray := prog_10_method_6_code
def yX8_x : MethodName := ⟨RX8, "x", "(II)I"⟩
abbrev cX8_y : ByteArray := prog_10_method_7_code
def yX8_y : MethodName := ⟨RX8, "y", "(II)I"⟩
abbrev cX8_copyRow : ByteArray := prog_10_method_8_code
def yX8_copyRow : MethodName := ⟨RX8, "copyRow", "([II[II)V"⟩
abbrev cX8_push : ByteArray := prog_10_method_9_code
def yX8_push : MethodName := ⟨RX8, "push", "()V"⟩
abbrev cX8_record : ByteArray := prog_10_method_10_code
def yX8_record : MethodName := ⟨RX8, "record", "()V"⟩
abbrev cX8_undo : ByteArray := prog_10_method_11_code
def yX8_undo : MethodName := ⟨RX8, "undo", "()I"⟩
abbrev cX8_redo : ByteArray := prog_10_method_12_code
def yX8_redo : MethodName := ⟨RX8, "redo", "()I"⟩
abbrev cX8_isLast : ByteArray := prog_10_method_13_code
def yX8_isLast : MethodName := ⟨RX8, "isLast", "(II)Z"⟩
abbrev cX8_add : ByteArray := prog_10_method_14_code
def yX8_add : MethodName := ⟨RX8, "add", "(II)V"⟩
abbrev cX8_put : ByteArray := prog_10_method_15_code
def yX8_put : MethodName := ⟨RX8, "put", "(II)I"⟩
abbrev cX8_clearPoints : ByteArray := prog_10_method_16_code
def yX8_clearPoints : MethodName := ⟨RX8, "clearPoints", "()I"⟩
abbrev cX8_type : ByteArray := prog_10_method_17_code
def yX8_type : MethodName := ⟨RX8, "type", "(C)I"⟩
abbrev cX8_clearText : ByteArray := prog_10_method_18_code
def yX8_clearText : MethodName := ⟨RX8, "clearText", "()I"⟩
abbrev cX8_isAt : ByteArray := prog_10_method_19_code
def yX8_isAt : MethodName := ⟨RX8, "isAt", "(CC)Z"⟩
abbrev cX8_number : ByteArray := prog_10_method_20_code
def yX8_number : MethodName := ⟨RX8, "number", "()I"⟩
abbrev cX8_readPoint : ByteArray := prog_10_method_21_code
def yX8_readPoint : MethodName := ⟨RX8, "readPoint", "()V"⟩
abbrev cX8_readPoints : ByteArray := prog_10_method_22_code
def yX8_readPoints : MethodName := ⟨RX8, "readPoints", "()I"⟩
abbrev cX8_begin : ByteArray := prog_10_method_23_code
def yX8_begin : MethodName := ⟨RX8, "begin", "()V"⟩
abbrev cX8_addStroke : ByteArray := prog_10_method_24_code
def yX8_addStroke : MethodName := ⟨RX8, "addStroke", "(I)V"⟩
abbrev cX8_addPoint : ByteArray := prog_10_method_25_code
def yX8_addPoint : MethodName := ⟨RX8, "addPoint", "(II)V"⟩
abbrev cX8_copyStroke : ByteArray := prog_10_method_26_code
def yX8_copyStroke : MethodName := ⟨RX8, "copyStroke", "(I)V"⟩
abbrev cX8_become : ByteArray := prog_10_method_27_code
def yX8_become : MethodName := ⟨RX8, "become", "()V"⟩
abbrev cX8_noStroke : ByteArray := prog_10_method_28_code
def yX8_noStroke : MethodName := ⟨RX8, "noStroke", "(I)Z"⟩
abbrev cX8_draw : ByteArray := prog_10_method_29_code
def yX8_draw : MethodName := ⟨RX8, "draw", "(I)I"⟩
abbrev cX8_square : ByteArray := prog_10_method_30_code
def yX8_square : MethodName := ⟨RX8, "square", "(II)I"⟩
abbrev cX8_rub : ByteArray := prog_10_method_31_code
def yX8_rub : MethodName := ⟨RX8, "rub", "(III)I"⟩
abbrev cX8_take : ByteArray := prog_10_method_32_code
def yX8_take : MethodName := ⟨RX8, "take", "(I)V"⟩
abbrev cX8_dropSame : ByteArray := prog_10_method_33_code
def yX8_dropSame : MethodName := ⟨RX8, "dropSame", "()V"⟩
abbrev cX8_putBack : ByteArray := prog_10_method_34_code
def yX8_putBack : MethodName := ⟨RX8, "putBack", "(I)I"⟩
abbrev cX8_smoothOnce : ByteArray := prog_10_method_35_code
def yX8_smoothOnce : MethodName := ⟨RX8, "smoothOnce", "()V"⟩
abbrev cX8_smooth : ByteArray := prog_10_method_36_code
def yX8_smooth : MethodName := ⟨RX8, "smooth", "(II)I"⟩
abbrev cX8_thin : ByteArray := prog_10_method_37_code
def yX8_thin : MethodName := ⟨RX8, "thin", "(II)I"⟩
abbrev cX8_join : ByteArray := prog_10_method_38_code
def yX8_join : MethodName := ⟨RX8, "join", "(II)I"⟩
abbrev cX8_shift : ByteArray := prog_10_method_39_code
def yX8_shift : MethodName := ⟨RX8, "shift", "(III)I"⟩
abbrev cX8_paint : ByteArray := prog_10_method_40_code
def yX8_paint : MethodName := ⟨RX8, "paint", "(II)I"⟩
abbrev cX8_remove : ByteArray := prog_10_method_41_code
def yX8_remove : MethodName := ⟨RX8, "remove", "(I)I"⟩
abbrev cX8_bound : ByteArray := prog_10_method_42_code
def yX8_bound : MethodName := ⟨RX8, "bound", "(IZZ)I"⟩
abbrev cX8_root : ByteArray := prog_10_method_43_code
def yX8_root : MethodName := ⟨RX8, "root", "(I)I"⟩
abbrev cX8_longOf : ByteArray := prog_10_method_44_code
def yX8_longOf : MethodName := ⟨RX8, "longOf", "(I)I"⟩
abbrev cX8_shared : ByteArray := prog_10_method_45_code
def yX8_shared : MethodName := ⟨RX8, "shared", "(III)I"⟩
abbrev cX8_mayJoin : ByteArray := prog_10_method_46_code
def yX8_mayJoin : MethodName := ⟨RX8, "mayJoin", "(III)Z"⟩
abbrev cX8_findLines : ByteArray := prog_10_method_47_code
def yX8_findLines : MethodName := ⟨RX8, "findLines", "()V"⟩
abbrev cX8_isAbove : ByteArray := prog_10_method_48_code
def yX8_isAbove : MethodName := ⟨RX8, "isAbove", "(II)Z"⟩
abbrev cX8_lineOf : ByteArray := prog_10_method_49_code
def yX8_lineOf : MethodName := ⟨RX8, "lineOf", "(I)I"⟩
abbrev cX8_isBefore : ByteArray := prog_10_method_50_code
def yX8_isBefore : MethodName := ⟨RX8, "isBefore", "(II)Z"⟩
abbrev cX8_placeOf : ByteArray := prog_10_method_51_code
def yX8_placeOf : MethodName := ⟨RX8, "placeOf", "(I)I"⟩
abbrev cX8_layOut : ByteArray := prog_10_method_52_code
def yX8_layOut : MethodName := ⟨RX8, "layOut", "()V"⟩
abbrev cX8_setGap : ByteArray := prog_10_method_53_code
def yX8_setGap : MethodName := ⟨RX8, "setGap", "(I)I"⟩
abbrev cX8_stroke : ByteArray := prog_10_method_54_code
def yX8_stroke : MethodName := ⟨RX8, "stroke", "(II)I"⟩
abbrev cX8_point : ByteArray := prog_10_method_55_code
def yX8_point : MethodName := ⟨RX8, "point", "(III)I"⟩
abbrev cX8_read : ByteArray := prog_10_method_56_code
def yX8_read : MethodName := ⟨RX8, "read", "(I)I"⟩
abbrev cX8_line : ByteArray := prog_10_method_57_code
def yX8_line : MethodName := ⟨RX8, "line", "(II)I"⟩
abbrev cX8_word : ByteArray := prog_10_method_58_code
def yX8_word : MethodName := ⟨RX8, "word", "(II)I"⟩
abbrev cX8_nearest : ByteArray := prog_10_method_59_code
def yX8_nearest : MethodName := ⟨RX8, "nearest", "(II)I"⟩
abbrev cX8_ink : ByteArray := prog_10_method_60_code
def yX8_ink : MethodName := ⟨RX8, "ink", "(I)V"⟩
abbrev cX8_inkedCells : ByteArray := prog_10_method_61_code
def yX8_inkedCells : MethodName := ⟨RX8, "inkedCells", "()I"⟩
abbrev cX8_fullest : ByteArray := prog_10_method_62_code
def yX8_fullest : MethodName := ⟨RX8, "fullest", "()I"⟩
abbrev cX8_cell : ByteArray := prog_10_method_63_code
def yX8_cell : MethodName := ⟨RX8, "cell", "(II)I"⟩
abbrev cX8_color : ByteArray := prog_10_method_64_code
def yX8_color : MethodName := ⟨RX8, "color", "(II)I"⟩
abbrev cX8_count : ByteArray := prog_10_method_65_code
def yX8_count : MethodName := ⟨RX8, "count", "(I)I"⟩
def RJ9 : String := "java/lang/Math"
def TJ9 : u_T := fun k => match k with
  | _ => ("", "", "", false)
def tyJ9 : Nat → FieldType := fun k => match k with
  | _ => .int
abbrev wsJ90 : List Cond := u_ws RJ9 TJ9 0
theorem nmJ9 : ∀ a, a < 0 → ∀ b, b < 0 → a ≠ b → (TJ9 a).2.1 ≠ (TJ9 b).2.1 := by decide +kernel
theorem tyJ9_ok : ∀ k, k < 0 → parseFieldDescriptor (TJ9 k).2.2.1 = some (tyJ9 k) := by decide +kernel
abbrev cJ9_max_7cf53 : ByteArray := prog_11_method_65_code
def yJ9_max_7cf53 : MethodName := ⟨RJ9, "max", "(II)I"⟩
abbrev cJ9_min_7cf53 : ByteArray := prog_11_method_69_code
def yJ9_min_7cf53 : MethodName := ⟨RJ9, "min", "(II)I"⟩
def RJ10 : String := "java/lang/System"
def TJ10 : u_T := fun k => match k with
  | _ => ("", "", "", false)
def tyJ10 : Nat → FieldType := fun k => match k with
  | _ => .int
abbrev wsJ100 : List Cond := u_ws RJ10 TJ10 0
theorem nmJ10 : ∀ a, a < 0 → ∀ b, b < 0 → a ≠ b → (TJ10 a).2.1 ≠ (TJ10 b).2.1 := by decide +kernel
theorem tyJ10_ok : ∀ k, k < 0 → parseFieldDescriptor (TJ10 k).2.2.1 = some (tyJ10 k) := by decide +kernel
def RL : String := "InkPadLaw"
abbrev cL_law : ByteArray := code
def yL_law : MethodName := ⟨RL, "law", "([I)Z"⟩
def wsX0_init : List Cond := .code yX0_init cX0_init 1 none :: ([.methodLink RX0 3 objectInit, .instanceMethod objectInit, .code objectInit ⟨#[0xb1]⟩ 1 none, .arrayClass .int, .fieldLink RX0 11 "InkPad$History" "numbers" "[I", .fieldLink RX0 15 "InkPad$History" "sheets" "[I"] ++ wsX00)
def wsX0_record : List Cond := .code yX0_record cX0_record 2 none :: ([.fieldLink RX0 18 "InkPad$History" "at" "I", .fieldLink RX0 22 "InkPad$History" "past" "I", .methodLink RX0 25 Lib.Math.min.name, .static Lib.Math.min.name, .initialized "java/lang/Math", .code Lib.Math.min.name Lib.Math.min.code 2 (some .int), .fieldLink RX0 31 "InkPad$History" "future" "I", .fieldLink RX0 11 "InkPad$History" "numbers" "[I", .fieldLink RX0 34 "InkPad$Sheet" "strokes" "I", .fieldLink RX0 39 "InkPad$Sheet" "rows" "[I", .fieldLink RX0 15 "InkPad$History" "sheets" "[I", .methodLink RX0 42 arraycopyName, .native arraycopyName, .static arraycopyName, .initialized "java/lang/System"] ++ wsX00 ++ wsX20)
def wsX0_show : List Cond := .code yX0_show cX0_show 2 none :: ([.fieldLink RX0 11 "InkPad$History" "numbers" "[I", .fieldLink RX0 18 "InkPad$History" "at" "I", .fieldLink RX0 34 "InkPad$Sheet" "strokes" "I", .fieldLink RX0 15 "InkPad$History" "sheets" "[I", .fieldLink RX0 39 "InkPad$Sheet" "rows" "[I", .methodLink RX0 42 arraycopyName, .native arraycopyName, .static arraycopyName, .initialized "java/lang/System"] ++ wsX00 ++ wsX20)
def wsX0_stepBack : List Cond := .code yX0_stepBack cX0_stepBack 2 none :: ([.fieldLink RX0 22 "InkPad$History" "past" "I", .fieldLink RX0 18 "InkPad$History" "at" "I", .fieldLink RX0 31 "InkPad$History" "future" "I", .methodLink RX0 48 yX0_show, .instanceMethod yX0_show, .selects RX0 yX0_show yX0_show, .initialized RX0, .code yX0_show cX0_show 2 none, .fieldLink RX0 11 "InkPad$History" "numbers" "[I", .fieldLink RX0 34 "InkPad$Sheet" "strokes" "I", .fieldLink RX0 15 "InkPad$History" "sheets" "[I", .fieldLink RX0 39 "InkPad$Sheet" "rows" "[I", .methodLink RX0 42 arraycopyName, .native arraycopyName, .static arraycopyName, .initialized "java/lang/System"] ++ wsX00 ++ wsX20)
def wsX0_stepOn : List Cond := .code yX0_stepOn cX0_stepOn 2 none :: ([.fieldLink RX0 31 "InkPad$History" "future" "I", .fieldLink RX0 18 "InkPad$History" "at" "I", .fieldLink RX0 22 "InkPad$History" "past" "I", .methodLink RX0 48 yX0_show, .instanceMethod yX0_show, .selects RX0 yX0_show yX0_show, .initialized RX0, .code yX0_show cX0_show 2 none, .fieldLink RX0 11 "InkPad$History" "numbers" "[I", .fieldLink RX0 34 "InkPad$Sheet" "strokes" "I", .fieldLink RX0 15 "InkPad$History" "sheets" "[I", .fieldLink RX0 39 "InkPad$Sheet" "rows" "[I", .methodLink RX0 42 arraycopyName, .native arraycopyName, .static arraycopyName, .initialized "java/lang/System"] ++ wsX00 ++ wsX20)
def wsX1_init : List Cond := .code yX1_init cX1_init 1 none :: ([.methodLink RX1 3 objectInit, .instanceMethod objectInit, .code objectInit ⟨#[0xb1]⟩ 1 none, .arrayClass .int, .fieldLink RX1 9 "InkPad$Lines" "lineOf" "[I", .fieldLink RX1 15 "InkPad$Lines" "tops" "[I", .fieldLink RX1 18 "InkPad$Lines" "bottoms" "[I", .fieldLink RX1 21 "InkPad$Lines" "sizes" "[I", .fieldLink RX1 24 "InkPad$Lines" "begunTops" "[I", .fieldLink RX1 27 "InkPad$Lines" "begunBottoms" "[I", .fieldLink RX1 30 "InkPad$Lines" "ranks" "[I"] ++ wsX10)
def wsX2_size : List Cond := .code yX2_size cX2_size 2 (some .int) :: ([.fieldLink RX2 9 "InkPad$Sheet" "rows" "[I"] ++ wsX20)
def wsX2_leastFrom : List Cond := .code yX2_leastFrom cX2_leastFrom 5 (some .int) :: ([.fieldLink RX2 9 "InkPad$Sheet" "rows" "[I", .methodLink RX2 60 Lib.Math.min.name, .static Lib.Math.min.name, .initialized "java/lang/Math", .code Lib.Math.min.name Lib.Math.min.code 2 (some .int)] ++ wsX20)
def wsX2_top : List Cond := .code yX2_top cX2_top 2 (some .int) :: ([.methodLink RX2 44 yX2_size, .instanceMethod yX2_size, .selects RX2 yX2_size yX2_size, .initialized RX2, .code yX2_size cX2_size 2 (some .int), .fieldLink RX2 9 "InkPad$Sheet" "rows" "[I", .methodLink RX2 54 yX2_leastFrom, .instanceMethod yX2_leastFrom, .selects RX2 yX2_leastFrom yX2_leastFrom, .code yX2_leastFrom cX2_leastFrom 5 (some .int), .methodLink RX2 60 Lib.Math.min.name, .static Lib.Math.min.name, .initialized "java/lang/Math", .code Lib.Math.min.name Lib.Math.min.code 2 (some .int)] ++ wsX20)
def wsX2_greatestFrom : List Cond := .code yX2_greatestFrom cX2_greatestFrom 5 (some .int) :: ([.fieldLink RX2 9 "InkPad$Sheet" "rows" "[I", .methodLink RX2 65 Lib.Math.max.name, .static Lib.Math.max.name, .initialized "java/lang/Math", .code Lib.Math.max.name Lib.Math.max.code 2 (some .int)] ++ wsX20)
def wsX2_bottom : List Cond := .code yX2_bottom cX2_bottom 2 (some .int) :: ([.methodLink RX2 44 yX2_size, .instanceMethod yX2_size, .selects RX2 yX2_size yX2_size, .initialized RX2, .code yX2_size cX2_size 2 (some .int), .fieldLink RX2 9 "InkPad$Sheet" "rows" "[I", .methodLink RX2 57 yX2_greatestFrom, .instanceMethod yX2_greatestFrom, .selects RX2 yX2_greatestFrom yX2_greatestFrom, .code yX2_greatestFrom cX2_greatestFrom 5 (some .int), .methodLink RX2 65 Lib.Math.max.name, .static Lib.Math.max.name, .initialized "java/lang/Math", .code Lib.Math.max.name Lib.Math.max.code 2 (some .int)] ++ wsX20)
def wsX1_bestFor : List Cond := .code yX1_bestFor cX1_bestFor 10 (some .int) :: ([.fieldLink RX1 33 "InkPad$Lines" "number" "I", .fieldLink RX1 24 "InkPad$Lines" "begunTops" "[I", .fieldLink RX1 27 "InkPad$Lines" "begunBottoms" "[I", .methodLink RX1 53 Lib.Math.min.name, .static Lib.Math.min.name, .initialized "java/lang/Math", .code Lib.Math.min.name Lib.Math.min.code 2 (some .int), .methodLink RX1 58 Lib.Math.max.name, .static Lib.Math.max.name, .code Lib.Math.max.name Lib.Math.max.code 2 (some .int)] ++ wsX10)
def wsX1_isBefore : List Cond := .code yX1_isBefore cX1_isBefore 3 (some .boolean) :: ([.fieldLink RX1 24 "InkPad$Lines" "begunTops" "[I", .fieldLink RX1 27 "InkPad$Lines" "begunBottoms" "[I"] ++ wsX10)
def wsX1_rank : List Cond := .code yX1_rank cX1_rank 5 none :: ([.fieldLink RX1 33 "InkPad$Lines" "number" "I", .fieldLink RX1 30 "InkPad$Lines" "ranks" "[I", .fieldLink RX1 15 "InkPad$Lines" "tops" "[I", .fieldLink RX1 24 "InkPad$Lines" "begunTops" "[I", .fieldLink RX1 18 "InkPad$Lines" "bottoms" "[I", .fieldLink RX1 27 "InkPad$Lines" "begunBottoms" "[I", .fieldLink RX1 21 "InkPad$Lines" "sizes" "[I", .fieldLink RX1 9 "InkPad$Lines" "lineOf" "[I", .methodLink RX1 65 yX1_isBefore, .instanceMethod yX1_isBefore, .selects RX1 yX1_isBefore yX1_isBefore, .initialized RX1, .code yX1_isBefore cX1_isBefore 3 (some .boolean)] ++ wsX10)
def wsX1_group_r1 : List Cond := [Cond.fieldLink RX1 33 "InkPad$Lines" "number" "I", Cond.fieldLink RX1 37 "InkPad$Sheet" "strokes" "I", Cond.fieldLink RX1 24 "InkPad$Lines" "begunTops" "[I", Cond.fieldLink RX1 27 "InkPad$Lines" "begunBottoms" "[I", Cond.methodLink RX1 53 Lib.Math.min.name, Cond.static Lib.Math.min.name, Cond.initialized "java/lang/Math", Cond.code Lib.Math.min.name Lib.Math.min.code 2 (some .int), Cond.methodLink RX1 58 Lib.Math.max.name, Cond.static Lib.Math.max.name, Cond.code Lib.Math.max.name Lib.Math.max.code 2 (some .int), Cond.fieldLink RX1 9 "InkPad$Lines" "lineOf" "[I", Cond.methodLink RX1 42 yX2_top, Cond.instanceMethod yX2_top, Cond.selects RX2 yX2_top yX2_top, Cond.initialized RX2, Cond.code yX2_top cX2_top 2 (some .int), Cond.methodLink RX2 44 yX2_size, Cond.instanceMethod yX2_size, Cond.selects RX2 yX2_size yX2_size, Cond.code yX2_size cX2_size 2 (some .int), Cond.fieldLink RX2 9 "InkPad$Sheet" "rows" "[I", Cond.methodLink RX2 54 yX2_leastFrom, Cond.instanceMethod yX2_leastFrom]
def wsX1_group_r2 : List Cond := [Cond.selects RX2 yX2_leastFrom yX2_leastFrom, Cond.code yX2_leastFrom cX2_leastFrom 5 (some .int), Cond.methodLink RX2 60 Lib.Math.min.name, Cond.methodLink RX1 46 yX2_bottom, Cond.instanceMethod yX2_bottom, Cond.selects RX2 yX2_bottom yX2_bottom, Cond.code yX2_bottom cX2_bottom 2 (some .int), Cond.methodLink RX2 57 yX2_greatestFrom, Cond.instanceMethod yX2_greatestFrom, Cond.selects RX2 yX2_greatestFrom yX2_greatestFrom, Cond.code yX2_greatestFrom cX2_greatestFrom 5 (some .int), Cond.methodLink RX2 65 Lib.Math.max.name, Cond.methodLink RX1 49 yX1_bestFor, Cond.instanceMethod yX1_bestFor, Cond.selects RX1 yX1_bestFor yX1_bestFor, Cond.initialized RX1, Cond.code yX1_bestFor cX1_bestFor 10 (some .int), Cond.methodLink RX1 61 yX1_rank, Cond.instanceMethod yX1_rank, Cond.selects RX1 yX1_rank yX1_rank, Cond.code yX1_rank cX1_rank 5 none, Cond.fieldLink RX1 30 "InkPad$Lines" "ranks" "[I", Cond.fieldLink RX1 15 "InkPad$Lines" "tops" "[I", Cond.fieldLink RX1 18 "InkPad$Lines" "bottoms" "[I"]
def wsX1_group_r3 : List Cond := [Cond.fieldLink RX1 21 "InkPad$Lines" "sizes" "[I", Cond.methodLink RX1 65 yX1_isBefore, Cond.instanceMethod yX1_isBefore, Cond.selects RX1 yX1_isBefore yX1_isBefore, Cond.code yX1_isBefore cX1_isBefore 3 (some .boolean)]
def wsX1_group : List Cond := .code yX1_group cX1_group 6 none :: ((wsX1_group_r1 ++ (wsX1_group_r2 ++ wsX1_group_r3)) ++ wsX10 ++ wsX20)
def wsX2_init : List Cond := .code yX2_init cX2_init 1 none :: ([.methodLink RX2 3 objectInit, .instanceMethod objectInit, .code objectInit ⟨#[0xb1]⟩ 1 none, .arrayClass .int, .fieldLink RX2 9 "InkPad$Sheet" "rows" "[I"] ++ wsX20)
def wsX2_empty : List Cond := .code yX2_empty cX2_empty 1 none :: ([.fieldLink RX2 15 "InkPad$Sheet" "strokes" "I"] ++ wsX20)
def wsX2_copy : List Cond := .code yX2_copy cX2_copy 2 none :: ([.fieldLink RX2 15 "InkPad$Sheet" "strokes" "I", .fieldLink RX2 9 "InkPad$Sheet" "rows" "[I", .methodLink RX2 19 arraycopyName, .native arraycopyName, .static arraycopyName, .initialized "java/lang/System"] ++ wsX20)
def wsX2_has : List Cond := .code yX2_has cX2_has 2 (some .boolean) :: ([.fieldLink RX2 15 "InkPad$Sheet" "strokes" "I"] ++ wsX20)
def wsX2_colorOf : List Cond := .code yX2_colorOf cX2_colorOf 2 (some .int) :: ([.fieldLink RX2 9 "InkPad$Sheet" "rows" "[I"] ++ wsX20)
def wsX2_x : List Cond := .code yX2_x cX2_x 3 (some .int) :: ([.fieldLink RX2 9 "InkPad$Sheet" "rows" "[I"] ++ wsX20)
def wsX2_y : List Cond := .code yX2_y cX2_y 3 (some .int) :: ([.fieldLink RX2 9 "InkPad$Sheet" "rows" "[I"] ++ wsX20)
def wsX2_setColor : List Cond := .code yX2_setColor cX2_setColor 3 none :: ([.fieldLink RX2 9 "InkPad$Sheet" "rows" "[I"] ++ wsX20)
def wsX2_set : List Cond := .code yX2_set cX2_set 5 none :: ([.fieldLink RX2 9 "InkPad$Sheet" "rows" "[I", .fieldLink RX2 25 "InkPad$Trail" "size" "I", .fieldLink RX2 30 "InkPad$Trail" "xs" "[I", .methodLink RX2 19 arraycopyName, .native arraycopyName, .static arraycopyName, .initialized "java/lang/System", .fieldLink RX2 33 "InkPad$Trail" "ys" "[I"] ++ wsX20 ++ wsX50)
def wsX2_append : List Cond := .code yX2_append cX2_append 3 (some .boolean) :: ([.fieldLink RX2 15 "InkPad$Sheet" "strokes" "I", .methodLink RX2 36 yX2_set, .instanceMethod yX2_set, .selects RX2 yX2_set yX2_set, .initialized RX2, .code yX2_set cX2_set 5 none, .fieldLink RX2 9 "InkPad$Sheet" "rows" "[I", .fieldLink RX2 25 "InkPad$Trail" "size" "I", .fieldLink RX2 30 "InkPad$Trail" "xs" "[I", .methodLink RX2 19 arraycopyName, .native arraycopyName, .static arraycopyName, .initialized "java/lang/System", .fieldLink RX2 33 "InkPad$Trail" "ys" "[I"] ++ wsX20 ++ wsX50)
def wsX2_drop : List Cond := .code yX2_drop cX2_drop 3 none :: ([.fieldLink RX2 15 "InkPad$Sheet" "strokes" "I", .fieldLink RX2 9 "InkPad$Sheet" "rows" "[I", .methodLink RX2 19 arraycopyName, .native arraycopyName, .static arraycopyName, .initialized "java/lang/System", .methodLink RX2 40 yX2_has, .instanceMethod yX2_has, .selects RX2 yX2_has yX2_has, .initialized RX2, .code yX2_has cX2_has 2 (some .boolean)] ++ wsX20)
def wsX2_isSame : List Cond := .code yX2_isSame cX2_isSame 4 (some .boolean) :: ([.fieldLink RX2 25 "InkPad$Trail" "size" "I", .fieldLink RX2 30 "InkPad$Trail" "xs" "[I", .fieldLink RX2 33 "InkPad$Trail" "ys" "[I", .methodLink RX2 44 yX2_size, .instanceMethod yX2_size, .selects RX2 yX2_size yX2_size, .initialized RX2, .code yX2_size cX2_size 2 (some .int), .fieldLink RX2 9 "InkPad$Sheet" "rows" "[I", .methodLink RX2 47 yX2_x, .instanceMethod yX2_x, .selects RX2 yX2_x yX2_x, .code yX2_x cX2_x 3 (some .int), .methodLink RX2 51 yX2_y, .instanceMethod yX2_y, .selects RX2 yX2_y yX2_y, .code yX2_y cX2_y 3 (some .int)] ++ wsX50 ++ wsX20)
def wsX2_left : List Cond := .code yX2_left cX2_left 2 (some .int) :: ([.methodLink RX2 44 yX2_size, .instanceMethod yX2_size, .selects RX2 yX2_size yX2_size, .initialized RX2, .code yX2_size cX2_size 2 (some .int), .fieldLink RX2 9 "InkPad$Sheet" "rows" "[I", .methodLink RX2 54 yX2_leastFrom, .instanceMethod yX2_leastFrom, .selects RX2 yX2_leastFrom yX2_leastFrom, .code yX2_leastFrom cX2_leastFrom 5 (some .int), .methodLink RX2 60 Lib.Math.min.name, .static Lib.Math.min.name, .initialized "java/lang/Math", .code Lib.Math.min.name Lib.Math.min.code 2 (some .int)] ++ wsX20)
def wsX2_right : List Cond := .code yX2_right cX2_right 2 (some .int) :: ([.methodLink RX2 44 yX2_size, .instanceMethod yX2_size, .selects RX2 yX2_size yX2_size, .initialized RX2, .code yX2_size cX2_size 2 (some .int), .fieldLink RX2 9 "InkPad$Sheet" "rows" "[I", .methodLink RX2 57 yX2_greatestFrom, .instanceMethod yX2_greatestFrom, .selects RX2 yX2_greatestFrom yX2_greatestFrom, .code yX2_greatestFrom cX2_greatestFrom 5 (some .int), .methodLink RX2 65 Lib.Math.max.name, .static Lib.Math.max.name, .initialized "java/lang/Math", .code Lib.Math.max.name Lib.Math.max.code 2 (some .int)] ++ wsX20)
def wsX7_square : List Cond := .code yX7_square cX7_square 2 (some .int) :: ([])
def wsX7_root : List Cond := .code yX7_root cX7_root 4 (some .int) :: ([])
def wsX2_length : List Cond := .code yX2_length cX2_length 6 (some .int) :: ([.methodLink RX2 44 yX2_size, .instanceMethod yX2_size, .selects RX2 yX2_size yX2_size, .initialized RX2, .code yX2_size cX2_size 2 (some .int), .fieldLink RX2 9 "InkPad$Sheet" "rows" "[I", .methodLink RX2 47 yX2_x, .instanceMethod yX2_x, .selects RX2 yX2_x yX2_x, .code yX2_x cX2_x 3 (some .int), .methodLink RX2 51 yX2_y, .instanceMethod yX2_y, .selects RX2 yX2_y yX2_y, .code yX2_y cX2_y 3 (some .int), .static yX7_square, .initialized RX7, .code yX7_square cX7_square 2 (some .int), .static yX7_root, .code yX7_root cX7_root 4 (some .int)] ++ wsX20)
def wsX2_isOf : List Cond := .code yX2_isOf cX2_isOf 3 (some .boolean) :: ([.methodLink RX2 74 yX2_colorOf, .instanceMethod yX2_colorOf, .selects RX2 yX2_colorOf yX2_colorOf, .initialized RX2, .code yX2_colorOf cX2_colorOf 2 (some .int), .fieldLink RX2 9 "InkPad$Sheet" "rows" "[I"] ++ wsX20)
def wsX2_strokesOf : List Cond := .code yX2_strokesOf cX2_strokesOf 4 (some .int) :: ([.fieldLink RX2 15 "InkPad$Sheet" "strokes" "I", .methodLink RX2 77 yX2_isOf, .instanceMethod yX2_isOf, .selects RX2 yX2_isOf yX2_isOf, .initialized RX2, .code yX2_isOf cX2_isOf 3 (some .boolean), .methodLink RX2 74 yX2_colorOf, .instanceMethod yX2_colorOf, .selects RX2 yX2_colorOf yX2_colorOf, .code yX2_colorOf cX2_colorOf 2 (some .int), .fieldLink RX2 9 "InkPad$Sheet" "rows" "[I"] ++ wsX20)
def wsX2_pointsOf : List Cond := .code yX2_pointsOf cX2_pointsOf 4 (some .int) :: ([.fieldLink RX2 15 "InkPad$Sheet" "strokes" "I", .methodLink RX2 77 yX2_isOf, .instanceMethod yX2_isOf, .selects RX2 yX2_isOf yX2_isOf, .initialized RX2, .code yX2_isOf cX2_isOf 3 (some .boolean), .methodLink RX2 74 yX2_colorOf, .instanceMethod yX2_colorOf, .selects RX2 yX2_colorOf yX2_colorOf, .code yX2_colorOf cX2_colorOf 2 (some .int), .fieldLink RX2 9 "InkPad$Sheet" "rows" "[I", .methodLink RX2 44 yX2_size, .instanceMethod yX2_size, .selects RX2 yX2_size yX2_size, .code yX2_size cX2_size 2 (some .int)] ++ wsX20)
def wsX2_lengthsOf_r1 : List Cond := [Cond.fieldLink RX2 15 "InkPad$Sheet" "strokes" "I", Cond.methodLink RX2 77 yX2_isOf, Cond.instanceMethod yX2_isOf, Cond.selects RX2 yX2_isOf yX2_isOf, Cond.initialized RX2, Cond.code yX2_isOf cX2_isOf 3 (some .boolean), Cond.methodLink RX2 74 yX2_colorOf, Cond.instanceMethod yX2_colorOf, Cond.selects RX2 yX2_colorOf yX2_colorOf, Cond.code yX2_colorOf cX2_colorOf 2 (some .int), Cond.fieldLink RX2 9 "InkPad$Sheet" "rows" "[I", Cond.methodLink RX2 81 yX2_length, Cond.instanceMethod yX2_length, Cond.selects RX2 yX2_length yX2_length, Cond.code yX2_length cX2_length 6 (some .int), Cond.methodLink RX2 44 yX2_size, Cond.instanceMethod yX2_size, Cond.selects RX2 yX2_size yX2_size, Cond.code yX2_size cX2_size 2 (some .int), Cond.methodLink RX2 47 yX2_x, Cond.instanceMethod yX2_x, Cond.selects RX2 yX2_x yX2_x, Cond.code yX2_x cX2_x 3 (some .int), Cond.methodLink RX2 51 yX2_y]
def wsX2_lengthsOf_r2 : List Cond := [Cond.instanceMethod yX2_y, Cond.selects RX2 yX2_y yX2_y, Cond.code yX2_y cX2_y 3 (some .int), Cond.static yX7_square, Cond.initialized RX7, Cond.code yX7_square cX7_square 2 (some .int), Cond.static yX7_root, Cond.code yX7_root cX7_root 4 (some .int)]
def wsX2_lengthsOf : List Cond := .code yX2_lengthsOf cX2_lengthsOf 4 (some .int) :: ((wsX2_lengthsOf_r1 ++ wsX2_lengthsOf_r2) ++ wsX20)
def wsX3_init : List Cond := .code yX3_init cX3_init 1 none :: ([.methodLink RX3 1 objectInit, .instanceMethod objectInit, .code objectInit ⟨#[0xb1]⟩ 1 none, .arrayClass .int, .fieldLink RX3 9 "InkPad$Tally" "keys" "[I", .fieldLink RX3 13 "InkPad$Tally" "points" "[I"] ++ wsX30)
def wsX7_cellOf : List Cond := .code yX7_cellOf cX7_cellOf 2 (some .int) :: ([])
def wsX3_add : List Cond := .code yX3_add cX3_add 4 none :: ([.fieldLink RX3 13 "InkPad$Tally" "points" "[I", .fieldLink RX3 9 "InkPad$Tally" "keys" "[I", .fieldLink RX3 16 "InkPad$Tally" "cells" "I", .fieldLink RX3 20 "InkPad$Tally" "most" "I", .methodLink RX3 52 Lib.Math.max.name, .static Lib.Math.max.name, .initialized "java/lang/Math", .code Lib.Math.max.name Lib.Math.max.code 2 (some .int)] ++ wsX30)
def wsX3_take_r1 : List Cond := [Cond.fieldLink RX3 16 "InkPad$Tally" "cells" "I", Cond.fieldLink RX3 20 "InkPad$Tally" "most" "I", Cond.fieldLink RX3 13 "InkPad$Tally" "points" "[I", Cond.fieldLink RX3 23 "InkPad$Sheet" "strokes" "I", Cond.methodLink RX3 28 yX2_isOf, Cond.instanceMethod yX2_isOf, Cond.selects RX2 yX2_isOf yX2_isOf, Cond.initialized RX2, Cond.code yX2_isOf cX2_isOf 3 (some .boolean), Cond.methodLink RX2 74 yX2_colorOf, Cond.instanceMethod yX2_colorOf, Cond.selects RX2 yX2_colorOf yX2_colorOf, Cond.code yX2_colorOf cX2_colorOf 2 (some .int), Cond.fieldLink RX2 9 "InkPad$Sheet" "rows" "[I", Cond.methodLink RX3 32 yX2_size, Cond.instanceMethod yX2_size, Cond.selects RX2 yX2_size yX2_size, Cond.code yX2_size cX2_size 2 (some .int), Cond.methodLink RX3 36 yX2_x, Cond.instanceMethod yX2_x, Cond.selects RX2 yX2_x yX2_x, Cond.code yX2_x cX2_x 3 (some .int), Cond.methodLink RX3 40 yX2_y, Cond.instanceMethod yX2_y]
def wsX3_take_r2 : List Cond := [Cond.selects RX2 yX2_y yX2_y, Cond.code yX2_y cX2_y 3 (some .int), Cond.static yX7_cellOf, Cond.initialized RX7, Cond.code yX7_cellOf cX7_cellOf 2 (some .int), Cond.methodLink RX3 48 yX3_add, Cond.instanceMethod yX3_add, Cond.selects RX3 yX3_add yX3_add, Cond.initialized RX3, Cond.code yX3_add cX3_add 4 none, Cond.fieldLink RX3 9 "InkPad$Tally" "keys" "[I", Cond.methodLink RX3 52 Lib.Math.max.name, Cond.static Lib.Math.max.name, Cond.initialized "java/lang/Math", Cond.code Lib.Math.max.name Lib.Math.max.code 2 (some .int)]
def wsX3_take : List Cond := .code yX3_take cX3_take 5 none :: ((wsX3_take_r1 ++ wsX3_take_r2) ++ wsX30 ++ wsX20)
def wsX4_init : List Cond := .code yX4_init cX4_init 1 none :: ([.methodLink RX4 3 objectInit, .instanceMethod objectInit, .code objectInit ⟨#[0xb1]⟩ 1 none, .arrayClass .char, .fieldLink RX4 9 "InkPad$Text" "signs" "[C"] ++ wsX40)
def wsX4_empty : List Cond := .code yX4_empty cX4_empty 1 none :: ([.fieldLink RX4 15 "InkPad$Text" "length" "I"] ++ wsX40)
def wsX4_append : List Cond := .code yX4_append cX4_append 2 none :: ([.fieldLink RX4 15 "InkPad$Text" "length" "I", .fieldLink RX4 9 "InkPad$Text" "signs" "[C"] ++ wsX40)
def wsX5_empty : List Cond := .code yX5_empty cX5_empty 1 none :: ([.fieldLink RX5 18 "InkPad$Trail" "size" "I"] ++ wsX50)
def wsX4_isDigit : List Cond := .code yX4_isDigit cX4_isDigit 1 (some .boolean) :: ([])
def wsX5_isLast : List Cond := .code yX5_isLast cX5_isLast 3 (some .boolean) :: ([.fieldLink RX5 18 "InkPad$Trail" "size" "I", .fieldLink RX5 9 "InkPad$Trail" "xs" "[I", .fieldLink RX5 15 "InkPad$Trail" "ys" "[I"] ++ wsX50)
def wsX5_append : List Cond := .code yX5_append cX5_append 3 none :: ([.fieldLink RX5 18 "InkPad$Trail" "size" "I", .fieldLink RX5 9 "InkPad$Trail" "xs" "[I", .fieldLink RX5 15 "InkPad$Trail" "ys" "[I", .methodLink RX5 22 yX5_isLast, .instanceMethod yX5_isLast, .selects RX5 yX5_isLast yX5_isLast, .initialized RX5, .code yX5_isLast cX5_isLast 3 (some .boolean)] ++ wsX50)
def wsX4_parse : List Cond := .code yX4_parse cX4_parse 10 (some .int) :: ([.fieldLink RX4 15 "InkPad$Text" "length" "I", .fieldLink RX4 9 "InkPad$Text" "signs" "[C", .methodLink RX4 19 yX5_empty, .instanceMethod yX5_empty, .selects RX5 yX5_empty yX5_empty, .initialized RX5, .code yX5_empty cX5_empty 1 none, .fieldLink RX5 18 "InkPad$Trail" "size" "I", .methodLink RX4 24 yX4_isDigit, .static yX4_isDigit, .initialized RX4, .code yX4_isDigit cX4_isDigit 1 (some .boolean), .methodLink RX4 28 yX5_append, .instanceMethod yX5_append, .selects RX5 yX5_append yX5_append, .code yX5_append cX5_append 3 none, .fieldLink RX5 9 "InkPad$Trail" "xs" "[I", .fieldLink RX5 15 "InkPad$Trail" "ys" "[I", .methodLink RX5 22 yX5_isLast, .instanceMethod yX5_isLast, .selects RX5 yX5_isLast yX5_isLast, .code yX5_isLast cX5_isLast 3 (some .boolean)] ++ wsX40 ++ wsX50)
def wsX5_init : List Cond := .code yX5_init cX5_init 1 none :: ([.methodLink RX5 3 objectInit, .instanceMethod objectInit, .code objectInit ⟨#[0xb1]⟩ 1 none, .arrayClass .int, .fieldLink RX5 9 "InkPad$Trail" "xs" "[I", .fieldLink RX5 15 "InkPad$Trail" "ys" "[I"] ++ wsX50)
def wsX5_copy : List Cond := .code yX5_copy cX5_copy 2 none :: ([.fieldLink RX5 18 "InkPad$Trail" "size" "I", .fieldLink RX5 9 "InkPad$Trail" "xs" "[I", .methodLink RX5 26 arraycopyName, .native arraycopyName, .static arraycopyName, .initialized "java/lang/System", .fieldLink RX5 15 "InkPad$Trail" "ys" "[I"] ++ wsX50)
def wsX5_take_r1 : List Cond := [Cond.fieldLink RX5 18 "InkPad$Trail" "size" "I", Cond.methodLink RX5 32 yX2_size, Cond.instanceMethod yX2_size, Cond.selects RX2 yX2_size yX2_size, Cond.initialized RX2, Cond.code yX2_size cX2_size 2 (some .int), Cond.fieldLink RX2 9 "InkPad$Sheet" "rows" "[I", Cond.methodLink RX5 37 yX2_x, Cond.instanceMethod yX2_x, Cond.selects RX2 yX2_x yX2_x, Cond.code yX2_x cX2_x 3 (some .int), Cond.methodLink RX5 41 yX2_y, Cond.instanceMethod yX2_y, Cond.selects RX2 yX2_y yX2_y, Cond.code yX2_y cX2_y 3 (some .int), Cond.methodLink RX5 44 yX5_append, Cond.instanceMethod yX5_append, Cond.selects RX5 yX5_append yX5_append, Cond.initialized RX5, Cond.code yX5_append cX5_append 3 none, Cond.fieldLink RX5 9 "InkPad$Trail" "xs" "[I", Cond.fieldLink RX5 15 "InkPad$Trail" "ys" "[I", Cond.methodLink RX5 22 yX5_isLast, Cond.instanceMethod yX5_isLast]
def wsX5_take_r2 : List Cond := [Cond.selects RX5 yX5_isLast yX5_isLast, Cond.code yX5_isLast cX5_isLast 3 (some .boolean)]
def wsX5_take : List Cond := .code yX5_take cX5_take 4 none :: ((wsX5_take_r1 ++ wsX5_take_r2) ++ wsX50 ++ wsX20)
def wsX5_smoothOnce : List Cond := .code yX5_smoothOnce cX5_smoothOnce 6 none :: ([.fieldLink RX5 9 "InkPad$Trail" "xs" "[I", .fieldLink RX5 15 "InkPad$Trail" "ys" "[I", .fieldLink RX5 18 "InkPad$Trail" "size" "I"] ++ wsX50)
def wsX5_dropRepeats : List Cond := .code yX5_dropRepeats cX5_dropRepeats 3 none :: ([.fieldLink RX5 18 "InkPad$Trail" "size" "I", .fieldLink RX5 9 "InkPad$Trail" "xs" "[I", .fieldLink RX5 15 "InkPad$Trail" "ys" "[I", .methodLink RX5 44 yX5_append, .instanceMethod yX5_append, .selects RX5 yX5_append yX5_append, .initialized RX5, .code yX5_append cX5_append 3 none, .methodLink RX5 22 yX5_isLast, .instanceMethod yX5_isLast, .selects RX5 yX5_isLast yX5_isLast, .code yX5_isLast cX5_isLast 3 (some .boolean)] ++ wsX50)
def wsX5_dropNear : List Cond := .code yX5_dropNear cX5_dropNear 4 none :: ([.fieldLink RX5 18 "InkPad$Trail" "size" "I", .fieldLink RX5 9 "InkPad$Trail" "xs" "[I", .fieldLink RX5 15 "InkPad$Trail" "ys" "[I", .static yX7_square, .initialized RX7, .code yX7_square cX7_square 2 (some .int), .methodLink RX5 44 yX5_append, .instanceMethod yX5_append, .selects RX5 yX5_append yX5_append, .initialized RX5, .code yX5_append cX5_append 3 none, .methodLink RX5 22 yX5_isLast, .instanceMethod yX5_isLast, .selects RX5 yX5_isLast yX5_isLast, .code yX5_isLast cX5_isLast 3 (some .boolean)] ++ wsX50)
def wsX6_init : List Cond := .code yX6_init cX6_init 1 none :: ([.methodLink RX6 3 objectInit, .instanceMethod objectInit, .code objectInit ⟨#[0xb1]⟩ 1 none, .arrayClass .int, .fieldLink RX6 9 "InkPad$Words" "order" "[I", .fieldLink RX6 15 "InkPad$Words" "placeOf" "[I", .fieldLink RX6 18 "InkPad$Words" "wordOf" "[I", .fieldLink RX6 21 "InkPad$Words" "lines" "[I", .fieldLink RX6 24 "InkPad$Words" "sizes" "[I", .fieldLink RX6 27 "InkPad$Words" "lefts" "[I", .fieldLink RX6 30 "InkPad$Words" "rights" "[I", .fieldLink RX6 33 "InkPad$Words" "firsts" "[I", .fieldLink RX6 36 "InkPad$Words" "wordsIn" "[I", .fieldLink RX6 39 "InkPad$Words" "firstIn" "[I", .fieldLink RX6 42 "InkPad$Words" "strokeLefts" "[I"] ++ wsX60)
def wsX6_isBefore : List Cond := .code yX6_isBefore cX6_isBefore 4 (some .boolean) :: ([.fieldLink RX6 58 "InkPad$Lines" "lineOf" "[I", .fieldLink RX6 42 "InkPad$Words" "strokeLefts" "[I"] ++ wsX10 ++ wsX60)
def wsX6_setOrder_r1 : List Cond := [Cond.fieldLink RX6 53 "InkPad$Sheet" "strokes" "I", Cond.fieldLink RX6 42 "InkPad$Words" "strokeLefts" "[I", Cond.fieldLink RX6 15 "InkPad$Words" "placeOf" "[I", Cond.fieldLink RX6 9 "InkPad$Words" "order" "[I", Cond.methodLink RX6 73 yX2_left, Cond.instanceMethod yX2_left, Cond.selects RX2 yX2_left yX2_left, Cond.initialized RX2, Cond.code yX2_left cX2_left 2 (some .int), Cond.methodLink RX2 44 yX2_size, Cond.instanceMethod yX2_size, Cond.selects RX2 yX2_size yX2_size, Cond.code yX2_size cX2_size 2 (some .int), Cond.fieldLink RX2 9 "InkPad$Sheet" "rows" "[I", Cond.methodLink RX2 54 yX2_leastFrom, Cond.instanceMethod yX2_leastFrom, Cond.selects RX2 yX2_leastFrom yX2_leastFrom, Cond.code yX2_leastFrom cX2_leastFrom 5 (some .int), Cond.methodLink RX2 60 Lib.Math.min.name, Cond.static Lib.Math.min.name, Cond.initialized "java/lang/Math", Cond.code Lib.Math.min.name Lib.Math.min.code 2 (some .int), Cond.methodLink RX6 76 yX6_isBefore, Cond.instanceMethod yX6_isBefore]
def wsX6_setOrder_r2 : List Cond := [Cond.selects RX6 yX6_isBefore yX6_isBefore, Cond.initialized RX6, Cond.code yX6_isBefore cX6_isBefore 4 (some .boolean), Cond.fieldLink RX6 58 "InkPad$Lines" "lineOf" "[I"]
def wsX6_setOrder : List Cond := .code yX6_setOrder cX6_setOrder 6 none :: ((wsX6_setOrder_r1 ++ wsX6_setOrder_r2) ++ wsX20 ++ wsX60 ++ wsX10)
def wsX6_group_r1 : List Cond := [Cond.fieldLink RX6 49 "InkPad$Words" "number" "I", Cond.fieldLink RX6 53 "InkPad$Sheet" "strokes" "I", Cond.fieldLink RX6 9 "InkPad$Words" "order" "[I", Cond.fieldLink RX6 58 "InkPad$Lines" "lineOf" "[I", Cond.fieldLink RX6 36 "InkPad$Words" "wordsIn" "[I", Cond.fieldLink RX6 39 "InkPad$Words" "firstIn" "[I", Cond.fieldLink RX6 42 "InkPad$Words" "strokeLefts" "[I", Cond.fieldLink RX6 30 "InkPad$Words" "rights" "[I", Cond.fieldLink RX6 21 "InkPad$Words" "lines" "[I", Cond.fieldLink RX6 24 "InkPad$Words" "sizes" "[I", Cond.fieldLink RX6 27 "InkPad$Words" "lefts" "[I", Cond.fieldLink RX6 33 "InkPad$Words" "firsts" "[I", Cond.fieldLink RX6 18 "InkPad$Words" "wordOf" "[I", Cond.methodLink RX6 67 Lib.Math.max.name, Cond.static Lib.Math.max.name, Cond.initialized "java/lang/Math", Cond.code Lib.Math.max.name Lib.Math.max.code 2 (some .int), Cond.methodLink RX6 45 yX6_setOrder, Cond.instanceMethod yX6_setOrder, Cond.selects RX6 yX6_setOrder yX6_setOrder, Cond.initialized RX6, Cond.code yX6_setOrder cX6_setOrder 6 none, Cond.fieldLink RX6 15 "InkPad$Words" "placeOf" "[I", Cond.methodLink RX6 73 yX2_left]
def wsX6_group_r2 : List Cond := [Cond.instanceMethod yX2_left, Cond.selects RX2 yX2_left yX2_left, Cond.initialized RX2, Cond.code yX2_left cX2_left 2 (some .int), Cond.methodLink RX2 44 yX2_size, Cond.instanceMethod yX2_size, Cond.selects RX2 yX2_size yX2_size, Cond.code yX2_size cX2_size 2 (some .int), Cond.fieldLink RX2 9 "InkPad$Sheet" "rows" "[I", Cond.methodLink RX2 54 yX2_leastFrom, Cond.instanceMethod yX2_leastFrom, Cond.selects RX2 yX2_leastFrom yX2_leastFrom, Cond.code yX2_leastFrom cX2_leastFrom 5 (some .int), Cond.methodLink RX2 60 Lib.Math.min.name, Cond.static Lib.Math.min.name, Cond.code Lib.Math.min.name Lib.Math.min.code 2 (some .int), Cond.methodLink RX6 76 yX6_isBefore, Cond.instanceMethod yX6_isBefore, Cond.selects RX6 yX6_isBefore yX6_isBefore, Cond.code yX6_isBefore cX6_isBefore 4 (some .boolean), Cond.methodLink RX6 63 yX2_right, Cond.instanceMethod yX2_right, Cond.selects RX2 yX2_right yX2_right, Cond.code yX2_right cX2_right 2 (some .int)]
def wsX6_group_r3 : List Cond := [Cond.methodLink RX2 57 yX2_greatestFrom, Cond.instanceMethod yX2_greatestFrom, Cond.selects RX2 yX2_greatestFrom yX2_greatestFrom, Cond.code yX2_greatestFrom cX2_greatestFrom 5 (some .int), Cond.methodLink RX2 65 Lib.Math.max.name]
def wsX6_group : List Cond := .code yX6_group cX6_group 10 none :: ((wsX6_group_r1 ++ (wsX6_group_r2 ++ wsX6_group_r3)) ++ wsX60 ++ wsX20 ++ wsX10)
def wsX7_init_r1 : List Cond := [Cond.methodLink RX7 3 objectInit, Cond.instanceMethod objectInit, Cond.code objectInit ⟨#[0xb1]⟩ 1 none, Cond.classLink RX7 9 RX5, Cond.instantiable RX5 3, Cond.initialized RX5, Cond.fieldLink RX7 12 "InkPad" "buffer" "LInkPad$Trail;", Cond.classLink RX7 16 RX4, Cond.instantiable RX4 2, Cond.initialized RX4, Cond.fieldLink RX7 19 "InkPad" "text" "LInkPad$Text;", Cond.classLink RX7 23 RX2, Cond.instantiable RX2 2, Cond.initialized RX2, Cond.fieldLink RX7 26 "InkPad" "present" "LInkPad$Sheet;", Cond.fieldLink RX7 30 "InkPad" "draft" "LInkPad$Sheet;", Cond.fieldLink RX7 33 "InkPad" "work" "LInkPad$Trail;", Cond.classLink RX7 36 RX0, Cond.instantiable RX0 5, Cond.initialized RX0, Cond.fieldLink RX7 39 "InkPad" "history" "LInkPad$History;", Cond.classLink RX7 43 RX1, Cond.instantiable RX1 8, Cond.initialized RX1]
def wsX7_init_r2 : List Cond := [Cond.fieldLink RX7 46 "InkPad" "lines" "LInkPad$Lines;", Cond.classLink RX7 50 RX6, Cond.instantiable RX6 12, Cond.initialized RX6, Cond.fieldLink RX7 53 "InkPad" "words" "LInkPad$Words;", Cond.classLink RX7 57 RX3, Cond.instantiable RX3 4, Cond.initialized RX3, Cond.fieldLink RX7 60 "InkPad" "tally" "LInkPad$Tally;", Cond.fieldLink RX7 64 "InkPad" "gap" "I", Cond.instanceMethod yX5_init, Cond.code yX5_init cX5_init 1 none, Cond.methodLink RX5 3 objectInit, Cond.arrayClass .int, Cond.fieldLink RX5 9 "InkPad$Trail" "xs" "[I", Cond.fieldLink RX5 15 "InkPad$Trail" "ys" "[I", Cond.instanceMethod yX4_init, Cond.code yX4_init cX4_init 1 none, Cond.methodLink RX4 3 objectInit, Cond.arrayClass .char, Cond.fieldLink RX4 9 "InkPad$Text" "signs" "[C", Cond.instanceMethod yX2_init, Cond.code yX2_init cX2_init 1 none, Cond.methodLink RX2 3 objectInit]
def wsX7_init_r3 : List Cond := [Cond.fieldLink RX2 9 "InkPad$Sheet" "rows" "[I", Cond.instanceMethod yX0_init, Cond.code yX0_init cX0_init 1 none, Cond.methodLink RX0 3 objectInit, Cond.fieldLink RX0 11 "InkPad$History" "numbers" "[I", Cond.fieldLink RX0 15 "InkPad$History" "sheets" "[I", Cond.instanceMethod yX1_init, Cond.code yX1_init cX1_init 1 none, Cond.methodLink RX1 3 objectInit, Cond.fieldLink RX1 9 "InkPad$Lines" "lineOf" "[I", Cond.fieldLink RX1 15 "InkPad$Lines" "tops" "[I", Cond.fieldLink RX1 18 "InkPad$Lines" "bottoms" "[I", Cond.fieldLink RX1 21 "InkPad$Lines" "sizes" "[I", Cond.fieldLink RX1 24 "InkPad$Lines" "begunTops" "[I", Cond.fieldLink RX1 27 "InkPad$Lines" "begunBottoms" "[I", Cond.fieldLink RX1 30 "InkPad$Lines" "ranks" "[I", Cond.instanceMethod yX6_init, Cond.code yX6_init cX6_init 1 none, Cond.methodLink RX6 3 objectInit, Cond.fieldLink RX6 9 "InkPad$Words" "order" "[I", Cond.fieldLink RX6 15 "InkPad$Words" "placeOf" "[I", Cond.fieldLink RX6 18 "InkPad$Words" "wordOf" "[I", Cond.fieldLink RX6 21 "InkPad$Words" "lines" "[I", Cond.fieldLink RX6 24 "InkPad$Words" "sizes" "[I"]
def wsX7_init_r4 : List Cond := [Cond.fieldLink RX6 27 "InkPad$Words" "lefts" "[I", Cond.fieldLink RX6 30 "InkPad$Words" "rights" "[I", Cond.fieldLink RX6 33 "InkPad$Words" "firsts" "[I", Cond.fieldLink RX6 36 "InkPad$Words" "wordsIn" "[I", Cond.fieldLink RX6 39 "InkPad$Words" "firstIn" "[I", Cond.fieldLink RX6 42 "InkPad$Words" "strokeLefts" "[I", Cond.instanceMethod yX3_init, Cond.code yX3_init cX3_init 1 none, Cond.methodLink RX3 1 objectInit, Cond.fieldLink RX3 9 "InkPad$Tally" "keys" "[I", Cond.fieldLink RX3 13 "InkPad$Tally" "points" "[I"]
def wsX7_init : List Cond := .code yX7_init cX7_init 1 none :: ((wsX7_init_r1 ++ (wsX7_init_r2 ++ (wsX7_init_r3 ++ wsX7_init_r4))) ++ wsX50 ++ wsX70 ++ wsX40 ++ wsX20 ++ wsX00 ++ wsX10 ++ wsX60 ++ wsX30)
def wsX7_isWithin : List Cond := .code yX7_isWithin cX7_isWithin 3 (some .boolean) :: ([])
def wsX7_isCoordinate : List Cond := .code yX7_isCoordinate cX7_isCoordinate 1 (some .boolean) :: ([.methodLink RX7 110 yX7_isWithin, .static yX7_isWithin, .initialized RX7, .code yX7_isWithin cX7_isWithin 3 (some .boolean)])
def wsX7_put : List Cond := .code yX7_put cX7_put 3 (some .int) :: ([.fieldLink RX7 12 "InkPad" "buffer" "LInkPad$Trail;", .fieldLink RX7 72 "InkPad$Trail" "size" "I", .methodLink RX7 68 yX7_isCoordinate, .static yX7_isCoordinate, .initialized RX7, .code yX7_isCoordinate cX7_isCoordinate 1 (some .boolean), .methodLink RX7 110 yX7_isWithin, .static yX7_isWithin, .code yX7_isWithin cX7_isWithin 3 (some .boolean), .methodLink RX7 75 yX5_append, .instanceMethod yX5_append, .selects RX5 yX5_append yX5_append, .initialized RX5, .code yX5_append cX5_append 3 none, .fieldLink RX5 18 "InkPad$Trail" "size" "I", .fieldLink RX5 9 "InkPad$Trail" "xs" "[I", .fieldLink RX5 15 "InkPad$Trail" "ys" "[I", .methodLink RX5 22 yX5_isLast, .instanceMethod yX5_isLast, .selects RX5 yX5_isLast yX5_isLast, .code yX5_isLast cX5_isLast 3 (some .boolean)] ++ wsX70 ++ wsX50)
def wsX7_clearPoints : List Cond := .code yX7_clearPoints cX7_clearPoints 2 (some .int) :: ([.fieldLink RX7 12 "InkPad" "buffer" "LInkPad$Trail;", .fieldLink RX7 72 "InkPad$Trail" "size" "I", .methodLink RX7 79 yX5_empty, .instanceMethod yX5_empty, .selects RX5 yX5_empty yX5_empty, .initialized RX5, .code yX5_empty cX5_empty 1 none, .fieldLink RX5 18 "InkPad$Trail" "size" "I"] ++ wsX70 ++ wsX50)
def wsX7_type : List Cond := .code yX7_type cX7_type 2 (some .int) :: ([.fieldLink RX7 19 "InkPad" "text" "LInkPad$Text;", .fieldLink RX7 82 "InkPad$Text" "length" "I", .methodLink RX7 85 yX4_append, .instanceMethod yX4_append, .selects RX4 yX4_append yX4_append, .initialized RX4, .code yX4_append cX4_append 2 none, .fieldLink RX4 15 "InkPad$Text" "length" "I", .fieldLink RX4 9 "InkPad$Text" "signs" "[C"] ++ wsX70 ++ wsX40)
def wsX7_clearText : List Cond := .code yX7_clearText cX7_clearText 2 (some .int) :: ([.fieldLink RX7 19 "InkPad" "text" "LInkPad$Text;", .fieldLink RX7 82 "InkPad$Text" "length" "I", .methodLink RX7 88 yX4_empty, .instanceMethod yX4_empty, .selects RX4 yX4_empty yX4_empty, .initialized RX4, .code yX4_empty cX4_empty 1 none, .fieldLink RX4 15 "InkPad$Text" "length" "I"] ++ wsX70 ++ wsX40)
def wsX7_readPoints_r1 : List Cond := [Cond.fieldLink RX7 19 "InkPad" "text" "LInkPad$Text;", Cond.fieldLink RX7 33 "InkPad" "work" "LInkPad$Trail;", Cond.fieldLink RX7 12 "InkPad" "buffer" "LInkPad$Trail;", Cond.fieldLink RX7 72 "InkPad$Trail" "size" "I", Cond.methodLink RX7 89 yX4_parse, Cond.instanceMethod yX4_parse, Cond.selects RX4 yX4_parse yX4_parse, Cond.initialized RX4, Cond.code yX4_parse cX4_parse 10 (some .int), Cond.fieldLink RX4 15 "InkPad$Text" "length" "I", Cond.fieldLink RX4 9 "InkPad$Text" "signs" "[C", Cond.methodLink RX4 19 yX5_empty, Cond.instanceMethod yX5_empty, Cond.selects RX5 yX5_empty yX5_empty, Cond.initialized RX5, Cond.code yX5_empty cX5_empty 1 none, Cond.fieldLink RX5 18 "InkPad$Trail" "size" "I", Cond.methodLink RX4 24 yX4_isDigit, Cond.static yX4_isDigit, Cond.code yX4_isDigit cX4_isDigit 1 (some .boolean), Cond.methodLink RX4 28 yX5_append, Cond.instanceMethod yX5_append, Cond.selects RX5 yX5_append yX5_append, Cond.code yX5_append cX5_append 3 none]
def wsX7_readPoints_r2 : List Cond := [Cond.fieldLink RX5 9 "InkPad$Trail" "xs" "[I", Cond.fieldLink RX5 15 "InkPad$Trail" "ys" "[I", Cond.methodLink RX5 22 yX5_isLast, Cond.instanceMethod yX5_isLast, Cond.selects RX5 yX5_isLast yX5_isLast, Cond.code yX5_isLast cX5_isLast 3 (some .boolean), Cond.methodLink RX7 93 yX5_copy, Cond.instanceMethod yX5_copy, Cond.selects RX5 yX5_copy yX5_copy, Cond.code yX5_copy cX5_copy 2 none, Cond.methodLink RX5 26 arraycopyName, Cond.native arraycopyName, Cond.static arraycopyName, Cond.initialized "java/lang/System"]
def wsX7_readPoints : List Cond := .code yX7_readPoints cX7_readPoints 2 (some .int) :: ((wsX7_readPoints_r1 ++ wsX7_readPoints_r2) ++ wsX70 ++ wsX50 ++ wsX40)
def wsX7_isColor : List Cond := .code yX7_isColor cX7_isColor 1 (some .boolean) :: ([.methodLink RX7 110 yX7_isWithin, .static yX7_isWithin, .initialized RX7, .code yX7_isWithin cX7_isWithin 3 (some .boolean)])
def wsX7_draw_r1 : List Cond := [Cond.fieldLink RX7 12 "InkPad" "buffer" "LInkPad$Trail;", Cond.fieldLink RX7 72 "InkPad$Trail" "size" "I", Cond.fieldLink RX7 26 "InkPad" "present" "LInkPad$Sheet;", Cond.fieldLink RX7 39 "InkPad" "history" "LInkPad$History;", Cond.fieldLink RX7 107 "InkPad$Sheet" "strokes" "I", Cond.methodLink RX7 97 yX7_isColor, Cond.static yX7_isColor, Cond.initialized RX7, Cond.code yX7_isColor cX7_isColor 1 (some .boolean), Cond.methodLink RX7 110 yX7_isWithin, Cond.static yX7_isWithin, Cond.code yX7_isWithin cX7_isWithin 3 (some .boolean), Cond.methodLink RX7 100 yX2_append, Cond.instanceMethod yX2_append, Cond.selects RX2 yX2_append yX2_append, Cond.initialized RX2, Cond.code yX2_append cX2_append 3 (some .boolean), Cond.fieldLink RX2 15 "InkPad$Sheet" "strokes" "I", Cond.methodLink RX2 36 yX2_set, Cond.instanceMethod yX2_set, Cond.selects RX2 yX2_set yX2_set, Cond.code yX2_set cX2_set 5 none, Cond.fieldLink RX2 9 "InkPad$Sheet" "rows" "[I", Cond.fieldLink RX2 25 "InkPad$Trail" "size" "I"]
def wsX7_draw_r2 : List Cond := [Cond.fieldLink RX2 30 "InkPad$Trail" "xs" "[I", Cond.methodLink RX2 19 arraycopyName, Cond.native arraycopyName, Cond.static arraycopyName, Cond.initialized "java/lang/System", Cond.fieldLink RX2 33 "InkPad$Trail" "ys" "[I", Cond.methodLink RX7 79 yX5_empty, Cond.instanceMethod yX5_empty, Cond.selects RX5 yX5_empty yX5_empty, Cond.initialized RX5, Cond.code yX5_empty cX5_empty 1 none, Cond.fieldLink RX5 18 "InkPad$Trail" "size" "I", Cond.methodLink RX7 103 yX0_record, Cond.instanceMethod yX0_record, Cond.selects RX0 yX0_record yX0_record, Cond.initialized RX0, Cond.code yX0_record cX0_record 2 none, Cond.fieldLink RX0 18 "InkPad$History" "at" "I", Cond.fieldLink RX0 22 "InkPad$History" "past" "I", Cond.methodLink RX0 25 Lib.Math.min.name, Cond.static Lib.Math.min.name, Cond.initialized "java/lang/Math", Cond.code Lib.Math.min.name Lib.Math.min.code 2 (some .int), Cond.fieldLink RX0 31 "InkPad$History" "future" "I"]
def wsX7_draw_r3 : List Cond := [Cond.fieldLink RX0 11 "InkPad$History" "numbers" "[I", Cond.fieldLink RX0 34 "InkPad$Sheet" "strokes" "I", Cond.fieldLink RX0 39 "InkPad$Sheet" "rows" "[I", Cond.fieldLink RX0 15 "InkPad$History" "sheets" "[I", Cond.methodLink RX0 42 arraycopyName]
def wsX7_draw : List Cond := .code yX7_draw cX7_draw 2 (some .int) :: ((wsX7_draw_r1 ++ (wsX7_draw_r2 ++ wsX7_draw_r3)) ++ wsX70 ++ wsX50 ++ wsX20 ++ wsX00)
def wsX7_endPart_r1 : List Cond := [Cond.fieldLink RX7 33 "InkPad" "work" "LInkPad$Trail;", Cond.fieldLink RX7 72 "InkPad$Trail" "size" "I", Cond.fieldLink RX7 30 "InkPad" "draft" "LInkPad$Sheet;", Cond.methodLink RX7 100 yX2_append, Cond.instanceMethod yX2_append, Cond.selects RX2 yX2_append yX2_append, Cond.initialized RX2, Cond.code yX2_append cX2_append 3 (some .boolean), Cond.fieldLink RX2 15 "InkPad$Sheet" "strokes" "I", Cond.methodLink RX2 36 yX2_set, Cond.instanceMethod yX2_set, Cond.selects RX2 yX2_set yX2_set, Cond.code yX2_set cX2_set 5 none, Cond.fieldLink RX2 9 "InkPad$Sheet" "rows" "[I", Cond.fieldLink RX2 25 "InkPad$Trail" "size" "I", Cond.fieldLink RX2 30 "InkPad$Trail" "xs" "[I", Cond.methodLink RX2 19 arraycopyName, Cond.native arraycopyName, Cond.static arraycopyName, Cond.initialized "java/lang/System", Cond.fieldLink RX2 33 "InkPad$Trail" "ys" "[I", Cond.methodLink RX7 79 yX5_empty, Cond.instanceMethod yX5_empty, Cond.selects RX5 yX5_empty yX5_empty]
def wsX7_endPart_r2 : List Cond := [Cond.initialized RX5, Cond.code yX5_empty cX5_empty 1 none, Cond.fieldLink RX5 18 "InkPad$Trail" "size" "I"]
def wsX7_endPart : List Cond := .code yX7_endPart cX7_endPart 3 (some .boolean) :: ((wsX7_endPart_r1 ++ wsX7_endPart_r2) ++ wsX70 ++ wsX50 ++ wsX20)
def wsX7_rub_r1 : List Cond := [Cond.fieldLink RX7 30 "InkPad" "draft" "LInkPad$Sheet;", Cond.fieldLink RX7 26 "InkPad" "present" "LInkPad$Sheet;", Cond.fieldLink RX7 107 "InkPad$Sheet" "strokes" "I", Cond.fieldLink RX7 33 "InkPad" "work" "LInkPad$Trail;", Cond.fieldLink RX7 39 "InkPad" "history" "LInkPad$History;", Cond.methodLink RX7 68 yX7_isCoordinate, Cond.static yX7_isCoordinate, Cond.initialized RX7, Cond.code yX7_isCoordinate cX7_isCoordinate 1 (some .boolean), Cond.methodLink RX7 110 yX7_isWithin, Cond.static yX7_isWithin, Cond.code yX7_isWithin cX7_isWithin 3 (some .boolean), Cond.methodLink RX7 114 yX2_empty, Cond.instanceMethod yX2_empty, Cond.selects RX2 yX2_empty yX2_empty, Cond.initialized RX2, Cond.code yX2_empty cX2_empty 1 none, Cond.fieldLink RX2 15 "InkPad$Sheet" "strokes" "I", Cond.methodLink RX7 79 yX5_empty, Cond.instanceMethod yX5_empty, Cond.selects RX5 yX5_empty yX5_empty, Cond.initialized RX5, Cond.code yX5_empty cX5_empty 1 none, Cond.fieldLink RX5 18 "InkPad$Trail" "size" "I"]
def wsX7_rub_r2 : List Cond := [Cond.methodLink RX7 115 yX2_size, Cond.instanceMethod yX2_size, Cond.selects RX2 yX2_size yX2_size, Cond.code yX2_size cX2_size 2 (some .int), Cond.fieldLink RX2 9 "InkPad$Sheet" "rows" "[I", Cond.methodLink RX7 118 yX2_x, Cond.instanceMethod yX2_x, Cond.selects RX2 yX2_x yX2_x, Cond.code yX2_x cX2_x 3 (some .int), Cond.methodLink RX7 122 yX2_y, Cond.instanceMethod yX2_y, Cond.selects RX2 yX2_y yX2_y, Cond.code yX2_y cX2_y 3 (some .int), Cond.methodLink RX7 125 yX7_square, Cond.static yX7_square, Cond.code yX7_square cX7_square 2 (some .int), Cond.methodLink RX7 128 yX2_colorOf, Cond.instanceMethod yX2_colorOf, Cond.selects RX2 yX2_colorOf yX2_colorOf, Cond.code yX2_colorOf cX2_colorOf 2 (some .int), Cond.methodLink RX7 131 yX7_endPart, Cond.instanceMethod yX7_endPart, Cond.selects RX7 yX7_endPart yX7_endPart, Cond.code yX7_endPart cX7_endPart 3 (some .boolean)]
def wsX7_rub_r3 : List Cond := [Cond.fieldLink RX7 72 "InkPad$Trail" "size" "I", Cond.methodLink RX7 100 yX2_append, Cond.instanceMethod yX2_append, Cond.selects RX2 yX2_append yX2_append, Cond.code yX2_append cX2_append 3 (some .boolean), Cond.methodLink RX2 36 yX2_set, Cond.instanceMethod yX2_set, Cond.selects RX2 yX2_set yX2_set, Cond.code yX2_set cX2_set 5 none, Cond.fieldLink RX2 25 "InkPad$Trail" "size" "I", Cond.fieldLink RX2 30 "InkPad$Trail" "xs" "[I", Cond.methodLink RX2 19 arraycopyName, Cond.native arraycopyName, Cond.static arraycopyName, Cond.initialized "java/lang/System", Cond.fieldLink RX2 33 "InkPad$Trail" "ys" "[I", Cond.methodLink RX7 75 yX5_append, Cond.instanceMethod yX5_append, Cond.selects RX5 yX5_append yX5_append, Cond.code yX5_append cX5_append 3 none, Cond.fieldLink RX5 9 "InkPad$Trail" "xs" "[I", Cond.fieldLink RX5 15 "InkPad$Trail" "ys" "[I", Cond.methodLink RX5 22 yX5_isLast, Cond.instanceMethod yX5_isLast]
def wsX7_rub_r4 : List Cond := [Cond.selects RX5 yX5_isLast yX5_isLast, Cond.code yX5_isLast cX5_isLast 3 (some .boolean), Cond.methodLink RX7 134 yX2_copy, Cond.instanceMethod yX2_copy, Cond.selects RX2 yX2_copy yX2_copy, Cond.code yX2_copy cX2_copy 2 none, Cond.methodLink RX7 103 yX0_record, Cond.instanceMethod yX0_record, Cond.selects RX0 yX0_record yX0_record, Cond.initialized RX0, Cond.code yX0_record cX0_record 2 none, Cond.fieldLink RX0 18 "InkPad$History" "at" "I", Cond.fieldLink RX0 22 "InkPad$History" "past" "I", Cond.methodLink RX0 25 Lib.Math.min.name, Cond.static Lib.Math.min.name, Cond.initialized "java/lang/Math", Cond.code Lib.Math.min.name Lib.Math.min.code 2 (some .int), Cond.fieldLink RX0 31 "InkPad$History" "future" "I", Cond.fieldLink RX0 11 "InkPad$History" "numbers" "[I", Cond.fieldLink RX0 34 "InkPad$Sheet" "strokes" "I", Cond.fieldLink RX0 39 "InkPad$Sheet" "rows" "[I", Cond.fieldLink RX0 15 "InkPad$History" "sheets" "[I", Cond.methodLink RX0 42 arraycopyName]
def wsX7_rub : List Cond := .code yX7_rub cX7_rub 10 (some .int) :: ((wsX7_rub_r1 ++ (wsX7_rub_r2 ++ (wsX7_rub_r3 ++ wsX7_rub_r4))) ++ wsX70 ++ wsX20 ++ wsX50 ++ wsX00)
def wsX7_replace_r1 : List Cond := [Cond.fieldLink RX7 26 "InkPad" "present" "LInkPad$Sheet;", Cond.fieldLink RX7 33 "InkPad" "work" "LInkPad$Trail;", Cond.fieldLink RX7 39 "InkPad" "history" "LInkPad$History;", Cond.fieldLink RX7 72 "InkPad$Trail" "size" "I", Cond.methodLink RX7 262 yX2_isSame, Cond.instanceMethod yX2_isSame, Cond.selects RX2 yX2_isSame yX2_isSame, Cond.initialized RX2, Cond.code yX2_isSame cX2_isSame 4 (some .boolean), Cond.fieldLink RX2 25 "InkPad$Trail" "size" "I", Cond.fieldLink RX2 30 "InkPad$Trail" "xs" "[I", Cond.fieldLink RX2 33 "InkPad$Trail" "ys" "[I", Cond.methodLink RX2 44 yX2_size, Cond.instanceMethod yX2_size, Cond.selects RX2 yX2_size yX2_size, Cond.code yX2_size cX2_size 2 (some .int), Cond.fieldLink RX2 9 "InkPad$Sheet" "rows" "[I", Cond.methodLink RX2 47 yX2_x, Cond.instanceMethod yX2_x, Cond.selects RX2 yX2_x yX2_x, Cond.code yX2_x cX2_x 3 (some .int), Cond.methodLink RX2 51 yX2_y, Cond.instanceMethod yX2_y, Cond.selects RX2 yX2_y yX2_y]
def wsX7_replace_r2 : List Cond := [Cond.code yX2_y cX2_y 3 (some .int), Cond.methodLink RX7 128 yX2_colorOf, Cond.instanceMethod yX2_colorOf, Cond.selects RX2 yX2_colorOf yX2_colorOf, Cond.code yX2_colorOf cX2_colorOf 2 (some .int), Cond.methodLink RX7 160 yX2_set, Cond.instanceMethod yX2_set, Cond.selects RX2 yX2_set yX2_set, Cond.code yX2_set cX2_set 5 none, Cond.methodLink RX2 19 arraycopyName, Cond.native arraycopyName, Cond.static arraycopyName, Cond.initialized "java/lang/System", Cond.methodLink RX7 103 yX0_record, Cond.instanceMethod yX0_record, Cond.selects RX0 yX0_record yX0_record, Cond.initialized RX0, Cond.code yX0_record cX0_record 2 none, Cond.fieldLink RX0 18 "InkPad$History" "at" "I", Cond.fieldLink RX0 22 "InkPad$History" "past" "I", Cond.methodLink RX0 25 Lib.Math.min.name, Cond.static Lib.Math.min.name, Cond.initialized "java/lang/Math", Cond.code Lib.Math.min.name Lib.Math.min.code 2 (some .int)]
def wsX7_replace_r3 : List Cond := [Cond.fieldLink RX0 31 "InkPad$History" "future" "I", Cond.fieldLink RX0 11 "InkPad$History" "numbers" "[I", Cond.fieldLink RX0 34 "InkPad$Sheet" "strokes" "I", Cond.fieldLink RX0 39 "InkPad$Sheet" "rows" "[I", Cond.fieldLink RX0 15 "InkPad$History" "sheets" "[I", Cond.methodLink RX0 42 arraycopyName]
def wsX7_replace : List Cond := .code yX7_replace cX7_replace 2 (some .int) :: ((wsX7_replace_r1 ++ (wsX7_replace_r2 ++ wsX7_replace_r3)) ++ wsX70 ++ wsX50 ++ wsX20 ++ wsX00)
def wsX7_smooth_r1 : List Cond := [Cond.fieldLink RX7 26 "InkPad" "present" "LInkPad$Sheet;", Cond.fieldLink RX7 33 "InkPad" "work" "LInkPad$Trail;", Cond.methodLink RX7 136 yX2_has, Cond.instanceMethod yX2_has, Cond.selects RX2 yX2_has yX2_has, Cond.initialized RX2, Cond.code yX2_has cX2_has 2 (some .boolean), Cond.fieldLink RX2 15 "InkPad$Sheet" "strokes" "I", Cond.methodLink RX7 110 yX7_isWithin, Cond.static yX7_isWithin, Cond.initialized RX7, Cond.code yX7_isWithin cX7_isWithin 3 (some .boolean), Cond.methodLink RX7 139 yX5_take, Cond.instanceMethod yX5_take, Cond.selects RX5 yX5_take yX5_take, Cond.initialized RX5, Cond.code yX5_take cX5_take 4 none, Cond.fieldLink RX5 18 "InkPad$Trail" "size" "I", Cond.methodLink RX5 32 yX2_size, Cond.instanceMethod yX2_size, Cond.selects RX2 yX2_size yX2_size, Cond.code yX2_size cX2_size 2 (some .int), Cond.fieldLink RX2 9 "InkPad$Sheet" "rows" "[I", Cond.methodLink RX5 37 yX2_x]
def wsX7_smooth_r2 : List Cond := [Cond.instanceMethod yX2_x, Cond.selects RX2 yX2_x yX2_x, Cond.code yX2_x cX2_x 3 (some .int), Cond.methodLink RX5 41 yX2_y, Cond.instanceMethod yX2_y, Cond.selects RX2 yX2_y yX2_y, Cond.code yX2_y cX2_y 3 (some .int), Cond.methodLink RX5 44 yX5_append, Cond.instanceMethod yX5_append, Cond.selects RX5 yX5_append yX5_append, Cond.code yX5_append cX5_append 3 none, Cond.fieldLink RX5 9 "InkPad$Trail" "xs" "[I", Cond.fieldLink RX5 15 "InkPad$Trail" "ys" "[I", Cond.methodLink RX5 22 yX5_isLast, Cond.instanceMethod yX5_isLast, Cond.selects RX5 yX5_isLast yX5_isLast, Cond.code yX5_isLast cX5_isLast 3 (some .boolean), Cond.methodLink RX7 143 yX5_smoothOnce, Cond.instanceMethod yX5_smoothOnce, Cond.selects RX5 yX5_smoothOnce yX5_smoothOnce, Cond.code yX5_smoothOnce cX5_smoothOnce 6 none, Cond.methodLink RX7 146 yX5_dropRepeats, Cond.instanceMethod yX5_dropRepeats, Cond.selects RX5 yX5_dropRepeats yX5_dropRepeats]
def wsX7_smooth_r3 : List Cond := [Cond.code yX5_dropRepeats cX5_dropRepeats 3 none, Cond.methodLink RX7 149 yX7_replace, Cond.instanceMethod yX7_replace, Cond.selects RX7 yX7_replace yX7_replace, Cond.code yX7_replace cX7_replace 2 (some .int), Cond.fieldLink RX7 39 "InkPad" "history" "LInkPad$History;", Cond.fieldLink RX7 72 "InkPad$Trail" "size" "I", Cond.methodLink RX7 262 yX2_isSame, Cond.instanceMethod yX2_isSame, Cond.selects RX2 yX2_isSame yX2_isSame, Cond.code yX2_isSame cX2_isSame 4 (some .boolean), Cond.fieldLink RX2 25 "InkPad$Trail" "size" "I", Cond.fieldLink RX2 30 "InkPad$Trail" "xs" "[I", Cond.fieldLink RX2 33 "InkPad$Trail" "ys" "[I", Cond.methodLink RX2 44 yX2_size, Cond.methodLink RX2 47 yX2_x, Cond.methodLink RX2 51 yX2_y, Cond.methodLink RX7 128 yX2_colorOf, Cond.instanceMethod yX2_colorOf, Cond.selects RX2 yX2_colorOf yX2_colorOf, Cond.code yX2_colorOf cX2_colorOf 2 (some .int), Cond.methodLink RX7 160 yX2_set, Cond.instanceMethod yX2_set, Cond.selects RX2 yX2_set yX2_set]
def wsX7_smooth_r4 : List Cond := [Cond.code yX2_set cX2_set 5 none, Cond.methodLink RX2 19 arraycopyName, Cond.native arraycopyName, Cond.static arraycopyName, Cond.initialized "java/lang/System", Cond.methodLink RX7 103 yX0_record, Cond.instanceMethod yX0_record, Cond.selects RX0 yX0_record yX0_record, Cond.initialized RX0, Cond.code yX0_record cX0_record 2 none, Cond.fieldLink RX0 18 "InkPad$History" "at" "I", Cond.fieldLink RX0 22 "InkPad$History" "past" "I", Cond.methodLink RX0 25 Lib.Math.min.name, Cond.static Lib.Math.min.name, Cond.initialized "java/lang/Math", Cond.code Lib.Math.min.name Lib.Math.min.code 2 (some .int), Cond.fieldLink RX0 31 "InkPad$History" "future" "I", Cond.fieldLink RX0 11 "InkPad$History" "numbers" "[I", Cond.fieldLink RX0 34 "InkPad$Sheet" "strokes" "I", Cond.fieldLink RX0 39 "InkPad$Sheet" "rows" "[I", Cond.fieldLink RX0 15 "InkPad$History" "sheets" "[I", Cond.methodLink RX0 42 arraycopyName]
def wsX7_smooth : List Cond := .code yX7_smooth cX7_smooth 4 (some .int) :: ((wsX7_smooth_r1 ++ (wsX7_smooth_r2 ++ (wsX7_smooth_r3 ++ wsX7_smooth_r4))) ++ wsX70 ++ wsX20 ++ wsX50 ++ wsX00)
def wsX7_thin_r1 : List Cond := [Cond.fieldLink RX7 26 "InkPad" "present" "LInkPad$Sheet;", Cond.fieldLink RX7 33 "InkPad" "work" "LInkPad$Trail;", Cond.methodLink RX7 136 yX2_has, Cond.instanceMethod yX2_has, Cond.selects RX2 yX2_has yX2_has, Cond.initialized RX2, Cond.code yX2_has cX2_has 2 (some .boolean), Cond.fieldLink RX2 15 "InkPad$Sheet" "strokes" "I", Cond.methodLink RX7 110 yX7_isWithin, Cond.static yX7_isWithin, Cond.initialized RX7, Cond.code yX7_isWithin cX7_isWithin 3 (some .boolean), Cond.methodLink RX7 139 yX5_take, Cond.instanceMethod yX5_take, Cond.selects RX5 yX5_take yX5_take, Cond.initialized RX5, Cond.code yX5_take cX5_take 4 none, Cond.fieldLink RX5 18 "InkPad$Trail" "size" "I", Cond.methodLink RX5 32 yX2_size, Cond.instanceMethod yX2_size, Cond.selects RX2 yX2_size yX2_size, Cond.code yX2_size cX2_size 2 (some .int), Cond.fieldLink RX2 9 "InkPad$Sheet" "rows" "[I", Cond.methodLink RX5 37 yX2_x]
def wsX7_thin_r2 : List Cond := [Cond.instanceMethod yX2_x, Cond.selects RX2 yX2_x yX2_x, Cond.code yX2_x cX2_x 3 (some .int), Cond.methodLink RX5 41 yX2_y, Cond.instanceMethod yX2_y, Cond.selects RX2 yX2_y yX2_y, Cond.code yX2_y cX2_y 3 (some .int), Cond.methodLink RX5 44 yX5_append, Cond.instanceMethod yX5_append, Cond.selects RX5 yX5_append yX5_append, Cond.code yX5_append cX5_append 3 none, Cond.fieldLink RX5 9 "InkPad$Trail" "xs" "[I", Cond.fieldLink RX5 15 "InkPad$Trail" "ys" "[I", Cond.methodLink RX5 22 yX5_isLast, Cond.instanceMethod yX5_isLast, Cond.selects RX5 yX5_isLast yX5_isLast, Cond.code yX5_isLast cX5_isLast 3 (some .boolean), Cond.methodLink RX7 152 yX5_dropNear, Cond.instanceMethod yX5_dropNear, Cond.selects RX5 yX5_dropNear yX5_dropNear, Cond.code yX5_dropNear cX5_dropNear 4 none, Cond.static yX7_square, Cond.code yX7_square cX7_square 2 (some .int), Cond.methodLink RX7 149 yX7_replace]
def wsX7_thin_r3 : List Cond := [Cond.instanceMethod yX7_replace, Cond.selects RX7 yX7_replace yX7_replace, Cond.code yX7_replace cX7_replace 2 (some .int), Cond.fieldLink RX7 39 "InkPad" "history" "LInkPad$History;", Cond.fieldLink RX7 72 "InkPad$Trail" "size" "I", Cond.methodLink RX7 262 yX2_isSame, Cond.instanceMethod yX2_isSame, Cond.selects RX2 yX2_isSame yX2_isSame, Cond.code yX2_isSame cX2_isSame 4 (some .boolean), Cond.fieldLink RX2 25 "InkPad$Trail" "size" "I", Cond.fieldLink RX2 30 "InkPad$Trail" "xs" "[I", Cond.fieldLink RX2 33 "InkPad$Trail" "ys" "[I", Cond.methodLink RX2 44 yX2_size, Cond.methodLink RX2 47 yX2_x, Cond.methodLink RX2 51 yX2_y, Cond.methodLink RX7 128 yX2_colorOf, Cond.instanceMethod yX2_colorOf, Cond.selects RX2 yX2_colorOf yX2_colorOf, Cond.code yX2_colorOf cX2_colorOf 2 (some .int), Cond.methodLink RX7 160 yX2_set, Cond.instanceMethod yX2_set, Cond.selects RX2 yX2_set yX2_set, Cond.code yX2_set cX2_set 5 none, Cond.methodLink RX2 19 arraycopyName]
def wsX7_thin_r4 : List Cond := [Cond.native arraycopyName, Cond.static arraycopyName, Cond.initialized "java/lang/System", Cond.methodLink RX7 103 yX0_record, Cond.instanceMethod yX0_record, Cond.selects RX0 yX0_record yX0_record, Cond.initialized RX0, Cond.code yX0_record cX0_record 2 none, Cond.fieldLink RX0 18 "InkPad$History" "at" "I", Cond.fieldLink RX0 22 "InkPad$History" "past" "I", Cond.methodLink RX0 25 Lib.Math.min.name, Cond.static Lib.Math.min.name, Cond.initialized "java/lang/Math", Cond.code Lib.Math.min.name Lib.Math.min.code 2 (some .int), Cond.fieldLink RX0 31 "InkPad$History" "future" "I", Cond.fieldLink RX0 11 "InkPad$History" "numbers" "[I", Cond.fieldLink RX0 34 "InkPad$Sheet" "strokes" "I", Cond.fieldLink RX0 39 "InkPad$Sheet" "rows" "[I", Cond.fieldLink RX0 15 "InkPad$History" "sheets" "[I", Cond.methodLink RX0 42 arraycopyName]
def wsX7_thin : List Cond := .code yX7_thin cX7_thin 3 (some .int) :: ((wsX7_thin_r1 ++ (wsX7_thin_r2 ++ (wsX7_thin_r3 ++ wsX7_thin_r4))) ++ wsX70 ++ wsX20 ++ wsX50 ++ wsX00)
def wsX7_join_r1 : List Cond := [Cond.fieldLink RX7 26 "InkPad" "present" "LInkPad$Sheet;", Cond.fieldLink RX7 33 "InkPad" "work" "LInkPad$Trail;", Cond.fieldLink RX7 72 "InkPad$Trail" "size" "I", Cond.fieldLink RX7 39 "InkPad" "history" "LInkPad$History;", Cond.methodLink RX7 136 yX2_has, Cond.instanceMethod yX2_has, Cond.selects RX2 yX2_has yX2_has, Cond.initialized RX2, Cond.code yX2_has cX2_has 2 (some .boolean), Cond.fieldLink RX2 15 "InkPad$Sheet" "strokes" "I", Cond.methodLink RX7 139 yX5_take, Cond.instanceMethod yX5_take, Cond.selects RX5 yX5_take yX5_take, Cond.initialized RX5, Cond.code yX5_take cX5_take 4 none, Cond.fieldLink RX5 18 "InkPad$Trail" "size" "I", Cond.methodLink RX5 32 yX2_size, Cond.instanceMethod yX2_size, Cond.selects RX2 yX2_size yX2_size, Cond.code yX2_size cX2_size 2 (some .int), Cond.fieldLink RX2 9 "InkPad$Sheet" "rows" "[I", Cond.methodLink RX5 37 yX2_x, Cond.instanceMethod yX2_x, Cond.selects RX2 yX2_x yX2_x]
def wsX7_join_r2 : List Cond := [Cond.code yX2_x cX2_x 3 (some .int), Cond.methodLink RX5 41 yX2_y, Cond.instanceMethod yX2_y, Cond.selects RX2 yX2_y yX2_y, Cond.code yX2_y cX2_y 3 (some .int), Cond.methodLink RX5 44 yX5_append, Cond.instanceMethod yX5_append, Cond.selects RX5 yX5_append yX5_append, Cond.code yX5_append cX5_append 3 none, Cond.fieldLink RX5 9 "InkPad$Trail" "xs" "[I", Cond.fieldLink RX5 15 "InkPad$Trail" "ys" "[I", Cond.methodLink RX5 22 yX5_isLast, Cond.instanceMethod yX5_isLast, Cond.selects RX5 yX5_isLast yX5_isLast, Cond.code yX5_isLast cX5_isLast 3 (some .boolean), Cond.methodLink RX7 118 yX2_x, Cond.methodLink RX7 122 yX2_y, Cond.methodLink RX7 156 yX5_isLast, Cond.methodLink RX7 115 yX2_size, Cond.methodLink RX7 75 yX5_append, Cond.methodLink RX7 128 yX2_colorOf, Cond.instanceMethod yX2_colorOf, Cond.selects RX2 yX2_colorOf yX2_colorOf, Cond.code yX2_colorOf cX2_colorOf 2 (some .int)]
def wsX7_join_r3 : List Cond := [Cond.methodLink RX7 160 yX2_set, Cond.instanceMethod yX2_set, Cond.selects RX2 yX2_set yX2_set, Cond.code yX2_set cX2_set 5 none, Cond.fieldLink RX2 25 "InkPad$Trail" "size" "I", Cond.fieldLink RX2 30 "InkPad$Trail" "xs" "[I", Cond.methodLink RX2 19 arraycopyName, Cond.native arraycopyName, Cond.static arraycopyName, Cond.initialized "java/lang/System", Cond.fieldLink RX2 33 "InkPad$Trail" "ys" "[I", Cond.methodLink RX7 164 yX2_drop, Cond.instanceMethod yX2_drop, Cond.selects RX2 yX2_drop yX2_drop, Cond.code yX2_drop cX2_drop 3 none, Cond.methodLink RX2 40 yX2_has, Cond.methodLink RX7 103 yX0_record, Cond.instanceMethod yX0_record, Cond.selects RX0 yX0_record yX0_record, Cond.initialized RX0, Cond.code yX0_record cX0_record 2 none, Cond.fieldLink RX0 18 "InkPad$History" "at" "I", Cond.fieldLink RX0 22 "InkPad$History" "past" "I", Cond.methodLink RX0 25 Lib.Math.min.name]
def wsX7_join_r4 : List Cond := [Cond.static Lib.Math.min.name, Cond.initialized "java/lang/Math", Cond.code Lib.Math.min.name Lib.Math.min.code 2 (some .int), Cond.fieldLink RX0 31 "InkPad$History" "future" "I", Cond.fieldLink RX0 11 "InkPad$History" "numbers" "[I", Cond.fieldLink RX0 34 "InkPad$Sheet" "strokes" "I", Cond.fieldLink RX0 39 "InkPad$Sheet" "rows" "[I", Cond.fieldLink RX0 15 "InkPad$History" "sheets" "[I", Cond.methodLink RX0 42 arraycopyName]
def wsX7_join : List Cond := .code yX7_join cX7_join 6 (some .int) :: ((wsX7_join_r1 ++ (wsX7_join_r2 ++ (wsX7_join_r3 ++ wsX7_join_r4))) ++ wsX70 ++ wsX50 ++ wsX20 ++ wsX00)
def wsX7_shift_r1 : List Cond := [Cond.fieldLink RX7 26 "InkPad" "present" "LInkPad$Sheet;", Cond.fieldLink RX7 33 "InkPad" "work" "LInkPad$Trail;", Cond.methodLink RX7 136 yX2_has, Cond.instanceMethod yX2_has, Cond.selects RX2 yX2_has yX2_has, Cond.initialized RX2, Cond.code yX2_has cX2_has 2 (some .boolean), Cond.fieldLink RX2 15 "InkPad$Sheet" "strokes" "I", Cond.methodLink RX7 110 yX7_isWithin, Cond.static yX7_isWithin, Cond.initialized RX7, Cond.code yX7_isWithin cX7_isWithin 3 (some .boolean), Cond.methodLink RX7 167 yX2_left, Cond.instanceMethod yX2_left, Cond.selects RX2 yX2_left yX2_left, Cond.code yX2_left cX2_left 2 (some .int), Cond.methodLink RX2 44 yX2_size, Cond.instanceMethod yX2_size, Cond.selects RX2 yX2_size yX2_size, Cond.code yX2_size cX2_size 2 (some .int), Cond.fieldLink RX2 9 "InkPad$Sheet" "rows" "[I", Cond.methodLink RX2 54 yX2_leastFrom, Cond.instanceMethod yX2_leastFrom, Cond.selects RX2 yX2_leastFrom yX2_leastFrom]
def wsX7_shift_r2 : List Cond := [Cond.code yX2_leastFrom cX2_leastFrom 5 (some .int), Cond.methodLink RX2 60 Lib.Math.min.name, Cond.static Lib.Math.min.name, Cond.initialized "java/lang/Math", Cond.code Lib.Math.min.name Lib.Math.min.code 2 (some .int), Cond.methodLink RX7 68 yX7_isCoordinate, Cond.static yX7_isCoordinate, Cond.code yX7_isCoordinate cX7_isCoordinate 1 (some .boolean), Cond.methodLink RX7 170 yX2_right, Cond.instanceMethod yX2_right, Cond.selects RX2 yX2_right yX2_right, Cond.code yX2_right cX2_right 2 (some .int), Cond.methodLink RX2 57 yX2_greatestFrom, Cond.instanceMethod yX2_greatestFrom, Cond.selects RX2 yX2_greatestFrom yX2_greatestFrom, Cond.code yX2_greatestFrom cX2_greatestFrom 5 (some .int), Cond.methodLink RX2 65 Lib.Math.max.name, Cond.static Lib.Math.max.name, Cond.code Lib.Math.max.name Lib.Math.max.code 2 (some .int), Cond.methodLink RX7 173 yX2_top, Cond.instanceMethod yX2_top, Cond.selects RX2 yX2_top yX2_top, Cond.code yX2_top cX2_top 2 (some .int), Cond.methodLink RX7 176 yX2_bottom]
def wsX7_shift_r3 : List Cond := [Cond.instanceMethod yX2_bottom, Cond.selects RX2 yX2_bottom yX2_bottom, Cond.code yX2_bottom cX2_bottom 2 (some .int), Cond.methodLink RX7 79 yX5_empty, Cond.instanceMethod yX5_empty, Cond.selects RX5 yX5_empty yX5_empty, Cond.initialized RX5, Cond.code yX5_empty cX5_empty 1 none, Cond.fieldLink RX5 18 "InkPad$Trail" "size" "I", Cond.methodLink RX7 115 yX2_size, Cond.methodLink RX7 118 yX2_x, Cond.instanceMethod yX2_x, Cond.selects RX2 yX2_x yX2_x, Cond.code yX2_x cX2_x 3 (some .int), Cond.methodLink RX7 122 yX2_y, Cond.instanceMethod yX2_y, Cond.selects RX2 yX2_y yX2_y, Cond.code yX2_y cX2_y 3 (some .int), Cond.methodLink RX7 75 yX5_append, Cond.instanceMethod yX5_append, Cond.selects RX5 yX5_append yX5_append, Cond.code yX5_append cX5_append 3 none, Cond.fieldLink RX5 9 "InkPad$Trail" "xs" "[I", Cond.fieldLink RX5 15 "InkPad$Trail" "ys" "[I"]
def wsX7_shift_r4 : List Cond := [Cond.methodLink RX5 22 yX5_isLast, Cond.instanceMethod yX5_isLast, Cond.selects RX5 yX5_isLast yX5_isLast, Cond.code yX5_isLast cX5_isLast 3 (some .boolean), Cond.methodLink RX7 149 yX7_replace, Cond.instanceMethod yX7_replace, Cond.selects RX7 yX7_replace yX7_replace, Cond.code yX7_replace cX7_replace 2 (some .int), Cond.fieldLink RX7 39 "InkPad" "history" "LInkPad$History;", Cond.fieldLink RX7 72 "InkPad$Trail" "size" "I", Cond.methodLink RX7 262 yX2_isSame, Cond.instanceMethod yX2_isSame, Cond.selects RX2 yX2_isSame yX2_isSame, Cond.code yX2_isSame cX2_isSame 4 (some .boolean), Cond.fieldLink RX2 25 "InkPad$Trail" "size" "I", Cond.fieldLink RX2 30 "InkPad$Trail" "xs" "[I", Cond.fieldLink RX2 33 "InkPad$Trail" "ys" "[I", Cond.methodLink RX2 47 yX2_x, Cond.methodLink RX2 51 yX2_y, Cond.methodLink RX7 128 yX2_colorOf, Cond.instanceMethod yX2_colorOf, Cond.selects RX2 yX2_colorOf yX2_colorOf, Cond.code yX2_colorOf cX2_colorOf 2 (some .int), Cond.methodLink RX7 160 yX2_set]
def wsX7_shift_r5 : List Cond := [Cond.instanceMethod yX2_set, Cond.selects RX2 yX2_set yX2_set, Cond.code yX2_set cX2_set 5 none, Cond.methodLink RX2 19 arraycopyName, Cond.native arraycopyName, Cond.static arraycopyName, Cond.initialized "java/lang/System", Cond.methodLink RX7 103 yX0_record, Cond.instanceMethod yX0_record, Cond.selects RX0 yX0_record yX0_record, Cond.initialized RX0, Cond.code yX0_record cX0_record 2 none, Cond.fieldLink RX0 18 "InkPad$History" "at" "I", Cond.fieldLink RX0 22 "InkPad$History" "past" "I", Cond.methodLink RX0 25 Lib.Math.min.name, Cond.fieldLink RX0 31 "InkPad$History" "future" "I", Cond.fieldLink RX0 11 "InkPad$History" "numbers" "[I", Cond.fieldLink RX0 34 "InkPad$Sheet" "strokes" "I", Cond.fieldLink RX0 39 "InkPad$Sheet" "rows" "[I", Cond.fieldLink RX0 15 "InkPad$History" "sheets" "[I", Cond.methodLink RX0 42 arraycopyName]
def wsX7_shift : List Cond := .code yX7_shift cX7_shift 5 (some .int) :: ((wsX7_shift_r1 ++ (wsX7_shift_r2 ++ (wsX7_shift_r3 ++ (wsX7_shift_r4 ++ wsX7_shift_r5)))) ++ wsX70 ++ wsX20 ++ wsX50 ++ wsX00)
def wsX7_paint_r1 : List Cond := [Cond.fieldLink RX7 26 "InkPad" "present" "LInkPad$Sheet;", Cond.fieldLink RX7 39 "InkPad" "history" "LInkPad$History;", Cond.methodLink RX7 136 yX2_has, Cond.instanceMethod yX2_has, Cond.selects RX2 yX2_has yX2_has, Cond.initialized RX2, Cond.code yX2_has cX2_has 2 (some .boolean), Cond.fieldLink RX2 15 "InkPad$Sheet" "strokes" "I", Cond.methodLink RX7 97 yX7_isColor, Cond.static yX7_isColor, Cond.initialized RX7, Cond.code yX7_isColor cX7_isColor 1 (some .boolean), Cond.methodLink RX7 110 yX7_isWithin, Cond.static yX7_isWithin, Cond.code yX7_isWithin cX7_isWithin 3 (some .boolean), Cond.methodLink RX7 128 yX2_colorOf, Cond.instanceMethod yX2_colorOf, Cond.selects RX2 yX2_colorOf yX2_colorOf, Cond.code yX2_colorOf cX2_colorOf 2 (some .int), Cond.fieldLink RX2 9 "InkPad$Sheet" "rows" "[I", Cond.methodLink RX7 179 yX2_setColor, Cond.instanceMethod yX2_setColor, Cond.selects RX2 yX2_setColor yX2_setColor, Cond.code yX2_setColor cX2_setColor 3 none]
def wsX7_paint_r2 : List Cond := [Cond.methodLink RX7 103 yX0_record, Cond.instanceMethod yX0_record, Cond.selects RX0 yX0_record yX0_record, Cond.initialized RX0, Cond.code yX0_record cX0_record 2 none, Cond.fieldLink RX0 18 "InkPad$History" "at" "I", Cond.fieldLink RX0 22 "InkPad$History" "past" "I", Cond.methodLink RX0 25 Lib.Math.min.name, Cond.static Lib.Math.min.name, Cond.initialized "java/lang/Math", Cond.code Lib.Math.min.name Lib.Math.min.code 2 (some .int), Cond.fieldLink RX0 31 "InkPad$History" "future" "I", Cond.fieldLink RX0 11 "InkPad$History" "numbers" "[I", Cond.fieldLink RX0 34 "InkPad$Sheet" "strokes" "I", Cond.fieldLink RX0 39 "InkPad$Sheet" "rows" "[I", Cond.fieldLink RX0 15 "InkPad$History" "sheets" "[I", Cond.methodLink RX0 42 arraycopyName, Cond.native arraycopyName, Cond.static arraycopyName, Cond.initialized "java/lang/System"]
def wsX7_paint : List Cond := .code yX7_paint cX7_paint 4 (some .int) :: ((wsX7_paint_r1 ++ wsX7_paint_r2) ++ wsX70 ++ wsX20 ++ wsX00)
def wsX7_remove_r1 : List Cond := [Cond.fieldLink RX7 26 "InkPad" "present" "LInkPad$Sheet;", Cond.fieldLink RX7 39 "InkPad" "history" "LInkPad$History;", Cond.fieldLink RX7 107 "InkPad$Sheet" "strokes" "I", Cond.methodLink RX7 136 yX2_has, Cond.instanceMethod yX2_has, Cond.selects RX2 yX2_has yX2_has, Cond.initialized RX2, Cond.code yX2_has cX2_has 2 (some .boolean), Cond.fieldLink RX2 15 "InkPad$Sheet" "strokes" "I", Cond.methodLink RX7 164 yX2_drop, Cond.instanceMethod yX2_drop, Cond.selects RX2 yX2_drop yX2_drop, Cond.code yX2_drop cX2_drop 3 none, Cond.fieldLink RX2 9 "InkPad$Sheet" "rows" "[I", Cond.methodLink RX2 19 arraycopyName, Cond.native arraycopyName, Cond.static arraycopyName, Cond.initialized "java/lang/System", Cond.methodLink RX2 40 yX2_has, Cond.methodLink RX7 103 yX0_record, Cond.instanceMethod yX0_record, Cond.selects RX0 yX0_record yX0_record, Cond.initialized RX0, Cond.code yX0_record cX0_record 2 none]
def wsX7_remove_r2 : List Cond := [Cond.fieldLink RX0 18 "InkPad$History" "at" "I", Cond.fieldLink RX0 22 "InkPad$History" "past" "I", Cond.methodLink RX0 25 Lib.Math.min.name, Cond.static Lib.Math.min.name, Cond.initialized "java/lang/Math", Cond.code Lib.Math.min.name Lib.Math.min.code 2 (some .int), Cond.fieldLink RX0 31 "InkPad$History" "future" "I", Cond.fieldLink RX0 11 "InkPad$History" "numbers" "[I", Cond.fieldLink RX0 34 "InkPad$Sheet" "strokes" "I", Cond.fieldLink RX0 39 "InkPad$Sheet" "rows" "[I", Cond.fieldLink RX0 15 "InkPad$History" "sheets" "[I", Cond.methodLink RX0 42 arraycopyName]
def wsX7_remove : List Cond := .code yX7_remove cX7_remove 2 (some .int) :: ((wsX7_remove_r1 ++ wsX7_remove_r2) ++ wsX70 ++ wsX20 ++ wsX00)
def wsX7_undo : List Cond := .code yX7_undo cX7_undo 1 (some .int) :: ([.fieldLink RX7 39 "InkPad" "history" "LInkPad$History;", .fieldLink RX7 182 "InkPad$History" "past" "I", .fieldLink RX7 26 "InkPad" "present" "LInkPad$Sheet;", .methodLink RX7 185 yX0_stepBack, .instanceMethod yX0_stepBack, .selects RX0 yX0_stepBack yX0_stepBack, .initialized RX0, .code yX0_stepBack cX0_stepBack 2 none, .fieldLink RX0 22 "InkPad$History" "past" "I", .fieldLink RX0 18 "InkPad$History" "at" "I", .fieldLink RX0 31 "InkPad$History" "future" "I", .methodLink RX0 48 yX0_show, .instanceMethod yX0_show, .selects RX0 yX0_show yX0_show, .code yX0_show cX0_show 2 none, .fieldLink RX0 11 "InkPad$History" "numbers" "[I", .fieldLink RX0 34 "InkPad$Sheet" "strokes" "I", .fieldLink RX0 15 "InkPad$History" "sheets" "[I", .fieldLink RX0 39 "InkPad$Sheet" "rows" "[I", .methodLink RX0 42 arraycopyName, .native arraycopyName, .static arraycopyName, .initialized "java/lang/System"] ++ wsX70 ++ wsX00 ++ wsX20)
def wsX7_redo : List Cond := .code yX7_redo cX7_redo 1 (some .int) :: ([.fieldLink RX7 39 "InkPad" "history" "LInkPad$History;", .fieldLink RX7 188 "InkPad$History" "future" "I", .fieldLink RX7 26 "InkPad" "present" "LInkPad$Sheet;", .methodLink RX7 191 yX0_stepOn, .instanceMethod yX0_stepOn, .selects RX0 yX0_stepOn yX0_stepOn, .initialized RX0, .code yX0_stepOn cX0_stepOn 2 none, .fieldLink RX0 31 "InkPad$History" "future" "I", .fieldLink RX0 18 "InkPad$History" "at" "I", .fieldLink RX0 22 "InkPad$History" "past" "I", .methodLink RX0 48 yX0_show, .instanceMethod yX0_show, .selects RX0 yX0_show yX0_show, .code yX0_show cX0_show 2 none, .fieldLink RX0 11 "InkPad$History" "numbers" "[I", .fieldLink RX0 34 "InkPad$Sheet" "strokes" "I", .fieldLink RX0 15 "InkPad$History" "sheets" "[I", .fieldLink RX0 39 "InkPad$Sheet" "rows" "[I", .methodLink RX0 42 arraycopyName, .native arraycopyName, .static arraycopyName, .initialized "java/lang/System"] ++ wsX70 ++ wsX00 ++ wsX20)
def wsX7_layOut_r1 : List Cond := [Cond.fieldLink RX7 46 "InkPad" "lines" "LInkPad$Lines;", Cond.fieldLink RX7 26 "InkPad" "present" "LInkPad$Sheet;", Cond.fieldLink RX7 53 "InkPad" "words" "LInkPad$Words;", Cond.fieldLink RX7 64 "InkPad" "gap" "I", Cond.methodLink RX7 265 yX1_group, Cond.instanceMethod yX1_group, Cond.selects RX1 yX1_group yX1_group, Cond.initialized RX1, Cond.code yX1_group cX1_group 6 none, Cond.fieldLink RX1 33 "InkPad$Lines" "number" "I", Cond.fieldLink RX1 37 "InkPad$Sheet" "strokes" "I", Cond.fieldLink RX1 24 "InkPad$Lines" "begunTops" "[I", Cond.fieldLink RX1 27 "InkPad$Lines" "begunBottoms" "[I", Cond.methodLink RX1 53 Lib.Math.min.name, Cond.static Lib.Math.min.name, Cond.initialized "java/lang/Math", Cond.code Lib.Math.min.name Lib.Math.min.code 2 (some .int), Cond.methodLink RX1 58 Lib.Math.max.name, Cond.static Lib.Math.max.name, Cond.code Lib.Math.max.name Lib.Math.max.code 2 (some .int), Cond.fieldLink RX1 9 "InkPad$Lines" "lineOf" "[I", Cond.methodLink RX1 42 yX2_top, Cond.instanceMethod yX2_top, Cond.selects RX2 yX2_top yX2_top]
def wsX7_layOut_r2 : List Cond := [Cond.initialized RX2, Cond.code yX2_top cX2_top 2 (some .int), Cond.methodLink RX2 44 yX2_size, Cond.instanceMethod yX2_size, Cond.selects RX2 yX2_size yX2_size, Cond.code yX2_size cX2_size 2 (some .int), Cond.fieldLink RX2 9 "InkPad$Sheet" "rows" "[I", Cond.methodLink RX2 54 yX2_leastFrom, Cond.instanceMethod yX2_leastFrom, Cond.selects RX2 yX2_leastFrom yX2_leastFrom, Cond.code yX2_leastFrom cX2_leastFrom 5 (some .int), Cond.methodLink RX2 60 Lib.Math.min.name, Cond.methodLink RX1 46 yX2_bottom, Cond.instanceMethod yX2_bottom, Cond.selects RX2 yX2_bottom yX2_bottom, Cond.code yX2_bottom cX2_bottom 2 (some .int), Cond.methodLink RX2 57 yX2_greatestFrom, Cond.instanceMethod yX2_greatestFrom, Cond.selects RX2 yX2_greatestFrom yX2_greatestFrom, Cond.code yX2_greatestFrom cX2_greatestFrom 5 (some .int), Cond.methodLink RX2 65 Lib.Math.max.name, Cond.methodLink RX1 49 yX1_bestFor, Cond.instanceMethod yX1_bestFor, Cond.selects RX1 yX1_bestFor yX1_bestFor]
def wsX7_layOut_r3 : List Cond := [Cond.code yX1_bestFor cX1_bestFor 10 (some .int), Cond.methodLink RX1 61 yX1_rank, Cond.instanceMethod yX1_rank, Cond.selects RX1 yX1_rank yX1_rank, Cond.code yX1_rank cX1_rank 5 none, Cond.fieldLink RX1 30 "InkPad$Lines" "ranks" "[I", Cond.fieldLink RX1 15 "InkPad$Lines" "tops" "[I", Cond.fieldLink RX1 18 "InkPad$Lines" "bottoms" "[I", Cond.fieldLink RX1 21 "InkPad$Lines" "sizes" "[I", Cond.methodLink RX1 65 yX1_isBefore, Cond.instanceMethod yX1_isBefore, Cond.selects RX1 yX1_isBefore yX1_isBefore, Cond.code yX1_isBefore cX1_isBefore 3 (some .boolean), Cond.methodLink RX7 268 yX6_group, Cond.instanceMethod yX6_group, Cond.selects RX6 yX6_group yX6_group, Cond.initialized RX6, Cond.code yX6_group cX6_group 10 none, Cond.fieldLink RX6 49 "InkPad$Words" "number" "I", Cond.fieldLink RX6 53 "InkPad$Sheet" "strokes" "I", Cond.fieldLink RX6 9 "InkPad$Words" "order" "[I", Cond.fieldLink RX6 58 "InkPad$Lines" "lineOf" "[I", Cond.fieldLink RX6 36 "InkPad$Words" "wordsIn" "[I", Cond.fieldLink RX6 39 "InkPad$Words" "firstIn" "[I"]
def wsX7_layOut_r4 : List Cond := [Cond.fieldLink RX6 42 "InkPad$Words" "strokeLefts" "[I", Cond.fieldLink RX6 30 "InkPad$Words" "rights" "[I", Cond.fieldLink RX6 21 "InkPad$Words" "lines" "[I", Cond.fieldLink RX6 24 "InkPad$Words" "sizes" "[I", Cond.fieldLink RX6 27 "InkPad$Words" "lefts" "[I", Cond.fieldLink RX6 33 "InkPad$Words" "firsts" "[I", Cond.fieldLink RX6 18 "InkPad$Words" "wordOf" "[I", Cond.methodLink RX6 67 Lib.Math.max.name, Cond.methodLink RX6 45 yX6_setOrder, Cond.instanceMethod yX6_setOrder, Cond.selects RX6 yX6_setOrder yX6_setOrder, Cond.code yX6_setOrder cX6_setOrder 6 none, Cond.fieldLink RX6 15 "InkPad$Words" "placeOf" "[I", Cond.methodLink RX6 73 yX2_left, Cond.instanceMethod yX2_left, Cond.selects RX2 yX2_left yX2_left, Cond.code yX2_left cX2_left 2 (some .int), Cond.methodLink RX6 76 yX6_isBefore, Cond.instanceMethod yX6_isBefore, Cond.selects RX6 yX6_isBefore yX6_isBefore, Cond.code yX6_isBefore cX6_isBefore 4 (some .boolean), Cond.methodLink RX6 63 yX2_right, Cond.instanceMethod yX2_right, Cond.selects RX2 yX2_right yX2_right]
def wsX7_layOut_r5 : List Cond := [Cond.code yX2_right cX2_right 2 (some .int)]
def wsX7_layOut : List Cond := .code yX7_layOut cX7_layOut 1 none :: ((wsX7_layOut_r1 ++ (wsX7_layOut_r2 ++ (wsX7_layOut_r3 ++ (wsX7_layOut_r4 ++ wsX7_layOut_r5)))) ++ wsX70 ++ wsX10 ++ wsX20 ++ wsX60)
def wsX7_stroke_r1 : List Cond := [Cond.fieldLink RX7 26 "InkPad" "present" "LInkPad$Sheet;", Cond.fieldLink RX7 46 "InkPad" "lines" "LInkPad$Lines;", Cond.fieldLink RX7 199 "InkPad$Lines" "lineOf" "[I", Cond.fieldLink RX7 53 "InkPad" "words" "LInkPad$Words;", Cond.fieldLink RX7 203 "InkPad$Words" "wordOf" "[I", Cond.fieldLink RX7 206 "InkPad$Words" "placeOf" "[I", Cond.methodLink RX7 136 yX2_has, Cond.instanceMethod yX2_has, Cond.selects RX2 yX2_has yX2_has, Cond.initialized RX2, Cond.code yX2_has cX2_has 2 (some .boolean), Cond.fieldLink RX2 15 "InkPad$Sheet" "strokes" "I", Cond.methodLink RX7 128 yX2_colorOf, Cond.instanceMethod yX2_colorOf, Cond.selects RX2 yX2_colorOf yX2_colorOf, Cond.code yX2_colorOf cX2_colorOf 2 (some .int), Cond.fieldLink RX2 9 "InkPad$Sheet" "rows" "[I", Cond.methodLink RX7 115 yX2_size, Cond.instanceMethod yX2_size, Cond.selects RX2 yX2_size yX2_size, Cond.code yX2_size cX2_size 2 (some .int), Cond.methodLink RX7 167 yX2_left, Cond.instanceMethod yX2_left, Cond.selects RX2 yX2_left yX2_left]
def wsX7_stroke_r2 : List Cond := [Cond.code yX2_left cX2_left 2 (some .int), Cond.methodLink RX2 44 yX2_size, Cond.methodLink RX2 54 yX2_leastFrom, Cond.instanceMethod yX2_leastFrom, Cond.selects RX2 yX2_leastFrom yX2_leastFrom, Cond.code yX2_leastFrom cX2_leastFrom 5 (some .int), Cond.methodLink RX2 60 Lib.Math.min.name, Cond.static Lib.Math.min.name, Cond.initialized "java/lang/Math", Cond.code Lib.Math.min.name Lib.Math.min.code 2 (some .int), Cond.methodLink RX7 170 yX2_right, Cond.instanceMethod yX2_right, Cond.selects RX2 yX2_right yX2_right, Cond.code yX2_right cX2_right 2 (some .int), Cond.methodLink RX2 57 yX2_greatestFrom, Cond.instanceMethod yX2_greatestFrom, Cond.selects RX2 yX2_greatestFrom yX2_greatestFrom, Cond.code yX2_greatestFrom cX2_greatestFrom 5 (some .int), Cond.methodLink RX2 65 Lib.Math.max.name, Cond.static Lib.Math.max.name, Cond.code Lib.Math.max.name Lib.Math.max.code 2 (some .int), Cond.methodLink RX7 173 yX2_top, Cond.instanceMethod yX2_top, Cond.selects RX2 yX2_top yX2_top]
def wsX7_stroke_r3 : List Cond := [Cond.code yX2_top cX2_top 2 (some .int), Cond.methodLink RX7 176 yX2_bottom, Cond.instanceMethod yX2_bottom, Cond.selects RX2 yX2_bottom yX2_bottom, Cond.code yX2_bottom cX2_bottom 2 (some .int), Cond.methodLink RX7 194 yX2_length, Cond.instanceMethod yX2_length, Cond.selects RX2 yX2_length yX2_length, Cond.code yX2_length cX2_length 6 (some .int), Cond.methodLink RX2 47 yX2_x, Cond.instanceMethod yX2_x, Cond.selects RX2 yX2_x yX2_x, Cond.code yX2_x cX2_x 3 (some .int), Cond.methodLink RX2 51 yX2_y, Cond.instanceMethod yX2_y, Cond.selects RX2 yX2_y yX2_y, Cond.code yX2_y cX2_y 3 (some .int), Cond.static yX7_square, Cond.initialized RX7, Cond.code yX7_square cX7_square 2 (some .int), Cond.static yX7_root, Cond.code yX7_root cX7_root 4 (some .int), Cond.methodLink RX7 196 yX7_layOut, Cond.instanceMethod yX7_layOut]
def wsX7_stroke_r4 : List Cond := [Cond.selects RX7 yX7_layOut yX7_layOut, Cond.code yX7_layOut cX7_layOut 1 none, Cond.fieldLink RX7 64 "InkPad" "gap" "I", Cond.methodLink RX7 265 yX1_group, Cond.instanceMethod yX1_group, Cond.selects RX1 yX1_group yX1_group, Cond.initialized RX1, Cond.code yX1_group cX1_group 6 none, Cond.fieldLink RX1 33 "InkPad$Lines" "number" "I", Cond.fieldLink RX1 37 "InkPad$Sheet" "strokes" "I", Cond.fieldLink RX1 24 "InkPad$Lines" "begunTops" "[I", Cond.fieldLink RX1 27 "InkPad$Lines" "begunBottoms" "[I", Cond.methodLink RX1 53 Lib.Math.min.name, Cond.methodLink RX1 58 Lib.Math.max.name, Cond.fieldLink RX1 9 "InkPad$Lines" "lineOf" "[I", Cond.methodLink RX1 42 yX2_top, Cond.methodLink RX1 46 yX2_bottom, Cond.methodLink RX1 49 yX1_bestFor, Cond.instanceMethod yX1_bestFor, Cond.selects RX1 yX1_bestFor yX1_bestFor, Cond.code yX1_bestFor cX1_bestFor 10 (some .int), Cond.methodLink RX1 61 yX1_rank, Cond.instanceMethod yX1_rank, Cond.selects RX1 yX1_rank yX1_rank]
def wsX7_stroke_r5 : List Cond := [Cond.code yX1_rank cX1_rank 5 none, Cond.fieldLink RX1 30 "InkPad$Lines" "ranks" "[I", Cond.fieldLink RX1 15 "InkPad$Lines" "tops" "[I", Cond.fieldLink RX1 18 "InkPad$Lines" "bottoms" "[I", Cond.fieldLink RX1 21 "InkPad$Lines" "sizes" "[I", Cond.methodLink RX1 65 yX1_isBefore, Cond.instanceMethod yX1_isBefore, Cond.selects RX1 yX1_isBefore yX1_isBefore, Cond.code yX1_isBefore cX1_isBefore 3 (some .boolean), Cond.methodLink RX7 268 yX6_group, Cond.instanceMethod yX6_group, Cond.selects RX6 yX6_group yX6_group, Cond.initialized RX6, Cond.code yX6_group cX6_group 10 none, Cond.fieldLink RX6 49 "InkPad$Words" "number" "I", Cond.fieldLink RX6 53 "InkPad$Sheet" "strokes" "I", Cond.fieldLink RX6 9 "InkPad$Words" "order" "[I", Cond.fieldLink RX6 58 "InkPad$Lines" "lineOf" "[I", Cond.fieldLink RX6 36 "InkPad$Words" "wordsIn" "[I", Cond.fieldLink RX6 39 "InkPad$Words" "firstIn" "[I", Cond.fieldLink RX6 42 "InkPad$Words" "strokeLefts" "[I", Cond.fieldLink RX6 30 "InkPad$Words" "rights" "[I", Cond.fieldLink RX6 21 "InkPad$Words" "lines" "[I", Cond.fieldLink RX6 24 "InkPad$Words" "sizes" "[I"]
def wsX7_stroke_r6 : List Cond := [Cond.fieldLink RX6 27 "InkPad$Words" "lefts" "[I", Cond.fieldLink RX6 33 "InkPad$Words" "firsts" "[I", Cond.fieldLink RX6 18 "InkPad$Words" "wordOf" "[I", Cond.methodLink RX6 67 Lib.Math.max.name, Cond.methodLink RX6 45 yX6_setOrder, Cond.instanceMethod yX6_setOrder, Cond.selects RX6 yX6_setOrder yX6_setOrder, Cond.code yX6_setOrder cX6_setOrder 6 none, Cond.fieldLink RX6 15 "InkPad$Words" "placeOf" "[I", Cond.methodLink RX6 73 yX2_left, Cond.methodLink RX6 76 yX6_isBefore, Cond.instanceMethod yX6_isBefore, Cond.selects RX6 yX6_isBefore yX6_isBefore, Cond.code yX6_isBefore cX6_isBefore 4 (some .boolean), Cond.methodLink RX6 63 yX2_right]
def wsX7_stroke : List Cond := .code yX7_stroke cX7_stroke 3 (some .int) :: ((wsX7_stroke_r1 ++ (wsX7_stroke_r2 ++ (wsX7_stroke_r3 ++ (wsX7_stroke_r4 ++ (wsX7_stroke_r5 ++ wsX7_stroke_r6))))) ++ wsX70 ++ wsX10 ++ wsX60 ++ wsX20)
def wsX7_point : List Cond := .code yX7_point cX7_point 4 (some .int) :: ([.fieldLink RX7 26 "InkPad" "present" "LInkPad$Sheet;", .methodLink RX7 136 yX2_has, .instanceMethod yX2_has, .selects RX2 yX2_has yX2_has, .initialized RX2, .code yX2_has cX2_has 2 (some .boolean), .fieldLink RX2 15 "InkPad$Sheet" "strokes" "I", .methodLink RX7 115 yX2_size, .instanceMethod yX2_size, .selects RX2 yX2_size yX2_size, .code yX2_size cX2_size 2 (some .int), .fieldLink RX2 9 "InkPad$Sheet" "rows" "[I", .methodLink RX7 110 yX7_isWithin, .static yX7_isWithin, .initialized RX7, .code yX7_isWithin cX7_isWithin 3 (some .boolean), .methodLink RX7 118 yX2_x, .instanceMethod yX2_x, .selects RX2 yX2_x yX2_x, .code yX2_x cX2_x 3 (some .int), .methodLink RX7 122 yX2_y, .instanceMethod yX2_y, .selects RX2 yX2_y yX2_y, .code yX2_y cX2_y 3 (some .int)] ++ wsX70 ++ wsX20)
def wsX7_read_r1 : List Cond := [Cond.fieldLink RX7 26 "InkPad" "present" "LInkPad$Sheet;", Cond.fieldLink RX7 107 "InkPad$Sheet" "strokes" "I", Cond.fieldLink RX7 53 "InkPad" "words" "LInkPad$Words;", Cond.fieldLink RX7 209 "InkPad$Words" "order" "[I", Cond.methodLink RX7 196 yX7_layOut, Cond.instanceMethod yX7_layOut, Cond.selects RX7 yX7_layOut yX7_layOut, Cond.initialized RX7, Cond.code yX7_layOut cX7_layOut 1 none, Cond.fieldLink RX7 46 "InkPad" "lines" "LInkPad$Lines;", Cond.fieldLink RX7 64 "InkPad" "gap" "I", Cond.methodLink RX7 265 yX1_group, Cond.instanceMethod yX1_group, Cond.selects RX1 yX1_group yX1_group, Cond.initialized RX1, Cond.code yX1_group cX1_group 6 none, Cond.fieldLink RX1 33 "InkPad$Lines" "number" "I", Cond.fieldLink RX1 37 "InkPad$Sheet" "strokes" "I", Cond.fieldLink RX1 24 "InkPad$Lines" "begunTops" "[I", Cond.fieldLink RX1 27 "InkPad$Lines" "begunBottoms" "[I", Cond.methodLink RX1 53 Lib.Math.min.name, Cond.static Lib.Math.min.name, Cond.initialized "java/lang/Math", Cond.code Lib.Math.min.name Lib.Math.min.code 2 (some .int)]
def wsX7_read_r2 : List Cond := [Cond.methodLink RX1 58 Lib.Math.max.name, Cond.static Lib.Math.max.name, Cond.code Lib.Math.max.name Lib.Math.max.code 2 (some .int), Cond.fieldLink RX1 9 "InkPad$Lines" "lineOf" "[I", Cond.methodLink RX1 42 yX2_top, Cond.instanceMethod yX2_top, Cond.selects RX2 yX2_top yX2_top, Cond.initialized RX2, Cond.code yX2_top cX2_top 2 (some .int), Cond.methodLink RX2 44 yX2_size, Cond.instanceMethod yX2_size, Cond.selects RX2 yX2_size yX2_size, Cond.code yX2_size cX2_size 2 (some .int), Cond.fieldLink RX2 9 "InkPad$Sheet" "rows" "[I", Cond.methodLink RX2 54 yX2_leastFrom, Cond.instanceMethod yX2_leastFrom, Cond.selects RX2 yX2_leastFrom yX2_leastFrom, Cond.code yX2_leastFrom cX2_leastFrom 5 (some .int), Cond.methodLink RX2 60 Lib.Math.min.name, Cond.methodLink RX1 46 yX2_bottom, Cond.instanceMethod yX2_bottom, Cond.selects RX2 yX2_bottom yX2_bottom, Cond.code yX2_bottom cX2_bottom 2 (some .int), Cond.methodLink RX2 57 yX2_greatestFrom]
def wsX7_read_r3 : List Cond := [Cond.instanceMethod yX2_greatestFrom, Cond.selects RX2 yX2_greatestFrom yX2_greatestFrom, Cond.code yX2_greatestFrom cX2_greatestFrom 5 (some .int), Cond.methodLink RX2 65 Lib.Math.max.name, Cond.methodLink RX1 49 yX1_bestFor, Cond.instanceMethod yX1_bestFor, Cond.selects RX1 yX1_bestFor yX1_bestFor, Cond.code yX1_bestFor cX1_bestFor 10 (some .int), Cond.methodLink RX1 61 yX1_rank, Cond.instanceMethod yX1_rank, Cond.selects RX1 yX1_rank yX1_rank, Cond.code yX1_rank cX1_rank 5 none, Cond.fieldLink RX1 30 "InkPad$Lines" "ranks" "[I", Cond.fieldLink RX1 15 "InkPad$Lines" "tops" "[I", Cond.fieldLink RX1 18 "InkPad$Lines" "bottoms" "[I", Cond.fieldLink RX1 21 "InkPad$Lines" "sizes" "[I", Cond.methodLink RX1 65 yX1_isBefore, Cond.instanceMethod yX1_isBefore, Cond.selects RX1 yX1_isBefore yX1_isBefore, Cond.code yX1_isBefore cX1_isBefore 3 (some .boolean), Cond.methodLink RX7 268 yX6_group, Cond.instanceMethod yX6_group, Cond.selects RX6 yX6_group yX6_group, Cond.initialized RX6]
def wsX7_read_r4 : List Cond := [Cond.code yX6_group cX6_group 10 none, Cond.fieldLink RX6 49 "InkPad$Words" "number" "I", Cond.fieldLink RX6 53 "InkPad$Sheet" "strokes" "I", Cond.fieldLink RX6 9 "InkPad$Words" "order" "[I", Cond.fieldLink RX6 58 "InkPad$Lines" "lineOf" "[I", Cond.fieldLink RX6 36 "InkPad$Words" "wordsIn" "[I", Cond.fieldLink RX6 39 "InkPad$Words" "firstIn" "[I", Cond.fieldLink RX6 42 "InkPad$Words" "strokeLefts" "[I", Cond.fieldLink RX6 30 "InkPad$Words" "rights" "[I", Cond.fieldLink RX6 21 "InkPad$Words" "lines" "[I", Cond.fieldLink RX6 24 "InkPad$Words" "sizes" "[I", Cond.fieldLink RX6 27 "InkPad$Words" "lefts" "[I", Cond.fieldLink RX6 33 "InkPad$Words" "firsts" "[I", Cond.fieldLink RX6 18 "InkPad$Words" "wordOf" "[I", Cond.methodLink RX6 67 Lib.Math.max.name, Cond.methodLink RX6 45 yX6_setOrder, Cond.instanceMethod yX6_setOrder, Cond.selects RX6 yX6_setOrder yX6_setOrder, Cond.code yX6_setOrder cX6_setOrder 6 none, Cond.fieldLink RX6 15 "InkPad$Words" "placeOf" "[I", Cond.methodLink RX6 73 yX2_left, Cond.instanceMethod yX2_left, Cond.selects RX2 yX2_left yX2_left, Cond.code yX2_left cX2_left 2 (some .int)]
def wsX7_read_r5 : List Cond := [Cond.methodLink RX6 76 yX6_isBefore, Cond.instanceMethod yX6_isBefore, Cond.selects RX6 yX6_isBefore yX6_isBefore, Cond.code yX6_isBefore cX6_isBefore 4 (some .boolean), Cond.methodLink RX6 63 yX2_right, Cond.instanceMethod yX2_right, Cond.selects RX2 yX2_right yX2_right, Cond.code yX2_right cX2_right 2 (some .int)]
def wsX7_read : List Cond := .code yX7_read cX7_read 2 (some .int) :: ((wsX7_read_r1 ++ (wsX7_read_r2 ++ (wsX7_read_r3 ++ (wsX7_read_r4 ++ wsX7_read_r5)))) ++ wsX70 ++ wsX20 ++ wsX60 ++ wsX10)
def wsX7_line_r1 : List Cond := [Cond.fieldLink RX7 46 "InkPad" "lines" "LInkPad$Lines;", Cond.fieldLink RX7 212 "InkPad$Lines" "number" "I", Cond.fieldLink RX7 215 "InkPad$Lines" "tops" "[I", Cond.fieldLink RX7 218 "InkPad$Lines" "bottoms" "[I", Cond.fieldLink RX7 221 "InkPad$Lines" "sizes" "[I", Cond.fieldLink RX7 53 "InkPad" "words" "LInkPad$Words;", Cond.fieldLink RX7 224 "InkPad$Words" "wordsIn" "[I", Cond.fieldLink RX7 227 "InkPad$Words" "firstIn" "[I", Cond.methodLink RX7 196 yX7_layOut, Cond.instanceMethod yX7_layOut, Cond.selects RX7 yX7_layOut yX7_layOut, Cond.initialized RX7, Cond.code yX7_layOut cX7_layOut 1 none, Cond.fieldLink RX7 26 "InkPad" "present" "LInkPad$Sheet;", Cond.fieldLink RX7 64 "InkPad" "gap" "I", Cond.methodLink RX7 265 yX1_group, Cond.instanceMethod yX1_group, Cond.selects RX1 yX1_group yX1_group, Cond.initialized RX1, Cond.code yX1_group cX1_group 6 none, Cond.fieldLink RX1 33 "InkPad$Lines" "number" "I", Cond.fieldLink RX1 37 "InkPad$Sheet" "strokes" "I", Cond.fieldLink RX1 24 "InkPad$Lines" "begunTops" "[I", Cond.fieldLink RX1 27 "InkPad$Lines" "begunBottoms" "[I"]
def wsX7_line_r2 : List Cond := [Cond.methodLink RX1 53 Lib.Math.min.name, Cond.static Lib.Math.min.name, Cond.initialized "java/lang/Math", Cond.code Lib.Math.min.name Lib.Math.min.code 2 (some .int), Cond.methodLink RX1 58 Lib.Math.max.name, Cond.static Lib.Math.max.name, Cond.code Lib.Math.max.name Lib.Math.max.code 2 (some .int), Cond.fieldLink RX1 9 "InkPad$Lines" "lineOf" "[I", Cond.methodLink RX1 42 yX2_top, Cond.instanceMethod yX2_top, Cond.selects RX2 yX2_top yX2_top, Cond.initialized RX2, Cond.code yX2_top cX2_top 2 (some .int), Cond.methodLink RX2 44 yX2_size, Cond.instanceMethod yX2_size, Cond.selects RX2 yX2_size yX2_size, Cond.code yX2_size cX2_size 2 (some .int), Cond.fieldLink RX2 9 "InkPad$Sheet" "rows" "[I", Cond.methodLink RX2 54 yX2_leastFrom, Cond.instanceMethod yX2_leastFrom, Cond.selects RX2 yX2_leastFrom yX2_leastFrom, Cond.code yX2_leastFrom cX2_leastFrom 5 (some .int), Cond.methodLink RX2 60 Lib.Math.min.name, Cond.methodLink RX1 46 yX2_bottom]
def wsX7_line_r3 : List Cond := [Cond.instanceMethod yX2_bottom, Cond.selects RX2 yX2_bottom yX2_bottom, Cond.code yX2_bottom cX2_bottom 2 (some .int), Cond.methodLink RX2 57 yX2_greatestFrom, Cond.instanceMethod yX2_greatestFrom, Cond.selects RX2 yX2_greatestFrom yX2_greatestFrom, Cond.code yX2_greatestFrom cX2_greatestFrom 5 (some .int), Cond.methodLink RX2 65 Lib.Math.max.name, Cond.methodLink RX1 49 yX1_bestFor, Cond.instanceMethod yX1_bestFor, Cond.selects RX1 yX1_bestFor yX1_bestFor, Cond.code yX1_bestFor cX1_bestFor 10 (some .int), Cond.methodLink RX1 61 yX1_rank, Cond.instanceMethod yX1_rank, Cond.selects RX1 yX1_rank yX1_rank, Cond.code yX1_rank cX1_rank 5 none, Cond.fieldLink RX1 30 "InkPad$Lines" "ranks" "[I", Cond.fieldLink RX1 15 "InkPad$Lines" "tops" "[I", Cond.fieldLink RX1 18 "InkPad$Lines" "bottoms" "[I", Cond.fieldLink RX1 21 "InkPad$Lines" "sizes" "[I", Cond.methodLink RX1 65 yX1_isBefore, Cond.instanceMethod yX1_isBefore, Cond.selects RX1 yX1_isBefore yX1_isBefore, Cond.code yX1_isBefore cX1_isBefore 3 (some .boolean)]
def wsX7_line_r4 : List Cond := [Cond.methodLink RX7 268 yX6_group, Cond.instanceMethod yX6_group, Cond.selects RX6 yX6_group yX6_group, Cond.initialized RX6, Cond.code yX6_group cX6_group 10 none, Cond.fieldLink RX6 49 "InkPad$Words" "number" "I", Cond.fieldLink RX6 53 "InkPad$Sheet" "strokes" "I", Cond.fieldLink RX6 9 "InkPad$Words" "order" "[I", Cond.fieldLink RX6 58 "InkPad$Lines" "lineOf" "[I", Cond.fieldLink RX6 36 "InkPad$Words" "wordsIn" "[I", Cond.fieldLink RX6 39 "InkPad$Words" "firstIn" "[I", Cond.fieldLink RX6 42 "InkPad$Words" "strokeLefts" "[I", Cond.fieldLink RX6 30 "InkPad$Words" "rights" "[I", Cond.fieldLink RX6 21 "InkPad$Words" "lines" "[I", Cond.fieldLink RX6 24 "InkPad$Words" "sizes" "[I", Cond.fieldLink RX6 27 "InkPad$Words" "lefts" "[I", Cond.fieldLink RX6 33 "InkPad$Words" "firsts" "[I", Cond.fieldLink RX6 18 "InkPad$Words" "wordOf" "[I", Cond.methodLink RX6 67 Lib.Math.max.name, Cond.methodLink RX6 45 yX6_setOrder, Cond.instanceMethod yX6_setOrder, Cond.selects RX6 yX6_setOrder yX6_setOrder, Cond.code yX6_setOrder cX6_setOrder 6 none, Cond.fieldLink RX6 15 "InkPad$Words" "placeOf" "[I"]
def wsX7_line_r5 : List Cond := [Cond.methodLink RX6 73 yX2_left, Cond.instanceMethod yX2_left, Cond.selects RX2 yX2_left yX2_left, Cond.code yX2_left cX2_left 2 (some .int), Cond.methodLink RX6 76 yX6_isBefore, Cond.instanceMethod yX6_isBefore, Cond.selects RX6 yX6_isBefore yX6_isBefore, Cond.code yX6_isBefore cX6_isBefore 4 (some .boolean), Cond.methodLink RX6 63 yX2_right, Cond.instanceMethod yX2_right, Cond.selects RX2 yX2_right yX2_right, Cond.code yX2_right cX2_right 2 (some .int), Cond.methodLink RX7 110 yX7_isWithin, Cond.static yX7_isWithin, Cond.code yX7_isWithin cX7_isWithin 3 (some .boolean)]
def wsX7_line : List Cond := .code yX7_line cX7_line 3 (some .int) :: ((wsX7_line_r1 ++ (wsX7_line_r2 ++ (wsX7_line_r3 ++ (wsX7_line_r4 ++ wsX7_line_r5)))) ++ wsX70 ++ wsX10 ++ wsX60 ++ wsX20)
def wsX7_word_r1 : List Cond := [Cond.fieldLink RX7 53 "InkPad" "words" "LInkPad$Words;", Cond.fieldLink RX7 230 "InkPad$Words" "number" "I", Cond.fieldLink RX7 231 "InkPad$Words" "lines" "[I", Cond.fieldLink RX7 233 "InkPad$Words" "sizes" "[I", Cond.fieldLink RX7 234 "InkPad$Words" "lefts" "[I", Cond.fieldLink RX7 237 "InkPad$Words" "rights" "[I", Cond.fieldLink RX7 240 "InkPad$Words" "firsts" "[I", Cond.methodLink RX7 196 yX7_layOut, Cond.instanceMethod yX7_layOut, Cond.selects RX7 yX7_layOut yX7_layOut, Cond.initialized RX7, Cond.code yX7_layOut cX7_layOut 1 none, Cond.fieldLink RX7 46 "InkPad" "lines" "LInkPad$Lines;", Cond.fieldLink RX7 26 "InkPad" "present" "LInkPad$Sheet;", Cond.fieldLink RX7 64 "InkPad" "gap" "I", Cond.methodLink RX7 265 yX1_group, Cond.instanceMethod yX1_group, Cond.selects RX1 yX1_group yX1_group, Cond.initialized RX1, Cond.code yX1_group cX1_group 6 none, Cond.fieldLink RX1 33 "InkPad$Lines" "number" "I", Cond.fieldLink RX1 37 "InkPad$Sheet" "strokes" "I", Cond.fieldLink RX1 24 "InkPad$Lines" "begunTops" "[I", Cond.fieldLink RX1 27 "InkPad$Lines" "begunBottoms" "[I"]
def wsX7_word_r2 : List Cond := [Cond.methodLink RX1 53 Lib.Math.min.name, Cond.static Lib.Math.min.name, Cond.initialized "java/lang/Math", Cond.code Lib.Math.min.name Lib.Math.min.code 2 (some .int), Cond.methodLink RX1 58 Lib.Math.max.name, Cond.static Lib.Math.max.name, Cond.code Lib.Math.max.name Lib.Math.max.code 2 (some .int), Cond.fieldLink RX1 9 "InkPad$Lines" "lineOf" "[I", Cond.methodLink RX1 42 yX2_top, Cond.instanceMethod yX2_top, Cond.selects RX2 yX2_top yX2_top, Cond.initialized RX2, Cond.code yX2_top cX2_top 2 (some .int), Cond.methodLink RX2 44 yX2_size, Cond.instanceMethod yX2_size, Cond.selects RX2 yX2_size yX2_size, Cond.code yX2_size cX2_size 2 (some .int), Cond.fieldLink RX2 9 "InkPad$Sheet" "rows" "[I", Cond.methodLink RX2 54 yX2_leastFrom, Cond.instanceMethod yX2_leastFrom, Cond.selects RX2 yX2_leastFrom yX2_leastFrom, Cond.code yX2_leastFrom cX2_leastFrom 5 (some .int), Cond.methodLink RX2 60 Lib.Math.min.name, Cond.methodLink RX1 46 yX2_bottom]
def wsX7_word_r3 : List Cond := [Cond.instanceMethod yX2_bottom, Cond.selects RX2 yX2_bottom yX2_bottom, Cond.code yX2_bottom cX2_bottom 2 (some .int), Cond.methodLink RX2 57 yX2_greatestFrom, Cond.instanceMethod yX2_greatestFrom, Cond.selects RX2 yX2_greatestFrom yX2_greatestFrom, Cond.code yX2_greatestFrom cX2_greatestFrom 5 (some .int), Cond.methodLink RX2 65 Lib.Math.max.name, Cond.methodLink RX1 49 yX1_bestFor, Cond.instanceMethod yX1_bestFor, Cond.selects RX1 yX1_bestFor yX1_bestFor, Cond.code yX1_bestFor cX1_bestFor 10 (some .int), Cond.methodLink RX1 61 yX1_rank, Cond.instanceMethod yX1_rank, Cond.selects RX1 yX1_rank yX1_rank, Cond.code yX1_rank cX1_rank 5 none, Cond.fieldLink RX1 30 "InkPad$Lines" "ranks" "[I", Cond.fieldLink RX1 15 "InkPad$Lines" "tops" "[I", Cond.fieldLink RX1 18 "InkPad$Lines" "bottoms" "[I", Cond.fieldLink RX1 21 "InkPad$Lines" "sizes" "[I", Cond.methodLink RX1 65 yX1_isBefore, Cond.instanceMethod yX1_isBefore, Cond.selects RX1 yX1_isBefore yX1_isBefore, Cond.code yX1_isBefore cX1_isBefore 3 (some .boolean)]
def wsX7_word_r4 : List Cond := [Cond.methodLink RX7 268 yX6_group, Cond.instanceMethod yX6_group, Cond.selects RX6 yX6_group yX6_group, Cond.initialized RX6, Cond.code yX6_group cX6_group 10 none, Cond.fieldLink RX6 49 "InkPad$Words" "number" "I", Cond.fieldLink RX6 53 "InkPad$Sheet" "strokes" "I", Cond.fieldLink RX6 9 "InkPad$Words" "order" "[I", Cond.fieldLink RX6 58 "InkPad$Lines" "lineOf" "[I", Cond.fieldLink RX6 36 "InkPad$Words" "wordsIn" "[I", Cond.fieldLink RX6 39 "InkPad$Words" "firstIn" "[I", Cond.fieldLink RX6 42 "InkPad$Words" "strokeLefts" "[I", Cond.fieldLink RX6 30 "InkPad$Words" "rights" "[I", Cond.fieldLink RX6 21 "InkPad$Words" "lines" "[I", Cond.fieldLink RX6 24 "InkPad$Words" "sizes" "[I", Cond.fieldLink RX6 27 "InkPad$Words" "lefts" "[I", Cond.fieldLink RX6 33 "InkPad$Words" "firsts" "[I", Cond.fieldLink RX6 18 "InkPad$Words" "wordOf" "[I", Cond.methodLink RX6 67 Lib.Math.max.name, Cond.methodLink RX6 45 yX6_setOrder, Cond.instanceMethod yX6_setOrder, Cond.selects RX6 yX6_setOrder yX6_setOrder, Cond.code yX6_setOrder cX6_setOrder 6 none, Cond.fieldLink RX6 15 "InkPad$Words" "placeOf" "[I"]
def wsX7_word_r5 : List Cond := [Cond.methodLink RX6 73 yX2_left, Cond.instanceMethod yX2_left, Cond.selects RX2 yX2_left yX2_left, Cond.code yX2_left cX2_left 2 (some .int), Cond.methodLink RX6 76 yX6_isBefore, Cond.instanceMethod yX6_isBefore, Cond.selects RX6 yX6_isBefore yX6_isBefore, Cond.code yX6_isBefore cX6_isBefore 4 (some .boolean), Cond.methodLink RX6 63 yX2_right, Cond.instanceMethod yX2_right, Cond.selects RX2 yX2_right yX2_right, Cond.code yX2_right cX2_right 2 (some .int), Cond.methodLink RX7 110 yX7_isWithin, Cond.static yX7_isWithin, Cond.code yX7_isWithin cX7_isWithin 3 (some .boolean)]
def wsX7_word : List Cond := .code yX7_word cX7_word 3 (some .int) :: ((wsX7_word_r1 ++ (wsX7_word_r2 ++ (wsX7_word_r3 ++ (wsX7_word_r4 ++ wsX7_word_r5)))) ++ wsX70 ++ wsX60 ++ wsX10 ++ wsX20)
def wsX7_setGap : List Cond := .code yX7_setGap cX7_setGap 3 (some .int) :: ([.fieldLink RX7 64 "InkPad" "gap" "I", .methodLink RX7 110 yX7_isWithin, .static yX7_isWithin, .initialized RX7, .code yX7_isWithin cX7_isWithin 3 (some .boolean)] ++ wsX70)
def wsX7_nearest_r1 : List Cond := [Cond.fieldLink RX7 26 "InkPad" "present" "LInkPad$Sheet;", Cond.fieldLink RX7 107 "InkPad$Sheet" "strokes" "I", Cond.methodLink RX7 68 yX7_isCoordinate, Cond.static yX7_isCoordinate, Cond.initialized RX7, Cond.code yX7_isCoordinate cX7_isCoordinate 1 (some .boolean), Cond.methodLink RX7 110 yX7_isWithin, Cond.static yX7_isWithin, Cond.code yX7_isWithin cX7_isWithin 3 (some .boolean), Cond.methodLink RX7 115 yX2_size, Cond.instanceMethod yX2_size, Cond.selects RX2 yX2_size yX2_size, Cond.initialized RX2, Cond.code yX2_size cX2_size 2 (some .int), Cond.fieldLink RX2 9 "InkPad$Sheet" "rows" "[I", Cond.methodLink RX7 118 yX2_x, Cond.instanceMethod yX2_x, Cond.selects RX2 yX2_x yX2_x, Cond.code yX2_x cX2_x 3 (some .int), Cond.methodLink RX7 122 yX2_y, Cond.instanceMethod yX2_y, Cond.selects RX2 yX2_y yX2_y, Cond.code yX2_y cX2_y 3 (some .int), Cond.methodLink RX7 125 yX7_square]
def wsX7_nearest_r2 : List Cond := [Cond.static yX7_square, Cond.code yX7_square cX7_square 2 (some .int)]
def wsX7_nearest : List Cond := .code yX7_nearest cX7_nearest 8 (some .int) :: ((wsX7_nearest_r1 ++ wsX7_nearest_r2) ++ wsX70 ++ wsX20)
def wsX7_cell_r1 : List Cond := [Cond.fieldLink RX7 26 "InkPad" "present" "LInkPad$Sheet;", Cond.fieldLink RX7 107 "InkPad$Sheet" "strokes" "I", Cond.methodLink RX7 68 yX7_isCoordinate, Cond.static yX7_isCoordinate, Cond.initialized RX7, Cond.code yX7_isCoordinate cX7_isCoordinate 1 (some .boolean), Cond.methodLink RX7 110 yX7_isWithin, Cond.static yX7_isWithin, Cond.code yX7_isWithin cX7_isWithin 3 (some .boolean), Cond.methodLink RX7 243 yX7_cellOf, Cond.static yX7_cellOf, Cond.code yX7_cellOf cX7_cellOf 2 (some .int), Cond.methodLink RX7 115 yX2_size, Cond.instanceMethod yX2_size, Cond.selects RX2 yX2_size yX2_size, Cond.initialized RX2, Cond.code yX2_size cX2_size 2 (some .int), Cond.fieldLink RX2 9 "InkPad$Sheet" "rows" "[I", Cond.methodLink RX7 118 yX2_x, Cond.instanceMethod yX2_x, Cond.selects RX2 yX2_x yX2_x, Cond.code yX2_x cX2_x 3 (some .int), Cond.methodLink RX7 122 yX2_y, Cond.instanceMethod yX2_y]
def wsX7_cell_r2 : List Cond := [Cond.selects RX2 yX2_y yX2_y, Cond.code yX2_y cX2_y 3 (some .int)]
def wsX7_cell : List Cond := .code yX7_cell cX7_cell 7 (some .int) :: ((wsX7_cell_r1 ++ wsX7_cell_r2) ++ wsX70 ++ wsX20)
def wsX7_color_r1 : List Cond := [Cond.fieldLink RX7 26 "InkPad" "present" "LInkPad$Sheet;", Cond.fieldLink RX7 60 "InkPad" "tally" "LInkPad$Tally;", Cond.fieldLink RX7 256 "InkPad$Tally" "cells" "I", Cond.methodLink RX7 97 yX7_isColor, Cond.static yX7_isColor, Cond.initialized RX7, Cond.code yX7_isColor cX7_isColor 1 (some .boolean), Cond.methodLink RX7 110 yX7_isWithin, Cond.static yX7_isWithin, Cond.code yX7_isWithin cX7_isWithin 3 (some .boolean), Cond.methodLink RX7 246 yX2_strokesOf, Cond.instanceMethod yX2_strokesOf, Cond.selects RX2 yX2_strokesOf yX2_strokesOf, Cond.initialized RX2, Cond.code yX2_strokesOf cX2_strokesOf 4 (some .int), Cond.fieldLink RX2 15 "InkPad$Sheet" "strokes" "I", Cond.methodLink RX2 77 yX2_isOf, Cond.instanceMethod yX2_isOf, Cond.selects RX2 yX2_isOf yX2_isOf, Cond.code yX2_isOf cX2_isOf 3 (some .boolean), Cond.methodLink RX2 74 yX2_colorOf, Cond.instanceMethod yX2_colorOf, Cond.selects RX2 yX2_colorOf yX2_colorOf, Cond.code yX2_colorOf cX2_colorOf 2 (some .int)]
def wsX7_color_r2 : List Cond := [Cond.fieldLink RX2 9 "InkPad$Sheet" "rows" "[I", Cond.methodLink RX7 249 yX2_pointsOf, Cond.instanceMethod yX2_pointsOf, Cond.selects RX2 yX2_pointsOf yX2_pointsOf, Cond.code yX2_pointsOf cX2_pointsOf 4 (some .int), Cond.methodLink RX2 44 yX2_size, Cond.instanceMethod yX2_size, Cond.selects RX2 yX2_size yX2_size, Cond.code yX2_size cX2_size 2 (some .int), Cond.methodLink RX7 252 yX2_lengthsOf, Cond.instanceMethod yX2_lengthsOf, Cond.selects RX2 yX2_lengthsOf yX2_lengthsOf, Cond.code yX2_lengthsOf cX2_lengthsOf 4 (some .int), Cond.methodLink RX2 81 yX2_length, Cond.instanceMethod yX2_length, Cond.selects RX2 yX2_length yX2_length, Cond.code yX2_length cX2_length 6 (some .int), Cond.methodLink RX2 47 yX2_x, Cond.instanceMethod yX2_x, Cond.selects RX2 yX2_x yX2_x, Cond.code yX2_x cX2_x 3 (some .int), Cond.methodLink RX2 51 yX2_y, Cond.instanceMethod yX2_y, Cond.selects RX2 yX2_y yX2_y]
def wsX7_color_r3 : List Cond := [Cond.code yX2_y cX2_y 3 (some .int), Cond.static yX7_square, Cond.code yX7_square cX7_square 2 (some .int), Cond.static yX7_root, Cond.code yX7_root cX7_root 4 (some .int), Cond.methodLink RX7 255 yX3_take, Cond.instanceMethod yX3_take, Cond.selects RX3 yX3_take yX3_take, Cond.initialized RX3, Cond.code yX3_take cX3_take 5 none, Cond.fieldLink RX3 16 "InkPad$Tally" "cells" "I", Cond.fieldLink RX3 20 "InkPad$Tally" "most" "I", Cond.fieldLink RX3 13 "InkPad$Tally" "points" "[I", Cond.fieldLink RX3 23 "InkPad$Sheet" "strokes" "I", Cond.methodLink RX3 28 yX2_isOf, Cond.methodLink RX3 32 yX2_size, Cond.methodLink RX3 36 yX2_x, Cond.methodLink RX3 40 yX2_y, Cond.static yX7_cellOf, Cond.code yX7_cellOf cX7_cellOf 2 (some .int), Cond.methodLink RX3 48 yX3_add, Cond.instanceMethod yX3_add, Cond.selects RX3 yX3_add yX3_add, Cond.code yX3_add cX3_add 4 none]
def wsX7_color_r4 : List Cond := [Cond.fieldLink RX3 9 "InkPad$Tally" "keys" "[I", Cond.methodLink RX3 52 Lib.Math.max.name, Cond.static Lib.Math.max.name, Cond.initialized "java/lang/Math", Cond.code Lib.Math.max.name Lib.Math.max.code 2 (some .int)]
def wsX7_color : List Cond := .code yX7_color cX7_color 3 (some .int) :: ((wsX7_color_r1 ++ (wsX7_color_r2 ++ (wsX7_color_r3 ++ wsX7_color_r4))) ++ wsX70 ++ wsX30 ++ wsX20)
def wsX7_count_r1 : List Cond := [Cond.fieldLink RX7 26 "InkPad" "present" "LInkPad$Sheet;", Cond.fieldLink RX7 107 "InkPad$Sheet" "strokes" "I", Cond.fieldLink RX7 46 "InkPad" "lines" "LInkPad$Lines;", Cond.fieldLink RX7 212 "InkPad$Lines" "number" "I", Cond.fieldLink RX7 53 "InkPad" "words" "LInkPad$Words;", Cond.fieldLink RX7 230 "InkPad$Words" "number" "I", Cond.fieldLink RX7 60 "InkPad" "tally" "LInkPad$Tally;", Cond.fieldLink RX7 256 "InkPad$Tally" "cells" "I", Cond.fieldLink RX7 259 "InkPad$Tally" "most" "I", Cond.fieldLink RX7 12 "InkPad" "buffer" "LInkPad$Trail;", Cond.fieldLink RX7 72 "InkPad$Trail" "size" "I", Cond.fieldLink RX7 39 "InkPad" "history" "LInkPad$History;", Cond.fieldLink RX7 182 "InkPad$History" "past" "I", Cond.fieldLink RX7 188 "InkPad$History" "future" "I", Cond.fieldLink RX7 64 "InkPad" "gap" "I", Cond.methodLink RX7 249 yX2_pointsOf, Cond.instanceMethod yX2_pointsOf, Cond.selects RX2 yX2_pointsOf yX2_pointsOf, Cond.initialized RX2, Cond.code yX2_pointsOf cX2_pointsOf 4 (some .int), Cond.fieldLink RX2 15 "InkPad$Sheet" "strokes" "I", Cond.methodLink RX2 77 yX2_isOf, Cond.instanceMethod yX2_isOf, Cond.selects RX2 yX2_isOf yX2_isOf]
def wsX7_count_r2 : List Cond := [Cond.code yX2_isOf cX2_isOf 3 (some .boolean), Cond.methodLink RX2 74 yX2_colorOf, Cond.instanceMethod yX2_colorOf, Cond.selects RX2 yX2_colorOf yX2_colorOf, Cond.code yX2_colorOf cX2_colorOf 2 (some .int), Cond.fieldLink RX2 9 "InkPad$Sheet" "rows" "[I", Cond.methodLink RX2 44 yX2_size, Cond.instanceMethod yX2_size, Cond.selects RX2 yX2_size yX2_size, Cond.code yX2_size cX2_size 2 (some .int), Cond.methodLink RX7 252 yX2_lengthsOf, Cond.instanceMethod yX2_lengthsOf, Cond.selects RX2 yX2_lengthsOf yX2_lengthsOf, Cond.code yX2_lengthsOf cX2_lengthsOf 4 (some .int), Cond.methodLink RX2 81 yX2_length, Cond.instanceMethod yX2_length, Cond.selects RX2 yX2_length yX2_length, Cond.code yX2_length cX2_length 6 (some .int), Cond.methodLink RX2 47 yX2_x, Cond.instanceMethod yX2_x, Cond.selects RX2 yX2_x yX2_x, Cond.code yX2_x cX2_x 3 (some .int), Cond.methodLink RX2 51 yX2_y, Cond.instanceMethod yX2_y]
def wsX7_count_r3 : List Cond := [Cond.selects RX2 yX2_y yX2_y, Cond.code yX2_y cX2_y 3 (some .int), Cond.static yX7_square, Cond.initialized RX7, Cond.code yX7_square cX7_square 2 (some .int), Cond.static yX7_root, Cond.code yX7_root cX7_root 4 (some .int), Cond.methodLink RX7 196 yX7_layOut, Cond.instanceMethod yX7_layOut, Cond.selects RX7 yX7_layOut yX7_layOut, Cond.code yX7_layOut cX7_layOut 1 none, Cond.methodLink RX7 265 yX1_group, Cond.instanceMethod yX1_group, Cond.selects RX1 yX1_group yX1_group, Cond.initialized RX1, Cond.code yX1_group cX1_group 6 none, Cond.fieldLink RX1 33 "InkPad$Lines" "number" "I", Cond.fieldLink RX1 37 "InkPad$Sheet" "strokes" "I", Cond.fieldLink RX1 24 "InkPad$Lines" "begunTops" "[I", Cond.fieldLink RX1 27 "InkPad$Lines" "begunBottoms" "[I", Cond.methodLink RX1 53 Lib.Math.min.name, Cond.static Lib.Math.min.name, Cond.initialized "java/lang/Math", Cond.code Lib.Math.min.name Lib.Math.min.code 2 (some .int)]
def wsX7_count_r4 : List Cond := [Cond.methodLink RX1 58 Lib.Math.max.name, Cond.static Lib.Math.max.name, Cond.code Lib.Math.max.name Lib.Math.max.code 2 (some .int), Cond.fieldLink RX1 9 "InkPad$Lines" "lineOf" "[I", Cond.methodLink RX1 42 yX2_top, Cond.instanceMethod yX2_top, Cond.selects RX2 yX2_top yX2_top, Cond.code yX2_top cX2_top 2 (some .int), Cond.methodLink RX2 54 yX2_leastFrom, Cond.instanceMethod yX2_leastFrom, Cond.selects RX2 yX2_leastFrom yX2_leastFrom, Cond.code yX2_leastFrom cX2_leastFrom 5 (some .int), Cond.methodLink RX2 60 Lib.Math.min.name, Cond.methodLink RX1 46 yX2_bottom, Cond.instanceMethod yX2_bottom, Cond.selects RX2 yX2_bottom yX2_bottom, Cond.code yX2_bottom cX2_bottom 2 (some .int), Cond.methodLink RX2 57 yX2_greatestFrom, Cond.instanceMethod yX2_greatestFrom, Cond.selects RX2 yX2_greatestFrom yX2_greatestFrom, Cond.code yX2_greatestFrom cX2_greatestFrom 5 (some .int), Cond.methodLink RX2 65 Lib.Math.max.name, Cond.methodLink RX1 49 yX1_bestFor, Cond.instanceMethod yX1_bestFor]
def wsX7_count_r5 : List Cond := [Cond.selects RX1 yX1_bestFor yX1_bestFor, Cond.code yX1_bestFor cX1_bestFor 10 (some .int), Cond.methodLink RX1 61 yX1_rank, Cond.instanceMethod yX1_rank, Cond.selects RX1 yX1_rank yX1_rank, Cond.code yX1_rank cX1_rank 5 none, Cond.fieldLink RX1 30 "InkPad$Lines" "ranks" "[I", Cond.fieldLink RX1 15 "InkPad$Lines" "tops" "[I", Cond.fieldLink RX1 18 "InkPad$Lines" "bottoms" "[I", Cond.fieldLink RX1 21 "InkPad$Lines" "sizes" "[I", Cond.methodLink RX1 65 yX1_isBefore, Cond.instanceMethod yX1_isBefore, Cond.selects RX1 yX1_isBefore yX1_isBefore, Cond.code yX1_isBefore cX1_isBefore 3 (some .boolean), Cond.methodLink RX7 268 yX6_group, Cond.instanceMethod yX6_group, Cond.selects RX6 yX6_group yX6_group, Cond.initialized RX6, Cond.code yX6_group cX6_group 10 none, Cond.fieldLink RX6 49 "InkPad$Words" "number" "I", Cond.fieldLink RX6 53 "InkPad$Sheet" "strokes" "I", Cond.fieldLink RX6 9 "InkPad$Words" "order" "[I", Cond.fieldLink RX6 58 "InkPad$Lines" "lineOf" "[I", Cond.fieldLink RX6 36 "InkPad$Words" "wordsIn" "[I"]
def wsX7_count_r6 : List Cond := [Cond.fieldLink RX6 39 "InkPad$Words" "firstIn" "[I", Cond.fieldLink RX6 42 "InkPad$Words" "strokeLefts" "[I", Cond.fieldLink RX6 30 "InkPad$Words" "rights" "[I", Cond.fieldLink RX6 21 "InkPad$Words" "lines" "[I", Cond.fieldLink RX6 24 "InkPad$Words" "sizes" "[I", Cond.fieldLink RX6 27 "InkPad$Words" "lefts" "[I", Cond.fieldLink RX6 33 "InkPad$Words" "firsts" "[I", Cond.fieldLink RX6 18 "InkPad$Words" "wordOf" "[I", Cond.methodLink RX6 67 Lib.Math.max.name, Cond.methodLink RX6 45 yX6_setOrder, Cond.instanceMethod yX6_setOrder, Cond.selects RX6 yX6_setOrder yX6_setOrder, Cond.code yX6_setOrder cX6_setOrder 6 none, Cond.fieldLink RX6 15 "InkPad$Words" "placeOf" "[I", Cond.methodLink RX6 73 yX2_left, Cond.instanceMethod yX2_left, Cond.selects RX2 yX2_left yX2_left, Cond.code yX2_left cX2_left 2 (some .int), Cond.methodLink RX6 76 yX6_isBefore, Cond.instanceMethod yX6_isBefore, Cond.selects RX6 yX6_isBefore yX6_isBefore, Cond.code yX6_isBefore cX6_isBefore 4 (some .boolean), Cond.methodLink RX6 63 yX2_right, Cond.instanceMethod yX2_right]
def wsX7_count_r7 : List Cond := [Cond.selects RX2 yX2_right yX2_right, Cond.code yX2_right cX2_right 2 (some .int), Cond.methodLink RX7 255 yX3_take, Cond.instanceMethod yX3_take, Cond.selects RX3 yX3_take yX3_take, Cond.initialized RX3, Cond.code yX3_take cX3_take 5 none, Cond.fieldLink RX3 16 "InkPad$Tally" "cells" "I", Cond.fieldLink RX3 20 "InkPad$Tally" "most" "I", Cond.fieldLink RX3 13 "InkPad$Tally" "points" "[I", Cond.fieldLink RX3 23 "InkPad$Sheet" "strokes" "I", Cond.methodLink RX3 28 yX2_isOf, Cond.methodLink RX3 32 yX2_size, Cond.methodLink RX3 36 yX2_x, Cond.methodLink RX3 40 yX2_y, Cond.static yX7_cellOf, Cond.code yX7_cellOf cX7_cellOf 2 (some .int), Cond.methodLink RX3 48 yX3_add, Cond.instanceMethod yX3_add, Cond.selects RX3 yX3_add yX3_add, Cond.code yX3_add cX3_add 4 none, Cond.fieldLink RX3 9 "InkPad$Tally" "keys" "[I", Cond.methodLink RX3 52 Lib.Math.max.name]
def wsX7_count : List Cond := .code yX7_count cX7_count 2 (some .int) :: ((wsX7_count_r1 ++ (wsX7_count_r2 ++ (wsX7_count_r3 ++ (wsX7_count_r4 ++ (wsX7_count_r5 ++ (wsX7_count_r6 ++ wsX7_count_r7)))))) ++ wsX70 ++ wsX20 ++ wsX10 ++ wsX60 ++ wsX30 ++ wsX50 ++ wsX00)
def wsX8_init_r1 : List Cond := [Cond.methodLink RX8 1 objectInit, Cond.instanceMethod objectInit, Cond.code objectInit ⟨#[0xb1]⟩ 1 none, Cond.arrayClass .int, Cond.fieldLink RX8 7 "InkPadModel" "now" "[I", Cond.fieldLink RX8 13 "InkPadModel" "gap" "I", Cond.fieldLink RX8 17 "InkPadModel" "history" "[I", Cond.fieldLink RX8 20 "InkPadModel" "again" "[I", Cond.fieldLink RX8 23 "InkPadModel" "bufferX" "[I", Cond.fieldLink RX8 26 "InkPadModel" "bufferY" "[I", Cond.arrayClass .char, Cond.fieldLink RX8 29 "InkPadModel" "text" "[C", Cond.fieldLink RX8 33 "InkPadModel" "readX" "[I", Cond.fieldLink RX8 36 "InkPadModel" "readY" "[I", Cond.fieldLink RX8 39 "InkPadModel" "next" "[I", Cond.fieldLink RX8 42 "InkPadModel" "px" "[I", Cond.fieldLink RX8 45 "InkPadModel" "py" "[I", Cond.fieldLink RX8 48 "InkPadModel" "qx" "[I", Cond.fieldLink RX8 51 "InkPadModel" "qy" "[I", Cond.fieldLink RX8 54 "InkPadModel" "topOf" "[I", Cond.fieldLink RX8 57 "InkPadModel" "bottomOf" "[I", Cond.fieldLink RX8 60 "InkPadModel" "begunIn" "[I", Cond.fieldLink RX8 63 "InkPadModel" "rankOf" "[I", Cond.fieldLink RX8 66 "InkPadModel" "wordOf" "[I"]
def wsX8_init_r2 : List Cond := [Cond.fieldLink RX8 69 "InkPadModel" "orderOf" "[I", Cond.fieldLink RX8 72 "InkPadModel" "inked" "[I"]
def wsX8_init : List Cond := .code yX8_init cX8_init 1 none :: ((wsX8_init_r1 ++ wsX8_init_r2) ++ wsX80)
def wsX8_in : List Cond := .code yX8_in cX8_in 3 (some .boolean) :: ([])
def wsX8_isPlace : List Cond := .code yX8_isPlace cX8_isPlace 1 (some .boolean) :: ([.methodLink RX8 75 yX8_in, .static yX8_in, .initialized RX8, .code yX8_in cX8_in 3 (some .boolean)])
def wsX8_strokes : List Cond := .code yX8_strokes cX8_strokes 1 (some .int) :: ([.fieldLink RX8 7 "InkPadModel" "now" "[I"] ++ wsX80)
def wsX8_size : List Cond := .code yX8_size cX8_size 2 (some .int) :: ([.fieldLink RX8 7 "InkPadModel" "now" "[I"] ++ wsX80)
def wsX8_x : List Cond := .code yX8_x cX8_x 3 (some .int) :: ([.fieldLink RX8 7 "InkPadModel" "now" "[I"] ++ wsX80)
def wsX8_y : List Cond := .code yX8_y cX8_y 3 (some .int) :: ([.fieldLink RX8 7 "InkPadModel" "now" "[I"] ++ wsX80)
def wsX8_copyRow : List Cond := .code yX8_copyRow cX8_copyRow 5 none :: ([])
def wsX8_push : List Cond := .code yX8_push cX8_push 2 none :: ([.fieldLink RX8 79 "InkPadModel" "kept" "I", .fieldLink RX8 17 "InkPadModel" "history" "[I", .fieldLink RX8 7 "InkPadModel" "now" "[I", .methodLink RX8 82 yX8_copyRow, .static yX8_copyRow, .initialized RX8, .code yX8_copyRow cX8_copyRow 5 none] ++ wsX80)
def wsX8_record : List Cond := .code yX8_record cX8_record 1 none :: ([.fieldLink RX8 89 "InkPadModel" "undone" "I", .methodLink RX8 86 yX8_push, .instanceMethod yX8_push, .selects RX8 yX8_push yX8_push, .initialized RX8, .code yX8_push cX8_push 2 none, .fieldLink RX8 79 "InkPadModel" "kept" "I", .fieldLink RX8 17 "InkPadModel" "history" "[I", .fieldLink RX8 7 "InkPadModel" "now" "[I", .methodLink RX8 82 yX8_copyRow, .static yX8_copyRow, .code yX8_copyRow cX8_copyRow 5 none] ++ wsX80)
def wsX8_undo : List Cond := .code yX8_undo cX8_undo 1 (some .int) :: ([.fieldLink RX8 79 "InkPadModel" "kept" "I", .fieldLink RX8 7 "InkPadModel" "now" "[I", .fieldLink RX8 20 "InkPadModel" "again" "[I", .fieldLink RX8 89 "InkPadModel" "undone" "I", .fieldLink RX8 17 "InkPadModel" "history" "[I", .methodLink RX8 82 yX8_copyRow, .static yX8_copyRow, .initialized RX8, .code yX8_copyRow cX8_copyRow 5 none] ++ wsX80)
def wsX8_redo : List Cond := .code yX8_redo cX8_redo 1 (some .int) :: ([.fieldLink RX8 89 "InkPadModel" "undone" "I", .fieldLink RX8 20 "InkPadModel" "again" "[I", .fieldLink RX8 7 "InkPadModel" "now" "[I", .methodLink RX8 86 yX8_push, .instanceMethod yX8_push, .selects RX8 yX8_push yX8_push, .initialized RX8, .code yX8_push cX8_push 2 none, .fieldLink RX8 79 "InkPadModel" "kept" "I", .fieldLink RX8 17 "InkPadModel" "history" "[I", .methodLink RX8 82 yX8_copyRow, .static yX8_copyRow, .code yX8_copyRow cX8_copyRow 5 none] ++ wsX80)
def wsX8_isLast : List Cond := .code yX8_isLast cX8_isLast 3 (some .boolean) :: ([.fieldLink RX8 92 "InkPadModel" "buffered" "I", .fieldLink RX8 23 "InkPadModel" "bufferX" "[I", .fieldLink RX8 26 "InkPadModel" "bufferY" "[I"] ++ wsX80)
def wsX8_add : List Cond := .code yX8_add cX8_add 3 none :: ([.fieldLink RX8 23 "InkPadModel" "bufferX" "[I", .fieldLink RX8 92 "InkPadModel" "buffered" "I", .fieldLink RX8 26 "InkPadModel" "bufferY" "[I", .methodLink RX8 95 yX8_isLast, .instanceMethod yX8_isLast, .selects RX8 yX8_isLast yX8_isLast, .initialized RX8, .code yX8_isLast cX8_isLast 3 (some .boolean)] ++ wsX80)
def wsX8_put : List Cond := .code yX8_put cX8_put 3 (some .int) :: ([.fieldLink RX8 92 "InkPadModel" "buffered" "I", .methodLink RX8 99 yX8_isPlace, .static yX8_isPlace, .initialized RX8, .code yX8_isPlace cX8_isPlace 1 (some .boolean), .methodLink RX8 75 yX8_in, .static yX8_in, .code yX8_in cX8_in 3 (some .boolean), .methodLink RX8 103 yX8_add, .instanceMethod yX8_add, .selects RX8 yX8_add yX8_add, .code yX8_add cX8_add 3 none, .fieldLink RX8 23 "InkPadModel" "bufferX" "[I", .fieldLink RX8 26 "InkPadModel" "bufferY" "[I", .methodLink RX8 95 yX8_isLast, .instanceMethod yX8_isLast, .selects RX8 yX8_isLast yX8_isLast, .code yX8_isLast cX8_isLast 3 (some .boolean)] ++ wsX80)
def wsX8_clearPoints : List Cond := .code yX8_clearPoints cX8_clearPoints 2 (some .int) :: ([.fieldLink RX8 92 "InkPadModel" "buffered" "I"] ++ wsX80)
def wsX8_type : List Cond := .code yX8_type cX8_type 2 (some .int) :: ([.fieldLink RX8 107 "InkPadModel" "typed" "I", .fieldLink RX8 29 "InkPadModel" "text" "[C"] ++ wsX80)
def wsX8_clearText : List Cond := .code yX8_clearText cX8_clearText 2 (some .int) :: ([.fieldLink RX8 107 "InkPadModel" "typed" "I"] ++ wsX80)
def wsX8_isAt : List Cond := .code yX8_isAt cX8_isAt 3 (some .boolean) :: ([.fieldLink RX8 110 "InkPadModel" "place" "I", .fieldLink RX8 107 "InkPadModel" "typed" "I", .fieldLink RX8 29 "InkPadModel" "text" "[C"] ++ wsX80)
def wsX8_number : List Cond := .code yX8_number cX8_number 3 (some .int) :: ([.fieldLink RX8 110 "InkPadModel" "place" "I", .fieldLink RX8 113 "InkPadModel" "isGood" "Z", .fieldLink RX8 29 "InkPadModel" "text" "[C", .methodLink RX8 117 yX8_isAt, .instanceMethod yX8_isAt, .selects RX8 yX8_isAt yX8_isAt, .initialized RX8, .code yX8_isAt cX8_isAt 3 (some .boolean), .fieldLink RX8 107 "InkPadModel" "typed" "I"] ++ wsX80)
def wsX8_readPoint : List Cond := .code yX8_readPoint cX8_readPoint 3 none :: ([.fieldLink RX8 113 "InkPadModel" "isGood" "Z", .fieldLink RX8 110 "InkPadModel" "place" "I", .fieldLink RX8 33 "InkPadModel" "readX" "[I", .fieldLink RX8 125 "InkPadModel" "read" "I", .fieldLink RX8 36 "InkPadModel" "readY" "[I", .methodLink RX8 121 yX8_number, .instanceMethod yX8_number, .selects RX8 yX8_number yX8_number, .initialized RX8, .code yX8_number cX8_number 3 (some .int), .fieldLink RX8 29 "InkPadModel" "text" "[C", .methodLink RX8 117 yX8_isAt, .instanceMethod yX8_isAt, .selects RX8 yX8_isAt yX8_isAt, .code yX8_isAt cX8_isAt 3 (some .boolean), .fieldLink RX8 107 "InkPadModel" "typed" "I"] ++ wsX80)
def wsX8_readPoints_r1 : List Cond := [Cond.fieldLink RX8 110 "InkPadModel" "place" "I", Cond.fieldLink RX8 113 "InkPadModel" "isGood" "Z", Cond.fieldLink RX8 125 "InkPadModel" "read" "I", Cond.fieldLink RX8 107 "InkPadModel" "typed" "I", Cond.fieldLink RX8 92 "InkPadModel" "buffered" "I", Cond.fieldLink RX8 33 "InkPadModel" "readX" "[I", Cond.fieldLink RX8 36 "InkPadModel" "readY" "[I", Cond.methodLink RX8 128 yX8_readPoint, Cond.instanceMethod yX8_readPoint, Cond.selects RX8 yX8_readPoint yX8_readPoint, Cond.initialized RX8, Cond.code yX8_readPoint cX8_readPoint 3 none, Cond.methodLink RX8 121 yX8_number, Cond.instanceMethod yX8_number, Cond.selects RX8 yX8_number yX8_number, Cond.code yX8_number cX8_number 3 (some .int), Cond.fieldLink RX8 29 "InkPadModel" "text" "[C", Cond.methodLink RX8 117 yX8_isAt, Cond.instanceMethod yX8_isAt, Cond.selects RX8 yX8_isAt yX8_isAt, Cond.code yX8_isAt cX8_isAt 3 (some .boolean), Cond.methodLink RX8 103 yX8_add, Cond.instanceMethod yX8_add, Cond.selects RX8 yX8_add yX8_add]
def wsX8_readPoints_r2 : List Cond := [Cond.code yX8_add cX8_add 3 none, Cond.fieldLink RX8 23 "InkPadModel" "bufferX" "[I", Cond.fieldLink RX8 26 "InkPadModel" "bufferY" "[I", Cond.methodLink RX8 95 yX8_isLast, Cond.instanceMethod yX8_isLast, Cond.selects RX8 yX8_isLast yX8_isLast, Cond.code yX8_isLast cX8_isLast 3 (some .boolean)]
def wsX8_readPoints : List Cond := .code yX8_readPoints cX8_readPoints 2 (some .int) :: ((wsX8_readPoints_r1 ++ wsX8_readPoints_r2) ++ wsX80)
def wsX8_begin : List Cond := .code yX8_begin cX8_begin 1 none :: ([.fieldLink RX8 39 "InkPadModel" "next" "[I"] ++ wsX80)
def wsX8_addStroke : List Cond := .code yX8_addStroke cX8_addStroke 3 none :: ([.fieldLink RX8 39 "InkPadModel" "next" "[I"] ++ wsX80)
def wsX8_addPoint : List Cond := .code yX8_addPoint cX8_addPoint 4 none :: ([.fieldLink RX8 39 "InkPadModel" "next" "[I"] ++ wsX80)
def wsX8_copyStroke : List Cond := .code yX8_copyStroke cX8_copyStroke 3 none :: ([.fieldLink RX8 7 "InkPadModel" "now" "[I", .methodLink RX8 131 yX8_addStroke, .instanceMethod yX8_addStroke, .selects RX8 yX8_addStroke yX8_addStroke, .initialized RX8, .code yX8_addStroke cX8_addStroke 3 none, .fieldLink RX8 39 "InkPadModel" "next" "[I", .methodLink RX8 135 yX8_size, .instanceMethod yX8_size, .selects RX8 yX8_size yX8_size, .code yX8_size cX8_size 2 (some .int), .methodLink RX8 139 yX8_x, .instanceMethod yX8_x, .selects RX8 yX8_x yX8_x, .code yX8_x cX8_x 3 (some .int), .methodLink RX8 143 yX8_y, .instanceMethod yX8_y, .selects RX8 yX8_y yX8_y, .code yX8_y cX8_y 3 (some .int), .methodLink RX8 146 yX8_addPoint, .instanceMethod yX8_addPoint, .selects RX8 yX8_addPoint yX8_addPoint, .code yX8_addPoint cX8_addPoint 4 none] ++ wsX80)
def wsX8_become : List Cond := .code yX8_become cX8_become 1 none :: ([.fieldLink RX8 39 "InkPadModel" "next" "[I", .fieldLink RX8 7 "InkPadModel" "now" "[I", .methodLink RX8 149 yX8_record, .instanceMethod yX8_record, .selects RX8 yX8_record yX8_record, .initialized RX8, .code yX8_record cX8_record 1 none, .fieldLink RX8 89 "InkPadModel" "undone" "I", .methodLink RX8 86 yX8_push, .instanceMethod yX8_push, .selects RX8 yX8_push yX8_push, .code yX8_push cX8_push 2 none, .fieldLink RX8 79 "InkPadModel" "kept" "I", .fieldLink RX8 17 "InkPadModel" "history" "[I", .methodLink RX8 82 yX8_copyRow, .static yX8_copyRow, .code yX8_copyRow cX8_copyRow 5 none] ++ wsX80)
def wsX8_noStroke : List Cond := .code yX8_noStroke cX8_noStroke 2 (some .boolean) :: ([.methodLink RX8 152 yX8_strokes, .instanceMethod yX8_strokes, .selects RX8 yX8_strokes yX8_strokes, .initialized RX8, .code yX8_strokes cX8_strokes 1 (some .int), .fieldLink RX8 7 "InkPadModel" "now" "[I", .methodLink RX8 75 yX8_in, .static yX8_in, .code yX8_in cX8_in 3 (some .boolean)] ++ wsX80)
def wsX8_draw_r1 : List Cond := [Cond.fieldLink RX8 92 "InkPadModel" "buffered" "I", Cond.fieldLink RX8 23 "InkPadModel" "bufferX" "[I", Cond.fieldLink RX8 26 "InkPadModel" "bufferY" "[I", Cond.methodLink RX8 75 yX8_in, Cond.static yX8_in, Cond.initialized RX8, Cond.code yX8_in cX8_in 3 (some .boolean), Cond.methodLink RX8 152 yX8_strokes, Cond.instanceMethod yX8_strokes, Cond.selects RX8 yX8_strokes yX8_strokes, Cond.code yX8_strokes cX8_strokes 1 (some .int), Cond.fieldLink RX8 7 "InkPadModel" "now" "[I", Cond.methodLink RX8 155 yX8_begin, Cond.instanceMethod yX8_begin, Cond.selects RX8 yX8_begin yX8_begin, Cond.code yX8_begin cX8_begin 1 none, Cond.fieldLink RX8 39 "InkPadModel" "next" "[I", Cond.methodLink RX8 158 yX8_copyStroke, Cond.instanceMethod yX8_copyStroke, Cond.selects RX8 yX8_copyStroke yX8_copyStroke, Cond.code yX8_copyStroke cX8_copyStroke 3 none, Cond.methodLink RX8 131 yX8_addStroke, Cond.instanceMethod yX8_addStroke, Cond.selects RX8 yX8_addStroke yX8_addStroke]
def wsX8_draw_r2 : List Cond := [Cond.code yX8_addStroke cX8_addStroke 3 none, Cond.methodLink RX8 135 yX8_size, Cond.instanceMethod yX8_size, Cond.selects RX8 yX8_size yX8_size, Cond.code yX8_size cX8_size 2 (some .int), Cond.methodLink RX8 139 yX8_x, Cond.instanceMethod yX8_x, Cond.selects RX8 yX8_x yX8_x, Cond.code yX8_x cX8_x 3 (some .int), Cond.methodLink RX8 143 yX8_y, Cond.instanceMethod yX8_y, Cond.selects RX8 yX8_y yX8_y, Cond.code yX8_y cX8_y 3 (some .int), Cond.methodLink RX8 146 yX8_addPoint, Cond.instanceMethod yX8_addPoint, Cond.selects RX8 yX8_addPoint yX8_addPoint, Cond.code yX8_addPoint cX8_addPoint 4 none, Cond.methodLink RX8 161 yX8_become, Cond.instanceMethod yX8_become, Cond.selects RX8 yX8_become yX8_become, Cond.code yX8_become cX8_become 1 none, Cond.methodLink RX8 149 yX8_record, Cond.instanceMethod yX8_record, Cond.selects RX8 yX8_record yX8_record]
def wsX8_draw_r3 : List Cond := [Cond.code yX8_record cX8_record 1 none, Cond.fieldLink RX8 89 "InkPadModel" "undone" "I", Cond.methodLink RX8 86 yX8_push, Cond.instanceMethod yX8_push, Cond.selects RX8 yX8_push yX8_push, Cond.code yX8_push cX8_push 2 none, Cond.fieldLink RX8 79 "InkPadModel" "kept" "I", Cond.fieldLink RX8 17 "InkPadModel" "history" "[I", Cond.methodLink RX8 82 yX8_copyRow, Cond.static yX8_copyRow, Cond.code yX8_copyRow cX8_copyRow 5 none]
def wsX8_draw : List Cond := .code yX8_draw cX8_draw 3 (some .int) :: ((wsX8_draw_r1 ++ (wsX8_draw_r2 ++ wsX8_draw_r3)) ++ wsX80)
def wsX8_square : List Cond := .code yX8_square cX8_square 2 (some .int) :: ([])
def wsX8_rub_r1 : List Cond := [Cond.fieldLink RX8 7 "InkPadModel" "now" "[I", Cond.fieldLink RX8 39 "InkPadModel" "next" "[I", Cond.methodLink RX8 99 yX8_isPlace, Cond.static yX8_isPlace, Cond.initialized RX8, Cond.code yX8_isPlace cX8_isPlace 1 (some .boolean), Cond.methodLink RX8 75 yX8_in, Cond.static yX8_in, Cond.code yX8_in cX8_in 3 (some .boolean), Cond.methodLink RX8 155 yX8_begin, Cond.instanceMethod yX8_begin, Cond.selects RX8 yX8_begin yX8_begin, Cond.code yX8_begin cX8_begin 1 none, Cond.methodLink RX8 152 yX8_strokes, Cond.instanceMethod yX8_strokes, Cond.selects RX8 yX8_strokes yX8_strokes, Cond.code yX8_strokes cX8_strokes 1 (some .int), Cond.methodLink RX8 135 yX8_size, Cond.instanceMethod yX8_size, Cond.selects RX8 yX8_size yX8_size, Cond.code yX8_size cX8_size 2 (some .int), Cond.methodLink RX8 139 yX8_x, Cond.instanceMethod yX8_x, Cond.selects RX8 yX8_x yX8_x]
def wsX8_rub_r2 : List Cond := [Cond.code yX8_x cX8_x 3 (some .int), Cond.methodLink RX8 143 yX8_y, Cond.instanceMethod yX8_y, Cond.selects RX8 yX8_y yX8_y, Cond.code yX8_y cX8_y 3 (some .int), Cond.methodLink RX8 164 yX8_square, Cond.static yX8_square, Cond.code yX8_square cX8_square 2 (some .int), Cond.methodLink RX8 131 yX8_addStroke, Cond.instanceMethod yX8_addStroke, Cond.selects RX8 yX8_addStroke yX8_addStroke, Cond.code yX8_addStroke cX8_addStroke 3 none, Cond.methodLink RX8 146 yX8_addPoint, Cond.instanceMethod yX8_addPoint, Cond.selects RX8 yX8_addPoint yX8_addPoint, Cond.code yX8_addPoint cX8_addPoint 4 none, Cond.methodLink RX8 161 yX8_become, Cond.instanceMethod yX8_become, Cond.selects RX8 yX8_become yX8_become, Cond.code yX8_become cX8_become 1 none, Cond.methodLink RX8 149 yX8_record, Cond.instanceMethod yX8_record, Cond.selects RX8 yX8_record yX8_record, Cond.code yX8_record cX8_record 1 none]
def wsX8_rub_r3 : List Cond := [Cond.fieldLink RX8 89 "InkPadModel" "undone" "I", Cond.methodLink RX8 86 yX8_push, Cond.instanceMethod yX8_push, Cond.selects RX8 yX8_push yX8_push, Cond.code yX8_push cX8_push 2 none, Cond.fieldLink RX8 79 "InkPadModel" "kept" "I", Cond.fieldLink RX8 17 "InkPadModel" "history" "[I", Cond.methodLink RX8 82 yX8_copyRow, Cond.static yX8_copyRow, Cond.code yX8_copyRow cX8_copyRow 5 none]
def wsX8_rub : List Cond := .code yX8_rub cX8_rub 9 (some .int) :: ((wsX8_rub_r1 ++ (wsX8_rub_r2 ++ wsX8_rub_r3)) ++ wsX80)
def wsX8_take : List Cond := .code yX8_take cX8_take 3 none :: ([.fieldLink RX8 167 "InkPadModel" "points" "I", .fieldLink RX8 42 "InkPadModel" "px" "[I", .fieldLink RX8 45 "InkPadModel" "py" "[I", .methodLink RX8 135 yX8_size, .instanceMethod yX8_size, .selects RX8 yX8_size yX8_size, .initialized RX8, .code yX8_size cX8_size 2 (some .int), .fieldLink RX8 7 "InkPadModel" "now" "[I", .methodLink RX8 139 yX8_x, .instanceMethod yX8_x, .selects RX8 yX8_x yX8_x, .code yX8_x cX8_x 3 (some .int), .methodLink RX8 143 yX8_y, .instanceMethod yX8_y, .selects RX8 yX8_y yX8_y, .code yX8_y cX8_y 3 (some .int)] ++ wsX80)
def wsX8_dropSame : List Cond := .code yX8_dropSame cX8_dropSame 3 none :: ([.fieldLink RX8 167 "InkPadModel" "points" "I", .fieldLink RX8 42 "InkPadModel" "px" "[I", .fieldLink RX8 45 "InkPadModel" "py" "[I"] ++ wsX80)
def wsX8_putBack_r1 : List Cond := [Cond.fieldLink RX8 167 "InkPadModel" "points" "I", Cond.fieldLink RX8 42 "InkPadModel" "px" "[I", Cond.fieldLink RX8 45 "InkPadModel" "py" "[I", Cond.fieldLink RX8 7 "InkPadModel" "now" "[I", Cond.methodLink RX8 135 yX8_size, Cond.instanceMethod yX8_size, Cond.selects RX8 yX8_size yX8_size, Cond.initialized RX8, Cond.code yX8_size cX8_size 2 (some .int), Cond.methodLink RX8 139 yX8_x, Cond.instanceMethod yX8_x, Cond.selects RX8 yX8_x yX8_x, Cond.code yX8_x cX8_x 3 (some .int), Cond.methodLink RX8 143 yX8_y, Cond.instanceMethod yX8_y, Cond.selects RX8 yX8_y yX8_y, Cond.code yX8_y cX8_y 3 (some .int), Cond.methodLink RX8 155 yX8_begin, Cond.instanceMethod yX8_begin, Cond.selects RX8 yX8_begin yX8_begin, Cond.code yX8_begin cX8_begin 1 none, Cond.fieldLink RX8 39 "InkPadModel" "next" "[I", Cond.methodLink RX8 152 yX8_strokes, Cond.instanceMethod yX8_strokes]
def wsX8_putBack_r2 : List Cond := [Cond.selects RX8 yX8_strokes yX8_strokes, Cond.code yX8_strokes cX8_strokes 1 (some .int), Cond.methodLink RX8 158 yX8_copyStroke, Cond.instanceMethod yX8_copyStroke, Cond.selects RX8 yX8_copyStroke yX8_copyStroke, Cond.code yX8_copyStroke cX8_copyStroke 3 none, Cond.methodLink RX8 131 yX8_addStroke, Cond.instanceMethod yX8_addStroke, Cond.selects RX8 yX8_addStroke yX8_addStroke, Cond.code yX8_addStroke cX8_addStroke 3 none, Cond.methodLink RX8 146 yX8_addPoint, Cond.instanceMethod yX8_addPoint, Cond.selects RX8 yX8_addPoint yX8_addPoint, Cond.code yX8_addPoint cX8_addPoint 4 none, Cond.methodLink RX8 161 yX8_become, Cond.instanceMethod yX8_become, Cond.selects RX8 yX8_become yX8_become, Cond.code yX8_become cX8_become 1 none, Cond.methodLink RX8 149 yX8_record, Cond.instanceMethod yX8_record, Cond.selects RX8 yX8_record yX8_record, Cond.code yX8_record cX8_record 1 none, Cond.fieldLink RX8 89 "InkPadModel" "undone" "I", Cond.methodLink RX8 86 yX8_push]
def wsX8_putBack_r3 : List Cond := [Cond.instanceMethod yX8_push, Cond.selects RX8 yX8_push yX8_push, Cond.code yX8_push cX8_push 2 none, Cond.fieldLink RX8 79 "InkPadModel" "kept" "I", Cond.fieldLink RX8 17 "InkPadModel" "history" "[I", Cond.methodLink RX8 82 yX8_copyRow, Cond.static yX8_copyRow, Cond.code yX8_copyRow cX8_copyRow 5 none]
def wsX8_putBack : List Cond := .code yX8_putBack cX8_putBack 5 (some .int) :: ((wsX8_putBack_r1 ++ (wsX8_putBack_r2 ++ wsX8_putBack_r3)) ++ wsX80)
def wsX8_smoothOnce : List Cond := .code yX8_smoothOnce cX8_smoothOnce 2 none :: ([.fieldLink RX8 167 "InkPadModel" "points" "I", .fieldLink RX8 48 "InkPadModel" "qx" "[I", .fieldLink RX8 42 "InkPadModel" "px" "[I", .fieldLink RX8 51 "InkPadModel" "qy" "[I", .fieldLink RX8 45 "InkPadModel" "py" "[I"] ++ wsX80)
def wsX8_smooth_r1 : List Cond := [Cond.methodLink RX8 170 yX8_noStroke, Cond.instanceMethod yX8_noStroke, Cond.selects RX8 yX8_noStroke yX8_noStroke, Cond.initialized RX8, Cond.code yX8_noStroke cX8_noStroke 2 (some .boolean), Cond.methodLink RX8 152 yX8_strokes, Cond.instanceMethod yX8_strokes, Cond.selects RX8 yX8_strokes yX8_strokes, Cond.code yX8_strokes cX8_strokes 1 (some .int), Cond.fieldLink RX8 7 "InkPadModel" "now" "[I", Cond.methodLink RX8 75 yX8_in, Cond.static yX8_in, Cond.code yX8_in cX8_in 3 (some .boolean), Cond.methodLink RX8 173 yX8_take, Cond.instanceMethod yX8_take, Cond.selects RX8 yX8_take yX8_take, Cond.code yX8_take cX8_take 3 none, Cond.fieldLink RX8 167 "InkPadModel" "points" "I", Cond.fieldLink RX8 42 "InkPadModel" "px" "[I", Cond.fieldLink RX8 45 "InkPadModel" "py" "[I", Cond.methodLink RX8 135 yX8_size, Cond.instanceMethod yX8_size, Cond.selects RX8 yX8_size yX8_size, Cond.code yX8_size cX8_size 2 (some .int)]
def wsX8_smooth_r2 : List Cond := [Cond.methodLink RX8 139 yX8_x, Cond.instanceMethod yX8_x, Cond.selects RX8 yX8_x yX8_x, Cond.code yX8_x cX8_x 3 (some .int), Cond.methodLink RX8 143 yX8_y, Cond.instanceMethod yX8_y, Cond.selects RX8 yX8_y yX8_y, Cond.code yX8_y cX8_y 3 (some .int), Cond.methodLink RX8 176 yX8_smoothOnce, Cond.instanceMethod yX8_smoothOnce, Cond.selects RX8 yX8_smoothOnce yX8_smoothOnce, Cond.code yX8_smoothOnce cX8_smoothOnce 2 none, Cond.fieldLink RX8 48 "InkPadModel" "qx" "[I", Cond.fieldLink RX8 51 "InkPadModel" "qy" "[I", Cond.methodLink RX8 179 yX8_dropSame, Cond.instanceMethod yX8_dropSame, Cond.selects RX8 yX8_dropSame yX8_dropSame, Cond.code yX8_dropSame cX8_dropSame 3 none, Cond.methodLink RX8 182 yX8_putBack, Cond.instanceMethod yX8_putBack, Cond.selects RX8 yX8_putBack yX8_putBack, Cond.code yX8_putBack cX8_putBack 5 (some .int), Cond.methodLink RX8 155 yX8_begin, Cond.instanceMethod yX8_begin]
def wsX8_smooth_r3 : List Cond := [Cond.selects RX8 yX8_begin yX8_begin, Cond.code yX8_begin cX8_begin 1 none, Cond.fieldLink RX8 39 "InkPadModel" "next" "[I", Cond.methodLink RX8 158 yX8_copyStroke, Cond.instanceMethod yX8_copyStroke, Cond.selects RX8 yX8_copyStroke yX8_copyStroke, Cond.code yX8_copyStroke cX8_copyStroke 3 none, Cond.methodLink RX8 131 yX8_addStroke, Cond.instanceMethod yX8_addStroke, Cond.selects RX8 yX8_addStroke yX8_addStroke, Cond.code yX8_addStroke cX8_addStroke 3 none, Cond.methodLink RX8 146 yX8_addPoint, Cond.instanceMethod yX8_addPoint, Cond.selects RX8 yX8_addPoint yX8_addPoint, Cond.code yX8_addPoint cX8_addPoint 4 none, Cond.methodLink RX8 161 yX8_become, Cond.instanceMethod yX8_become, Cond.selects RX8 yX8_become yX8_become, Cond.code yX8_become cX8_become 1 none, Cond.methodLink RX8 149 yX8_record, Cond.instanceMethod yX8_record, Cond.selects RX8 yX8_record yX8_record, Cond.code yX8_record cX8_record 1 none, Cond.fieldLink RX8 89 "InkPadModel" "undone" "I"]
def wsX8_smooth_r4 : List Cond := [Cond.methodLink RX8 86 yX8_push, Cond.instanceMethod yX8_push, Cond.selects RX8 yX8_push yX8_push, Cond.code yX8_push cX8_push 2 none, Cond.fieldLink RX8 79 "InkPadModel" "kept" "I", Cond.fieldLink RX8 17 "InkPadModel" "history" "[I", Cond.methodLink RX8 82 yX8_copyRow, Cond.static yX8_copyRow, Cond.code yX8_copyRow cX8_copyRow 5 none]
def wsX8_smooth : List Cond := .code yX8_smooth cX8_smooth 4 (some .int) :: ((wsX8_smooth_r1 ++ (wsX8_smooth_r2 ++ (wsX8_smooth_r3 ++ wsX8_smooth_r4))) ++ wsX80)
def wsX8_thin_r1 : List Cond := [Cond.fieldLink RX8 167 "InkPadModel" "points" "I", Cond.fieldLink RX8 42 "InkPadModel" "px" "[I", Cond.fieldLink RX8 45 "InkPadModel" "py" "[I", Cond.methodLink RX8 170 yX8_noStroke, Cond.instanceMethod yX8_noStroke, Cond.selects RX8 yX8_noStroke yX8_noStroke, Cond.initialized RX8, Cond.code yX8_noStroke cX8_noStroke 2 (some .boolean), Cond.methodLink RX8 152 yX8_strokes, Cond.instanceMethod yX8_strokes, Cond.selects RX8 yX8_strokes yX8_strokes, Cond.code yX8_strokes cX8_strokes 1 (some .int), Cond.fieldLink RX8 7 "InkPadModel" "now" "[I", Cond.methodLink RX8 75 yX8_in, Cond.static yX8_in, Cond.code yX8_in cX8_in 3 (some .boolean), Cond.methodLink RX8 173 yX8_take, Cond.instanceMethod yX8_take, Cond.selects RX8 yX8_take yX8_take, Cond.code yX8_take cX8_take 3 none, Cond.methodLink RX8 135 yX8_size, Cond.instanceMethod yX8_size, Cond.selects RX8 yX8_size yX8_size, Cond.code yX8_size cX8_size 2 (some .int)]
def wsX8_thin_r2 : List Cond := [Cond.methodLink RX8 139 yX8_x, Cond.instanceMethod yX8_x, Cond.selects RX8 yX8_x yX8_x, Cond.code yX8_x cX8_x 3 (some .int), Cond.methodLink RX8 143 yX8_y, Cond.instanceMethod yX8_y, Cond.selects RX8 yX8_y yX8_y, Cond.code yX8_y cX8_y 3 (some .int), Cond.methodLink RX8 164 yX8_square, Cond.static yX8_square, Cond.code yX8_square cX8_square 2 (some .int), Cond.methodLink RX8 179 yX8_dropSame, Cond.instanceMethod yX8_dropSame, Cond.selects RX8 yX8_dropSame yX8_dropSame, Cond.code yX8_dropSame cX8_dropSame 3 none, Cond.methodLink RX8 182 yX8_putBack, Cond.instanceMethod yX8_putBack, Cond.selects RX8 yX8_putBack yX8_putBack, Cond.code yX8_putBack cX8_putBack 5 (some .int), Cond.methodLink RX8 155 yX8_begin, Cond.instanceMethod yX8_begin, Cond.selects RX8 yX8_begin yX8_begin, Cond.code yX8_begin cX8_begin 1 none, Cond.fieldLink RX8 39 "InkPadModel" "next" "[I"]
def wsX8_thin_r3 : List Cond := [Cond.methodLink RX8 158 yX8_copyStroke, Cond.instanceMethod yX8_copyStroke, Cond.selects RX8 yX8_copyStroke yX8_copyStroke, Cond.code yX8_copyStroke cX8_copyStroke 3 none, Cond.methodLink RX8 131 yX8_addStroke, Cond.instanceMethod yX8_addStroke, Cond.selects RX8 yX8_addStroke yX8_addStroke, Cond.code yX8_addStroke cX8_addStroke 3 none, Cond.methodLink RX8 146 yX8_addPoint, Cond.instanceMethod yX8_addPoint, Cond.selects RX8 yX8_addPoint yX8_addPoint, Cond.code yX8_addPoint cX8_addPoint 4 none, Cond.methodLink RX8 161 yX8_become, Cond.instanceMethod yX8_become, Cond.selects RX8 yX8_become yX8_become, Cond.code yX8_become cX8_become 1 none, Cond.methodLink RX8 149 yX8_record, Cond.instanceMethod yX8_record, Cond.selects RX8 yX8_record yX8_record, Cond.code yX8_record cX8_record 1 none, Cond.fieldLink RX8 89 "InkPadModel" "undone" "I", Cond.methodLink RX8 86 yX8_push, Cond.instanceMethod yX8_push, Cond.selects RX8 yX8_push yX8_push]
def wsX8_thin_r4 : List Cond := [Cond.code yX8_push cX8_push 2 none, Cond.fieldLink RX8 79 "InkPadModel" "kept" "I", Cond.fieldLink RX8 17 "InkPadModel" "history" "[I", Cond.methodLink RX8 82 yX8_copyRow, Cond.static yX8_copyRow, Cond.code yX8_copyRow cX8_copyRow 5 none]
def wsX8_thin : List Cond := .code yX8_thin cX8_thin 6 (some .int) :: ((wsX8_thin_r1 ++ (wsX8_thin_r2 ++ (wsX8_thin_r3 ++ wsX8_thin_r4))) ++ wsX80)
def wsX8_join_r1 : List Cond := [Cond.methodLink RX8 170 yX8_noStroke, Cond.instanceMethod yX8_noStroke, Cond.selects RX8 yX8_noStroke yX8_noStroke, Cond.initialized RX8, Cond.code yX8_noStroke cX8_noStroke 2 (some .boolean), Cond.methodLink RX8 152 yX8_strokes, Cond.instanceMethod yX8_strokes, Cond.selects RX8 yX8_strokes yX8_strokes, Cond.code yX8_strokes cX8_strokes 1 (some .int), Cond.fieldLink RX8 7 "InkPadModel" "now" "[I", Cond.methodLink RX8 75 yX8_in, Cond.static yX8_in, Cond.code yX8_in cX8_in 3 (some .boolean), Cond.methodLink RX8 135 yX8_size, Cond.instanceMethod yX8_size, Cond.selects RX8 yX8_size yX8_size, Cond.code yX8_size cX8_size 2 (some .int), Cond.methodLink RX8 139 yX8_x, Cond.instanceMethod yX8_x, Cond.selects RX8 yX8_x yX8_x, Cond.code yX8_x cX8_x 3 (some .int), Cond.methodLink RX8 143 yX8_y, Cond.instanceMethod yX8_y, Cond.selects RX8 yX8_y yX8_y]
def wsX8_join_r2 : List Cond := [Cond.code yX8_y cX8_y 3 (some .int), Cond.methodLink RX8 155 yX8_begin, Cond.instanceMethod yX8_begin, Cond.selects RX8 yX8_begin yX8_begin, Cond.code yX8_begin cX8_begin 1 none, Cond.fieldLink RX8 39 "InkPadModel" "next" "[I", Cond.methodLink RX8 158 yX8_copyStroke, Cond.instanceMethod yX8_copyStroke, Cond.selects RX8 yX8_copyStroke yX8_copyStroke, Cond.code yX8_copyStroke cX8_copyStroke 3 none, Cond.methodLink RX8 131 yX8_addStroke, Cond.instanceMethod yX8_addStroke, Cond.selects RX8 yX8_addStroke yX8_addStroke, Cond.code yX8_addStroke cX8_addStroke 3 none, Cond.methodLink RX8 146 yX8_addPoint, Cond.instanceMethod yX8_addPoint, Cond.selects RX8 yX8_addPoint yX8_addPoint, Cond.code yX8_addPoint cX8_addPoint 4 none, Cond.methodLink RX8 161 yX8_become, Cond.instanceMethod yX8_become, Cond.selects RX8 yX8_become yX8_become, Cond.code yX8_become cX8_become 1 none, Cond.methodLink RX8 149 yX8_record, Cond.instanceMethod yX8_record]
def wsX8_join_r3 : List Cond := [Cond.selects RX8 yX8_record yX8_record, Cond.code yX8_record cX8_record 1 none, Cond.fieldLink RX8 89 "InkPadModel" "undone" "I", Cond.methodLink RX8 86 yX8_push, Cond.instanceMethod yX8_push, Cond.selects RX8 yX8_push yX8_push, Cond.code yX8_push cX8_push 2 none, Cond.fieldLink RX8 79 "InkPadModel" "kept" "I", Cond.fieldLink RX8 17 "InkPadModel" "history" "[I", Cond.methodLink RX8 82 yX8_copyRow, Cond.static yX8_copyRow, Cond.code yX8_copyRow cX8_copyRow 5 none]
def wsX8_join : List Cond := .code yX8_join cX8_join 7 (some .int) :: ((wsX8_join_r1 ++ (wsX8_join_r2 ++ wsX8_join_r3)) ++ wsX80)
def wsX8_shift_r1 : List Cond := [Cond.fieldLink RX8 167 "InkPadModel" "points" "I", Cond.fieldLink RX8 42 "InkPadModel" "px" "[I", Cond.fieldLink RX8 45 "InkPadModel" "py" "[I", Cond.methodLink RX8 170 yX8_noStroke, Cond.instanceMethod yX8_noStroke, Cond.selects RX8 yX8_noStroke yX8_noStroke, Cond.initialized RX8, Cond.code yX8_noStroke cX8_noStroke 2 (some .boolean), Cond.methodLink RX8 152 yX8_strokes, Cond.instanceMethod yX8_strokes, Cond.selects RX8 yX8_strokes yX8_strokes, Cond.code yX8_strokes cX8_strokes 1 (some .int), Cond.fieldLink RX8 7 "InkPadModel" "now" "[I", Cond.methodLink RX8 75 yX8_in, Cond.static yX8_in, Cond.code yX8_in cX8_in 3 (some .boolean), Cond.methodLink RX8 173 yX8_take, Cond.instanceMethod yX8_take, Cond.selects RX8 yX8_take yX8_take, Cond.code yX8_take cX8_take 3 none, Cond.methodLink RX8 135 yX8_size, Cond.instanceMethod yX8_size, Cond.selects RX8 yX8_size yX8_size, Cond.code yX8_size cX8_size 2 (some .int)]
def wsX8_shift_r2 : List Cond := [Cond.methodLink RX8 139 yX8_x, Cond.instanceMethod yX8_x, Cond.selects RX8 yX8_x yX8_x, Cond.code yX8_x cX8_x 3 (some .int), Cond.methodLink RX8 143 yX8_y, Cond.instanceMethod yX8_y, Cond.selects RX8 yX8_y yX8_y, Cond.code yX8_y cX8_y 3 (some .int), Cond.methodLink RX8 99 yX8_isPlace, Cond.static yX8_isPlace, Cond.code yX8_isPlace cX8_isPlace 1 (some .boolean), Cond.methodLink RX8 182 yX8_putBack, Cond.instanceMethod yX8_putBack, Cond.selects RX8 yX8_putBack yX8_putBack, Cond.code yX8_putBack cX8_putBack 5 (some .int), Cond.methodLink RX8 155 yX8_begin, Cond.instanceMethod yX8_begin, Cond.selects RX8 yX8_begin yX8_begin, Cond.code yX8_begin cX8_begin 1 none, Cond.fieldLink RX8 39 "InkPadModel" "next" "[I", Cond.methodLink RX8 158 yX8_copyStroke, Cond.instanceMethod yX8_copyStroke, Cond.selects RX8 yX8_copyStroke yX8_copyStroke, Cond.code yX8_copyStroke cX8_copyStroke 3 none]
def wsX8_shift_r3 : List Cond := [Cond.methodLink RX8 131 yX8_addStroke, Cond.instanceMethod yX8_addStroke, Cond.selects RX8 yX8_addStroke yX8_addStroke, Cond.code yX8_addStroke cX8_addStroke 3 none, Cond.methodLink RX8 146 yX8_addPoint, Cond.instanceMethod yX8_addPoint, Cond.selects RX8 yX8_addPoint yX8_addPoint, Cond.code yX8_addPoint cX8_addPoint 4 none, Cond.methodLink RX8 161 yX8_become, Cond.instanceMethod yX8_become, Cond.selects RX8 yX8_become yX8_become, Cond.code yX8_become cX8_become 1 none, Cond.methodLink RX8 149 yX8_record, Cond.instanceMethod yX8_record, Cond.selects RX8 yX8_record yX8_record, Cond.code yX8_record cX8_record 1 none, Cond.fieldLink RX8 89 "InkPadModel" "undone" "I", Cond.methodLink RX8 86 yX8_push, Cond.instanceMethod yX8_push, Cond.selects RX8 yX8_push yX8_push, Cond.code yX8_push cX8_push 2 none, Cond.fieldLink RX8 79 "InkPadModel" "kept" "I", Cond.fieldLink RX8 17 "InkPadModel" "history" "[I", Cond.methodLink RX8 82 yX8_copyRow]
def wsX8_shift_r4 : List Cond := [Cond.static yX8_copyRow, Cond.code yX8_copyRow cX8_copyRow 5 none]
def wsX8_shift : List Cond := .code yX8_shift cX8_shift 5 (some .int) :: ((wsX8_shift_r1 ++ (wsX8_shift_r2 ++ (wsX8_shift_r3 ++ wsX8_shift_r4))) ++ wsX80)
def wsX8_paint_r1 : List Cond := [Cond.fieldLink RX8 7 "InkPadModel" "now" "[I", Cond.methodLink RX8 170 yX8_noStroke, Cond.instanceMethod yX8_noStroke, Cond.selects RX8 yX8_noStroke yX8_noStroke, Cond.initialized RX8, Cond.code yX8_noStroke cX8_noStroke 2 (some .boolean), Cond.methodLink RX8 152 yX8_strokes, Cond.instanceMethod yX8_strokes, Cond.selects RX8 yX8_strokes yX8_strokes, Cond.code yX8_strokes cX8_strokes 1 (some .int), Cond.methodLink RX8 75 yX8_in, Cond.static yX8_in, Cond.code yX8_in cX8_in 3 (some .boolean), Cond.methodLink RX8 149 yX8_record, Cond.instanceMethod yX8_record, Cond.selects RX8 yX8_record yX8_record, Cond.code yX8_record cX8_record 1 none, Cond.fieldLink RX8 89 "InkPadModel" "undone" "I", Cond.methodLink RX8 86 yX8_push, Cond.instanceMethod yX8_push, Cond.selects RX8 yX8_push yX8_push, Cond.code yX8_push cX8_push 2 none, Cond.fieldLink RX8 79 "InkPadModel" "kept" "I", Cond.fieldLink RX8 17 "InkPadModel" "history" "[I"]
def wsX8_paint_r2 : List Cond := [Cond.methodLink RX8 82 yX8_copyRow, Cond.static yX8_copyRow, Cond.code yX8_copyRow cX8_copyRow 5 none]
def wsX8_paint : List Cond := .code yX8_paint cX8_paint 4 (some .int) :: ((wsX8_paint_r1 ++ wsX8_paint_r2) ++ wsX80)
def wsX8_remove_r1 : List Cond := [Cond.methodLink RX8 170 yX8_noStroke, Cond.instanceMethod yX8_noStroke, Cond.selects RX8 yX8_noStroke yX8_noStroke, Cond.initialized RX8, Cond.code yX8_noStroke cX8_noStroke 2 (some .boolean), Cond.methodLink RX8 152 yX8_strokes, Cond.instanceMethod yX8_strokes, Cond.selects RX8 yX8_strokes yX8_strokes, Cond.code yX8_strokes cX8_strokes 1 (some .int), Cond.fieldLink RX8 7 "InkPadModel" "now" "[I", Cond.methodLink RX8 75 yX8_in, Cond.static yX8_in, Cond.code yX8_in cX8_in 3 (some .boolean), Cond.methodLink RX8 155 yX8_begin, Cond.instanceMethod yX8_begin, Cond.selects RX8 yX8_begin yX8_begin, Cond.code yX8_begin cX8_begin 1 none, Cond.fieldLink RX8 39 "InkPadModel" "next" "[I", Cond.methodLink RX8 158 yX8_copyStroke, Cond.instanceMethod yX8_copyStroke, Cond.selects RX8 yX8_copyStroke yX8_copyStroke, Cond.code yX8_copyStroke cX8_copyStroke 3 none, Cond.methodLink RX8 131 yX8_addStroke, Cond.instanceMethod yX8_addStroke]
def wsX8_remove_r2 : List Cond := [Cond.selects RX8 yX8_addStroke yX8_addStroke, Cond.code yX8_addStroke cX8_addStroke 3 none, Cond.methodLink RX8 135 yX8_size, Cond.instanceMethod yX8_size, Cond.selects RX8 yX8_size yX8_size, Cond.code yX8_size cX8_size 2 (some .int), Cond.methodLink RX8 139 yX8_x, Cond.instanceMethod yX8_x, Cond.selects RX8 yX8_x yX8_x, Cond.code yX8_x cX8_x 3 (some .int), Cond.methodLink RX8 143 yX8_y, Cond.instanceMethod yX8_y, Cond.selects RX8 yX8_y yX8_y, Cond.code yX8_y cX8_y 3 (some .int), Cond.methodLink RX8 146 yX8_addPoint, Cond.instanceMethod yX8_addPoint, Cond.selects RX8 yX8_addPoint yX8_addPoint, Cond.code yX8_addPoint cX8_addPoint 4 none, Cond.methodLink RX8 161 yX8_become, Cond.instanceMethod yX8_become, Cond.selects RX8 yX8_become yX8_become, Cond.code yX8_become cX8_become 1 none, Cond.methodLink RX8 149 yX8_record, Cond.instanceMethod yX8_record]
def wsX8_remove_r3 : List Cond := [Cond.selects RX8 yX8_record yX8_record, Cond.code yX8_record cX8_record 1 none, Cond.fieldLink RX8 89 "InkPadModel" "undone" "I", Cond.methodLink RX8 86 yX8_push, Cond.instanceMethod yX8_push, Cond.selects RX8 yX8_push yX8_push, Cond.code yX8_push cX8_push 2 none, Cond.fieldLink RX8 79 "InkPadModel" "kept" "I", Cond.fieldLink RX8 17 "InkPadModel" "history" "[I", Cond.methodLink RX8 82 yX8_copyRow, Cond.static yX8_copyRow, Cond.code yX8_copyRow cX8_copyRow 5 none]
def wsX8_remove : List Cond := .code yX8_remove cX8_remove 3 (some .int) :: ((wsX8_remove_r1 ++ (wsX8_remove_r2 ++ wsX8_remove_r3)) ++ wsX80)
def wsX8_bound : List Cond := .code yX8_bound cX8_bound 7 (some .int) :: ([.methodLink RX8 143 yX8_y, .instanceMethod yX8_y, .selects RX8 yX8_y yX8_y, .initialized RX8, .code yX8_y cX8_y 3 (some .int), .fieldLink RX8 7 "InkPadModel" "now" "[I", .methodLink RX8 139 yX8_x, .instanceMethod yX8_x, .selects RX8 yX8_x yX8_x, .code yX8_x cX8_x 3 (some .int), .methodLink RX8 135 yX8_size, .instanceMethod yX8_size, .selects RX8 yX8_size yX8_size, .code yX8_size cX8_size 2 (some .int)] ++ wsX80)
def wsX8_root : List Cond := .code yX8_root cX8_root 3 (some .int) :: ([])
def wsX8_longOf : List Cond := .code yX8_longOf cX8_longOf 4 (some .int) :: ([.methodLink RX8 135 yX8_size, .instanceMethod yX8_size, .selects RX8 yX8_size yX8_size, .initialized RX8, .code yX8_size cX8_size 2 (some .int), .fieldLink RX8 7 "InkPadModel" "now" "[I", .methodLink RX8 139 yX8_x, .instanceMethod yX8_x, .selects RX8 yX8_x yX8_x, .code yX8_x cX8_x 3 (some .int), .methodLink RX8 143 yX8_y, .instanceMethod yX8_y, .selects RX8 yX8_y yX8_y, .code yX8_y cX8_y 3 (some .int), .methodLink RX8 164 yX8_square, .static yX8_square, .code yX8_square cX8_square 2 (some .int), .methodLink RX8 185 yX8_root, .static yX8_root, .code yX8_root cX8_root 3 (some .int)] ++ wsX80)
def wsX8_shared : List Cond := .code yX8_shared cX8_shared 6 (some .int) :: ([.fieldLink RX8 57 "InkPadModel" "bottomOf" "[I", .fieldLink RX8 54 "InkPadModel" "topOf" "[I"] ++ wsX80)
def wsX8_mayJoin : List Cond := .code yX8_mayJoin cX8_mayJoin 7 (some .boolean) :: ([.fieldLink RX8 57 "InkPadModel" "bottomOf" "[I", .fieldLink RX8 54 "InkPadModel" "topOf" "[I", .methodLink RX8 188 yX8_shared, .instanceMethod yX8_shared, .selects RX8 yX8_shared yX8_shared, .initialized RX8, .code yX8_shared cX8_shared 6 (some .int)] ++ wsX80)
def wsX8_isAbove : List Cond := .code yX8_isAbove cX8_isAbove 3 (some .boolean) :: ([.fieldLink RX8 54 "InkPadModel" "topOf" "[I", .fieldLink RX8 57 "InkPadModel" "bottomOf" "[I"] ++ wsX80)
def wsX8_findLines_r1 : List Cond := [Cond.fieldLink RX8 192 "InkPadModel" "lines" "I", Cond.fieldLink RX8 54 "InkPadModel" "topOf" "[I", Cond.fieldLink RX8 57 "InkPadModel" "bottomOf" "[I", Cond.fieldLink RX8 60 "InkPadModel" "begunIn" "[I", Cond.fieldLink RX8 63 "InkPadModel" "rankOf" "[I", Cond.methodLink RX8 152 yX8_strokes, Cond.instanceMethod yX8_strokes, Cond.selects RX8 yX8_strokes yX8_strokes, Cond.initialized RX8, Cond.code yX8_strokes cX8_strokes 1 (some .int), Cond.fieldLink RX8 7 "InkPadModel" "now" "[I", Cond.methodLink RX8 195 yX8_bound, Cond.instanceMethod yX8_bound, Cond.selects RX8 yX8_bound yX8_bound, Cond.code yX8_bound cX8_bound 7 (some .int), Cond.methodLink RX8 143 yX8_y, Cond.instanceMethod yX8_y, Cond.selects RX8 yX8_y yX8_y, Cond.code yX8_y cX8_y 3 (some .int), Cond.methodLink RX8 139 yX8_x, Cond.instanceMethod yX8_x, Cond.selects RX8 yX8_x yX8_x, Cond.code yX8_x cX8_x 3 (some .int), Cond.methodLink RX8 135 yX8_size]
def wsX8_findLines_r2 : List Cond := [Cond.instanceMethod yX8_size, Cond.selects RX8 yX8_size yX8_size, Cond.code yX8_size cX8_size 2 (some .int), Cond.methodLink RX8 199 yX8_mayJoin, Cond.instanceMethod yX8_mayJoin, Cond.selects RX8 yX8_mayJoin yX8_mayJoin, Cond.code yX8_mayJoin cX8_mayJoin 7 (some .boolean), Cond.methodLink RX8 188 yX8_shared, Cond.instanceMethod yX8_shared, Cond.selects RX8 yX8_shared yX8_shared, Cond.code yX8_shared cX8_shared 6 (some .int), Cond.methodLink RX8 202 yX8_isAbove, Cond.instanceMethod yX8_isAbove, Cond.selects RX8 yX8_isAbove yX8_isAbove, Cond.code yX8_isAbove cX8_isAbove 3 (some .boolean)]
def wsX8_findLines : List Cond := .code yX8_findLines cX8_findLines 6 none :: ((wsX8_findLines_r1 ++ wsX8_findLines_r2) ++ wsX80)
def wsX8_lineOf : List Cond := .code yX8_lineOf cX8_lineOf 2 (some .int) :: ([.fieldLink RX8 63 "InkPadModel" "rankOf" "[I", .fieldLink RX8 60 "InkPadModel" "begunIn" "[I"] ++ wsX80)
def wsX8_isBefore : List Cond := .code yX8_isBefore cX8_isBefore 5 (some .boolean) :: ([.methodLink RX8 205 yX8_lineOf, .instanceMethod yX8_lineOf, .selects RX8 yX8_lineOf yX8_lineOf, .initialized RX8, .code yX8_lineOf cX8_lineOf 2 (some .int), .fieldLink RX8 63 "InkPadModel" "rankOf" "[I", .fieldLink RX8 60 "InkPadModel" "begunIn" "[I", .methodLink RX8 195 yX8_bound, .instanceMethod yX8_bound, .selects RX8 yX8_bound yX8_bound, .code yX8_bound cX8_bound 7 (some .int), .methodLink RX8 143 yX8_y, .instanceMethod yX8_y, .selects RX8 yX8_y yX8_y, .code yX8_y cX8_y 3 (some .int), .fieldLink RX8 7 "InkPadModel" "now" "[I", .methodLink RX8 139 yX8_x, .instanceMethod yX8_x, .selects RX8 yX8_x yX8_x, .code yX8_x cX8_x 3 (some .int), .methodLink RX8 135 yX8_size, .instanceMethod yX8_size, .selects RX8 yX8_size yX8_size, .code yX8_size cX8_size 2 (some .int)] ++ wsX80)
def wsX8_placeOf_r1 : List Cond := [Cond.methodLink RX8 152 yX8_strokes, Cond.instanceMethod yX8_strokes, Cond.selects RX8 yX8_strokes yX8_strokes, Cond.initialized RX8, Cond.code yX8_strokes cX8_strokes 1 (some .int), Cond.fieldLink RX8 7 "InkPadModel" "now" "[I", Cond.methodLink RX8 208 yX8_isBefore, Cond.instanceMethod yX8_isBefore, Cond.selects RX8 yX8_isBefore yX8_isBefore, Cond.code yX8_isBefore cX8_isBefore 5 (some .boolean), Cond.methodLink RX8 205 yX8_lineOf, Cond.instanceMethod yX8_lineOf, Cond.selects RX8 yX8_lineOf yX8_lineOf, Cond.code yX8_lineOf cX8_lineOf 2 (some .int), Cond.fieldLink RX8 63 "InkPadModel" "rankOf" "[I", Cond.fieldLink RX8 60 "InkPadModel" "begunIn" "[I", Cond.methodLink RX8 195 yX8_bound, Cond.instanceMethod yX8_bound, Cond.selects RX8 yX8_bound yX8_bound, Cond.code yX8_bound cX8_bound 7 (some .int), Cond.methodLink RX8 143 yX8_y, Cond.instanceMethod yX8_y, Cond.selects RX8 yX8_y yX8_y, Cond.code yX8_y cX8_y 3 (some .int)]
def wsX8_placeOf_r2 : List Cond := [Cond.methodLink RX8 139 yX8_x, Cond.instanceMethod yX8_x, Cond.selects RX8 yX8_x yX8_x, Cond.code yX8_x cX8_x 3 (some .int), Cond.methodLink RX8 135 yX8_size, Cond.instanceMethod yX8_size, Cond.selects RX8 yX8_size yX8_size, Cond.code yX8_size cX8_size 2 (some .int)]
def wsX8_placeOf : List Cond := .code yX8_placeOf cX8_placeOf 4 (some .int) :: ((wsX8_placeOf_r1 ++ wsX8_placeOf_r2) ++ wsX80)
def wsX8_layOut_r1 : List Cond := [Cond.fieldLink RX8 69 "InkPadModel" "orderOf" "[I", Cond.fieldLink RX8 217 "InkPadModel" "words" "I", Cond.fieldLink RX8 13 "InkPadModel" "gap" "I", Cond.fieldLink RX8 66 "InkPadModel" "wordOf" "[I", Cond.methodLink RX8 211 yX8_findLines, Cond.instanceMethod yX8_findLines, Cond.selects RX8 yX8_findLines yX8_findLines, Cond.initialized RX8, Cond.code yX8_findLines cX8_findLines 6 none, Cond.fieldLink RX8 192 "InkPadModel" "lines" "I", Cond.fieldLink RX8 54 "InkPadModel" "topOf" "[I", Cond.fieldLink RX8 57 "InkPadModel" "bottomOf" "[I", Cond.fieldLink RX8 60 "InkPadModel" "begunIn" "[I", Cond.fieldLink RX8 63 "InkPadModel" "rankOf" "[I", Cond.methodLink RX8 152 yX8_strokes, Cond.instanceMethod yX8_strokes, Cond.selects RX8 yX8_strokes yX8_strokes, Cond.code yX8_strokes cX8_strokes 1 (some .int), Cond.fieldLink RX8 7 "InkPadModel" "now" "[I", Cond.methodLink RX8 195 yX8_bound, Cond.instanceMethod yX8_bound, Cond.selects RX8 yX8_bound yX8_bound, Cond.code yX8_bound cX8_bound 7 (some .int), Cond.methodLink RX8 143 yX8_y]
def wsX8_layOut_r2 : List Cond := [Cond.instanceMethod yX8_y, Cond.selects RX8 yX8_y yX8_y, Cond.code yX8_y cX8_y 3 (some .int), Cond.methodLink RX8 139 yX8_x, Cond.instanceMethod yX8_x, Cond.selects RX8 yX8_x yX8_x, Cond.code yX8_x cX8_x 3 (some .int), Cond.methodLink RX8 135 yX8_size, Cond.instanceMethod yX8_size, Cond.selects RX8 yX8_size yX8_size, Cond.code yX8_size cX8_size 2 (some .int), Cond.methodLink RX8 199 yX8_mayJoin, Cond.instanceMethod yX8_mayJoin, Cond.selects RX8 yX8_mayJoin yX8_mayJoin, Cond.code yX8_mayJoin cX8_mayJoin 7 (some .boolean), Cond.methodLink RX8 188 yX8_shared, Cond.instanceMethod yX8_shared, Cond.selects RX8 yX8_shared yX8_shared, Cond.code yX8_shared cX8_shared 6 (some .int), Cond.methodLink RX8 202 yX8_isAbove, Cond.instanceMethod yX8_isAbove, Cond.selects RX8 yX8_isAbove yX8_isAbove, Cond.code yX8_isAbove cX8_isAbove 3 (some .boolean), Cond.methodLink RX8 214 yX8_placeOf]
def wsX8_layOut_r3 : List Cond := [Cond.instanceMethod yX8_placeOf, Cond.selects RX8 yX8_placeOf yX8_placeOf, Cond.code yX8_placeOf cX8_placeOf 4 (some .int), Cond.methodLink RX8 208 yX8_isBefore, Cond.instanceMethod yX8_isBefore, Cond.selects RX8 yX8_isBefore yX8_isBefore, Cond.code yX8_isBefore cX8_isBefore 5 (some .boolean), Cond.methodLink RX8 205 yX8_lineOf, Cond.instanceMethod yX8_lineOf, Cond.selects RX8 yX8_lineOf yX8_lineOf, Cond.code yX8_lineOf cX8_lineOf 2 (some .int)]
def wsX8_layOut : List Cond := .code yX8_layOut cX8_layOut 6 none :: ((wsX8_layOut_r1 ++ (wsX8_layOut_r2 ++ wsX8_layOut_r3)) ++ wsX80)
def wsX8_setGap : List Cond := .code yX8_setGap cX8_setGap 3 (some .int) :: ([.fieldLink RX8 13 "InkPadModel" "gap" "I", .methodLink RX8 75 yX8_in, .static yX8_in, .initialized RX8, .code yX8_in cX8_in 3 (some .boolean)] ++ wsX80)
def wsX8_stroke_r1 : List Cond := [Cond.fieldLink RX8 7 "InkPadModel" "now" "[I", Cond.fieldLink RX8 66 "InkPadModel" "wordOf" "[I", Cond.methodLink RX8 170 yX8_noStroke, Cond.instanceMethod yX8_noStroke, Cond.selects RX8 yX8_noStroke yX8_noStroke, Cond.initialized RX8, Cond.code yX8_noStroke cX8_noStroke 2 (some .boolean), Cond.methodLink RX8 152 yX8_strokes, Cond.instanceMethod yX8_strokes, Cond.selects RX8 yX8_strokes yX8_strokes, Cond.code yX8_strokes cX8_strokes 1 (some .int), Cond.methodLink RX8 75 yX8_in, Cond.static yX8_in, Cond.code yX8_in cX8_in 3 (some .boolean), Cond.methodLink RX8 220 yX8_layOut, Cond.instanceMethod yX8_layOut, Cond.selects RX8 yX8_layOut yX8_layOut, Cond.code yX8_layOut cX8_layOut 6 none, Cond.fieldLink RX8 69 "InkPadModel" "orderOf" "[I", Cond.fieldLink RX8 217 "InkPadModel" "words" "I", Cond.fieldLink RX8 13 "InkPadModel" "gap" "I", Cond.methodLink RX8 211 yX8_findLines, Cond.instanceMethod yX8_findLines, Cond.selects RX8 yX8_findLines yX8_findLines]
def wsX8_stroke_r2 : List Cond := [Cond.code yX8_findLines cX8_findLines 6 none, Cond.fieldLink RX8 192 "InkPadModel" "lines" "I", Cond.fieldLink RX8 54 "InkPadModel" "topOf" "[I", Cond.fieldLink RX8 57 "InkPadModel" "bottomOf" "[I", Cond.fieldLink RX8 60 "InkPadModel" "begunIn" "[I", Cond.fieldLink RX8 63 "InkPadModel" "rankOf" "[I", Cond.methodLink RX8 195 yX8_bound, Cond.instanceMethod yX8_bound, Cond.selects RX8 yX8_bound yX8_bound, Cond.code yX8_bound cX8_bound 7 (some .int), Cond.methodLink RX8 143 yX8_y, Cond.instanceMethod yX8_y, Cond.selects RX8 yX8_y yX8_y, Cond.code yX8_y cX8_y 3 (some .int), Cond.methodLink RX8 139 yX8_x, Cond.instanceMethod yX8_x, Cond.selects RX8 yX8_x yX8_x, Cond.code yX8_x cX8_x 3 (some .int), Cond.methodLink RX8 135 yX8_size, Cond.instanceMethod yX8_size, Cond.selects RX8 yX8_size yX8_size, Cond.code yX8_size cX8_size 2 (some .int), Cond.methodLink RX8 199 yX8_mayJoin, Cond.instanceMethod yX8_mayJoin]
def wsX8_stroke_r3 : List Cond := [Cond.selects RX8 yX8_mayJoin yX8_mayJoin, Cond.code yX8_mayJoin cX8_mayJoin 7 (some .boolean), Cond.methodLink RX8 188 yX8_shared, Cond.instanceMethod yX8_shared, Cond.selects RX8 yX8_shared yX8_shared, Cond.code yX8_shared cX8_shared 6 (some .int), Cond.methodLink RX8 202 yX8_isAbove, Cond.instanceMethod yX8_isAbove, Cond.selects RX8 yX8_isAbove yX8_isAbove, Cond.code yX8_isAbove cX8_isAbove 3 (some .boolean), Cond.methodLink RX8 214 yX8_placeOf, Cond.instanceMethod yX8_placeOf, Cond.selects RX8 yX8_placeOf yX8_placeOf, Cond.code yX8_placeOf cX8_placeOf 4 (some .int), Cond.methodLink RX8 208 yX8_isBefore, Cond.instanceMethod yX8_isBefore, Cond.selects RX8 yX8_isBefore yX8_isBefore, Cond.code yX8_isBefore cX8_isBefore 5 (some .boolean), Cond.methodLink RX8 205 yX8_lineOf, Cond.instanceMethod yX8_lineOf, Cond.selects RX8 yX8_lineOf yX8_lineOf, Cond.code yX8_lineOf cX8_lineOf 2 (some .int), Cond.methodLink RX8 223 yX8_longOf, Cond.instanceMethod yX8_longOf]
def wsX8_stroke_r4 : List Cond := [Cond.selects RX8 yX8_longOf yX8_longOf, Cond.code yX8_longOf cX8_longOf 4 (some .int), Cond.methodLink RX8 164 yX8_square, Cond.static yX8_square, Cond.code yX8_square cX8_square 2 (some .int), Cond.methodLink RX8 185 yX8_root, Cond.static yX8_root, Cond.code yX8_root cX8_root 3 (some .int)]
def wsX8_stroke : List Cond := .code yX8_stroke cX8_stroke 3 (some .int) :: ((wsX8_stroke_r1 ++ (wsX8_stroke_r2 ++ (wsX8_stroke_r3 ++ wsX8_stroke_r4))) ++ wsX80)
def wsX8_point_r1 : List Cond := [Cond.methodLink RX8 170 yX8_noStroke, Cond.instanceMethod yX8_noStroke, Cond.selects RX8 yX8_noStroke yX8_noStroke, Cond.initialized RX8, Cond.code yX8_noStroke cX8_noStroke 2 (some .boolean), Cond.methodLink RX8 152 yX8_strokes, Cond.instanceMethod yX8_strokes, Cond.selects RX8 yX8_strokes yX8_strokes, Cond.code yX8_strokes cX8_strokes 1 (some .int), Cond.fieldLink RX8 7 "InkPadModel" "now" "[I", Cond.methodLink RX8 75 yX8_in, Cond.static yX8_in, Cond.code yX8_in cX8_in 3 (some .boolean), Cond.methodLink RX8 135 yX8_size, Cond.instanceMethod yX8_size, Cond.selects RX8 yX8_size yX8_size, Cond.code yX8_size cX8_size 2 (some .int), Cond.methodLink RX8 139 yX8_x, Cond.instanceMethod yX8_x, Cond.selects RX8 yX8_x yX8_x, Cond.code yX8_x cX8_x 3 (some .int), Cond.methodLink RX8 143 yX8_y, Cond.instanceMethod yX8_y, Cond.selects RX8 yX8_y yX8_y]
def wsX8_point_r2 : List Cond := [Cond.code yX8_y cX8_y 3 (some .int)]
def wsX8_point : List Cond := .code yX8_point cX8_point 4 (some .int) :: ((wsX8_point_r1 ++ wsX8_point_r2) ++ wsX80)
def wsX8_read_r1 : List Cond := [Cond.fieldLink RX8 69 "InkPadModel" "orderOf" "[I", Cond.methodLink RX8 220 yX8_layOut, Cond.instanceMethod yX8_layOut, Cond.selects RX8 yX8_layOut yX8_layOut, Cond.initialized RX8, Cond.code yX8_layOut cX8_layOut 6 none, Cond.fieldLink RX8 217 "InkPadModel" "words" "I", Cond.fieldLink RX8 13 "InkPadModel" "gap" "I", Cond.fieldLink RX8 66 "InkPadModel" "wordOf" "[I", Cond.methodLink RX8 211 yX8_findLines, Cond.instanceMethod yX8_findLines, Cond.selects RX8 yX8_findLines yX8_findLines, Cond.code yX8_findLines cX8_findLines 6 none, Cond.fieldLink RX8 192 "InkPadModel" "lines" "I", Cond.fieldLink RX8 54 "InkPadModel" "topOf" "[I", Cond.fieldLink RX8 57 "InkPadModel" "bottomOf" "[I", Cond.fieldLink RX8 60 "InkPadModel" "begunIn" "[I", Cond.fieldLink RX8 63 "InkPadModel" "rankOf" "[I", Cond.methodLink RX8 152 yX8_strokes, Cond.instanceMethod yX8_strokes, Cond.selects RX8 yX8_strokes yX8_strokes, Cond.code yX8_strokes cX8_strokes 1 (some .int), Cond.fieldLink RX8 7 "InkPadModel" "now" "[I", Cond.methodLink RX8 195 yX8_bound]
def wsX8_read_r2 : List Cond := [Cond.instanceMethod yX8_bound, Cond.selects RX8 yX8_bound yX8_bound, Cond.code yX8_bound cX8_bound 7 (some .int), Cond.methodLink RX8 143 yX8_y, Cond.instanceMethod yX8_y, Cond.selects RX8 yX8_y yX8_y, Cond.code yX8_y cX8_y 3 (some .int), Cond.methodLink RX8 139 yX8_x, Cond.instanceMethod yX8_x, Cond.selects RX8 yX8_x yX8_x, Cond.code yX8_x cX8_x 3 (some .int), Cond.methodLink RX8 135 yX8_size, Cond.instanceMethod yX8_size, Cond.selects RX8 yX8_size yX8_size, Cond.code yX8_size cX8_size 2 (some .int), Cond.methodLink RX8 199 yX8_mayJoin, Cond.instanceMethod yX8_mayJoin, Cond.selects RX8 yX8_mayJoin yX8_mayJoin, Cond.code yX8_mayJoin cX8_mayJoin 7 (some .boolean), Cond.methodLink RX8 188 yX8_shared, Cond.instanceMethod yX8_shared, Cond.selects RX8 yX8_shared yX8_shared, Cond.code yX8_shared cX8_shared 6 (some .int), Cond.methodLink RX8 202 yX8_isAbove]
def wsX8_read_r3 : List Cond := [Cond.instanceMethod yX8_isAbove, Cond.selects RX8 yX8_isAbove yX8_isAbove, Cond.code yX8_isAbove cX8_isAbove 3 (some .boolean), Cond.methodLink RX8 214 yX8_placeOf, Cond.instanceMethod yX8_placeOf, Cond.selects RX8 yX8_placeOf yX8_placeOf, Cond.code yX8_placeOf cX8_placeOf 4 (some .int), Cond.methodLink RX8 208 yX8_isBefore, Cond.instanceMethod yX8_isBefore, Cond.selects RX8 yX8_isBefore yX8_isBefore, Cond.code yX8_isBefore cX8_isBefore 5 (some .boolean), Cond.methodLink RX8 205 yX8_lineOf, Cond.instanceMethod yX8_lineOf, Cond.selects RX8 yX8_lineOf yX8_lineOf, Cond.code yX8_lineOf cX8_lineOf 2 (some .int)]
def wsX8_read : List Cond := .code yX8_read cX8_read 2 (some .int) :: ((wsX8_read_r1 ++ (wsX8_read_r2 ++ wsX8_read_r3)) ++ wsX80)
def wsX8_line_r1 : List Cond := [Cond.fieldLink RX8 192 "InkPadModel" "lines" "I", Cond.fieldLink RX8 63 "InkPadModel" "rankOf" "[I", Cond.fieldLink RX8 69 "InkPadModel" "orderOf" "[I", Cond.fieldLink RX8 66 "InkPadModel" "wordOf" "[I", Cond.fieldLink RX8 54 "InkPadModel" "topOf" "[I", Cond.fieldLink RX8 57 "InkPadModel" "bottomOf" "[I", Cond.methodLink RX8 220 yX8_layOut, Cond.instanceMethod yX8_layOut, Cond.selects RX8 yX8_layOut yX8_layOut, Cond.initialized RX8, Cond.code yX8_layOut cX8_layOut 6 none, Cond.fieldLink RX8 217 "InkPadModel" "words" "I", Cond.fieldLink RX8 13 "InkPadModel" "gap" "I", Cond.methodLink RX8 211 yX8_findLines, Cond.instanceMethod yX8_findLines, Cond.selects RX8 yX8_findLines yX8_findLines, Cond.code yX8_findLines cX8_findLines 6 none, Cond.fieldLink RX8 60 "InkPadModel" "begunIn" "[I", Cond.methodLink RX8 152 yX8_strokes, Cond.instanceMethod yX8_strokes, Cond.selects RX8 yX8_strokes yX8_strokes, Cond.code yX8_strokes cX8_strokes 1 (some .int), Cond.fieldLink RX8 7 "InkPadModel" "now" "[I", Cond.methodLink RX8 195 yX8_bound]
def wsX8_line_r2 : List Cond := [Cond.instanceMethod yX8_bound, Cond.selects RX8 yX8_bound yX8_bound, Cond.code yX8_bound cX8_bound 7 (some .int), Cond.methodLink RX8 143 yX8_y, Cond.instanceMethod yX8_y, Cond.selects RX8 yX8_y yX8_y, Cond.code yX8_y cX8_y 3 (some .int), Cond.methodLink RX8 139 yX8_x, Cond.instanceMethod yX8_x, Cond.selects RX8 yX8_x yX8_x, Cond.code yX8_x cX8_x 3 (some .int), Cond.methodLink RX8 135 yX8_size, Cond.instanceMethod yX8_size, Cond.selects RX8 yX8_size yX8_size, Cond.code yX8_size cX8_size 2 (some .int), Cond.methodLink RX8 199 yX8_mayJoin, Cond.instanceMethod yX8_mayJoin, Cond.selects RX8 yX8_mayJoin yX8_mayJoin, Cond.code yX8_mayJoin cX8_mayJoin 7 (some .boolean), Cond.methodLink RX8 188 yX8_shared, Cond.instanceMethod yX8_shared, Cond.selects RX8 yX8_shared yX8_shared, Cond.code yX8_shared cX8_shared 6 (some .int), Cond.methodLink RX8 202 yX8_isAbove]
def wsX8_line_r3 : List Cond := [Cond.instanceMethod yX8_isAbove, Cond.selects RX8 yX8_isAbove yX8_isAbove, Cond.code yX8_isAbove cX8_isAbove 3 (some .boolean), Cond.methodLink RX8 214 yX8_placeOf, Cond.instanceMethod yX8_placeOf, Cond.selects RX8 yX8_placeOf yX8_placeOf, Cond.code yX8_placeOf cX8_placeOf 4 (some .int), Cond.methodLink RX8 208 yX8_isBefore, Cond.instanceMethod yX8_isBefore, Cond.selects RX8 yX8_isBefore yX8_isBefore, Cond.code yX8_isBefore cX8_isBefore 5 (some .boolean), Cond.methodLink RX8 205 yX8_lineOf, Cond.instanceMethod yX8_lineOf, Cond.selects RX8 yX8_lineOf yX8_lineOf, Cond.code yX8_lineOf cX8_lineOf 2 (some .int), Cond.methodLink RX8 75 yX8_in, Cond.static yX8_in, Cond.code yX8_in cX8_in 3 (some .boolean)]
def wsX8_line : List Cond := .code yX8_line cX8_line 8 (some .int) :: ((wsX8_line_r1 ++ (wsX8_line_r2 ++ wsX8_line_r3)) ++ wsX80)
def wsX8_word_r1 : List Cond := [Cond.fieldLink RX8 217 "InkPadModel" "words" "I", Cond.fieldLink RX8 66 "InkPadModel" "wordOf" "[I", Cond.fieldLink RX8 69 "InkPadModel" "orderOf" "[I", Cond.methodLink RX8 220 yX8_layOut, Cond.instanceMethod yX8_layOut, Cond.selects RX8 yX8_layOut yX8_layOut, Cond.initialized RX8, Cond.code yX8_layOut cX8_layOut 6 none, Cond.fieldLink RX8 13 "InkPadModel" "gap" "I", Cond.methodLink RX8 211 yX8_findLines, Cond.instanceMethod yX8_findLines, Cond.selects RX8 yX8_findLines yX8_findLines, Cond.code yX8_findLines cX8_findLines 6 none, Cond.fieldLink RX8 192 "InkPadModel" "lines" "I", Cond.fieldLink RX8 54 "InkPadModel" "topOf" "[I", Cond.fieldLink RX8 57 "InkPadModel" "bottomOf" "[I", Cond.fieldLink RX8 60 "InkPadModel" "begunIn" "[I", Cond.fieldLink RX8 63 "InkPadModel" "rankOf" "[I", Cond.methodLink RX8 152 yX8_strokes, Cond.instanceMethod yX8_strokes, Cond.selects RX8 yX8_strokes yX8_strokes, Cond.code yX8_strokes cX8_strokes 1 (some .int), Cond.fieldLink RX8 7 "InkPadModel" "now" "[I", Cond.methodLink RX8 195 yX8_bound]
def wsX8_word_r2 : List Cond := [Cond.instanceMethod yX8_bound, Cond.selects RX8 yX8_bound yX8_bound, Cond.code yX8_bound cX8_bound 7 (some .int), Cond.methodLink RX8 143 yX8_y, Cond.instanceMethod yX8_y, Cond.selects RX8 yX8_y yX8_y, Cond.code yX8_y cX8_y 3 (some .int), Cond.methodLink RX8 139 yX8_x, Cond.instanceMethod yX8_x, Cond.selects RX8 yX8_x yX8_x, Cond.code yX8_x cX8_x 3 (some .int), Cond.methodLink RX8 135 yX8_size, Cond.instanceMethod yX8_size, Cond.selects RX8 yX8_size yX8_size, Cond.code yX8_size cX8_size 2 (some .int), Cond.methodLink RX8 199 yX8_mayJoin, Cond.instanceMethod yX8_mayJoin, Cond.selects RX8 yX8_mayJoin yX8_mayJoin, Cond.code yX8_mayJoin cX8_mayJoin 7 (some .boolean), Cond.methodLink RX8 188 yX8_shared, Cond.instanceMethod yX8_shared, Cond.selects RX8 yX8_shared yX8_shared, Cond.code yX8_shared cX8_shared 6 (some .int), Cond.methodLink RX8 202 yX8_isAbove]
def wsX8_word_r3 : List Cond := [Cond.instanceMethod yX8_isAbove, Cond.selects RX8 yX8_isAbove yX8_isAbove, Cond.code yX8_isAbove cX8_isAbove 3 (some .boolean), Cond.methodLink RX8 214 yX8_placeOf, Cond.instanceMethod yX8_placeOf, Cond.selects RX8 yX8_placeOf yX8_placeOf, Cond.code yX8_placeOf cX8_placeOf 4 (some .int), Cond.methodLink RX8 208 yX8_isBefore, Cond.instanceMethod yX8_isBefore, Cond.selects RX8 yX8_isBefore yX8_isBefore, Cond.code yX8_isBefore cX8_isBefore 5 (some .boolean), Cond.methodLink RX8 205 yX8_lineOf, Cond.instanceMethod yX8_lineOf, Cond.selects RX8 yX8_lineOf yX8_lineOf, Cond.code yX8_lineOf cX8_lineOf 2 (some .int), Cond.methodLink RX8 75 yX8_in, Cond.static yX8_in, Cond.code yX8_in cX8_in 3 (some .boolean)]
def wsX8_word : List Cond := .code yX8_word cX8_word 8 (some .int) :: ((wsX8_word_r1 ++ (wsX8_word_r2 ++ wsX8_word_r3)) ++ wsX80)
def wsX8_nearest_r1 : List Cond := [Cond.methodLink RX8 99 yX8_isPlace, Cond.static yX8_isPlace, Cond.initialized RX8, Cond.code yX8_isPlace cX8_isPlace 1 (some .boolean), Cond.methodLink RX8 75 yX8_in, Cond.static yX8_in, Cond.code yX8_in cX8_in 3 (some .boolean), Cond.methodLink RX8 152 yX8_strokes, Cond.instanceMethod yX8_strokes, Cond.selects RX8 yX8_strokes yX8_strokes, Cond.code yX8_strokes cX8_strokes 1 (some .int), Cond.fieldLink RX8 7 "InkPadModel" "now" "[I", Cond.methodLink RX8 135 yX8_size, Cond.instanceMethod yX8_size, Cond.selects RX8 yX8_size yX8_size, Cond.code yX8_size cX8_size 2 (some .int), Cond.methodLink RX8 139 yX8_x, Cond.instanceMethod yX8_x, Cond.selects RX8 yX8_x yX8_x, Cond.code yX8_x cX8_x 3 (some .int), Cond.methodLink RX8 143 yX8_y, Cond.instanceMethod yX8_y, Cond.selects RX8 yX8_y yX8_y, Cond.code yX8_y cX8_y 3 (some .int)]
def wsX8_nearest_r2 : List Cond := [Cond.methodLink RX8 164 yX8_square, Cond.static yX8_square, Cond.code yX8_square cX8_square 2 (some .int)]
def wsX8_nearest : List Cond := .code yX8_nearest cX8_nearest 8 (some .int) :: ((wsX8_nearest_r1 ++ wsX8_nearest_r2) ++ wsX80)
def wsX8_ink : List Cond := .code yX8_ink cX8_ink 4 none :: ([.fieldLink RX8 72 "InkPadModel" "inked" "[I", .fieldLink RX8 7 "InkPadModel" "now" "[I", .methodLink RX8 152 yX8_strokes, .instanceMethod yX8_strokes, .selects RX8 yX8_strokes yX8_strokes, .initialized RX8, .code yX8_strokes cX8_strokes 1 (some .int), .methodLink RX8 135 yX8_size, .instanceMethod yX8_size, .selects RX8 yX8_size yX8_size, .code yX8_size cX8_size 2 (some .int), .methodLink RX8 143 yX8_y, .instanceMethod yX8_y, .selects RX8 yX8_y yX8_y, .code yX8_y cX8_y 3 (some .int), .methodLink RX8 139 yX8_x, .instanceMethod yX8_x, .selects RX8 yX8_x yX8_x, .code yX8_x cX8_x 3 (some .int)] ++ wsX80)
def wsX8_inkedCells : List Cond := .code yX8_inkedCells cX8_inkedCells 3 (some .int) :: ([.fieldLink RX8 72 "InkPadModel" "inked" "[I"] ++ wsX80)
def wsX8_fullest : List Cond := .code yX8_fullest cX8_fullest 3 (some .int) :: ([.fieldLink RX8 72 "InkPadModel" "inked" "[I"] ++ wsX80)
def wsX8_cell_r1 : List Cond := [Cond.fieldLink RX8 72 "InkPadModel" "inked" "[I", Cond.methodLink RX8 99 yX8_isPlace, Cond.static yX8_isPlace, Cond.initialized RX8, Cond.code yX8_isPlace cX8_isPlace 1 (some .boolean), Cond.methodLink RX8 75 yX8_in, Cond.static yX8_in, Cond.code yX8_in cX8_in 3 (some .boolean), Cond.methodLink RX8 226 yX8_ink, Cond.instanceMethod yX8_ink, Cond.selects RX8 yX8_ink yX8_ink, Cond.code yX8_ink cX8_ink 4 none, Cond.fieldLink RX8 7 "InkPadModel" "now" "[I", Cond.methodLink RX8 152 yX8_strokes, Cond.instanceMethod yX8_strokes, Cond.selects RX8 yX8_strokes yX8_strokes, Cond.code yX8_strokes cX8_strokes 1 (some .int), Cond.methodLink RX8 135 yX8_size, Cond.instanceMethod yX8_size, Cond.selects RX8 yX8_size yX8_size, Cond.code yX8_size cX8_size 2 (some .int), Cond.methodLink RX8 143 yX8_y, Cond.instanceMethod yX8_y, Cond.selects RX8 yX8_y yX8_y]
def wsX8_cell_r2 : List Cond := [Cond.code yX8_y cX8_y 3 (some .int), Cond.methodLink RX8 139 yX8_x, Cond.instanceMethod yX8_x, Cond.selects RX8 yX8_x yX8_x, Cond.code yX8_x cX8_x 3 (some .int)]
def wsX8_cell : List Cond := .code yX8_cell cX8_cell 3 (some .int) :: ((wsX8_cell_r1 ++ wsX8_cell_r2) ++ wsX80)
def wsX8_color_r1 : List Cond := [Cond.fieldLink RX8 7 "InkPadModel" "now" "[I", Cond.methodLink RX8 75 yX8_in, Cond.static yX8_in, Cond.initialized RX8, Cond.code yX8_in cX8_in 3 (some .boolean), Cond.methodLink RX8 152 yX8_strokes, Cond.instanceMethod yX8_strokes, Cond.selects RX8 yX8_strokes yX8_strokes, Cond.code yX8_strokes cX8_strokes 1 (some .int), Cond.methodLink RX8 135 yX8_size, Cond.instanceMethod yX8_size, Cond.selects RX8 yX8_size yX8_size, Cond.code yX8_size cX8_size 2 (some .int), Cond.methodLink RX8 223 yX8_longOf, Cond.instanceMethod yX8_longOf, Cond.selects RX8 yX8_longOf yX8_longOf, Cond.code yX8_longOf cX8_longOf 4 (some .int), Cond.methodLink RX8 139 yX8_x, Cond.instanceMethod yX8_x, Cond.selects RX8 yX8_x yX8_x, Cond.code yX8_x cX8_x 3 (some .int), Cond.methodLink RX8 143 yX8_y, Cond.instanceMethod yX8_y, Cond.selects RX8 yX8_y yX8_y]
def wsX8_color_r2 : List Cond := [Cond.code yX8_y cX8_y 3 (some .int), Cond.methodLink RX8 164 yX8_square, Cond.static yX8_square, Cond.code yX8_square cX8_square 2 (some .int), Cond.methodLink RX8 185 yX8_root, Cond.static yX8_root, Cond.code yX8_root cX8_root 3 (some .int), Cond.methodLink RX8 226 yX8_ink, Cond.instanceMethod yX8_ink, Cond.selects RX8 yX8_ink yX8_ink, Cond.code yX8_ink cX8_ink 4 none, Cond.fieldLink RX8 72 "InkPadModel" "inked" "[I", Cond.methodLink RX8 229 yX8_inkedCells, Cond.instanceMethod yX8_inkedCells, Cond.selects RX8 yX8_inkedCells yX8_inkedCells, Cond.code yX8_inkedCells cX8_inkedCells 3 (some .int)]
def wsX8_color : List Cond := .code yX8_color cX8_color 5 (some .int) :: ((wsX8_color_r1 ++ wsX8_color_r2) ++ wsX80)
def wsX8_count_r1 : List Cond := [Cond.fieldLink RX8 192 "InkPadModel" "lines" "I", Cond.fieldLink RX8 217 "InkPadModel" "words" "I", Cond.fieldLink RX8 92 "InkPadModel" "buffered" "I", Cond.fieldLink RX8 79 "InkPadModel" "kept" "I", Cond.fieldLink RX8 89 "InkPadModel" "undone" "I", Cond.fieldLink RX8 13 "InkPadModel" "gap" "I", Cond.methodLink RX8 220 yX8_layOut, Cond.instanceMethod yX8_layOut, Cond.selects RX8 yX8_layOut yX8_layOut, Cond.initialized RX8, Cond.code yX8_layOut cX8_layOut 6 none, Cond.fieldLink RX8 69 "InkPadModel" "orderOf" "[I", Cond.fieldLink RX8 66 "InkPadModel" "wordOf" "[I", Cond.methodLink RX8 211 yX8_findLines, Cond.instanceMethod yX8_findLines, Cond.selects RX8 yX8_findLines yX8_findLines, Cond.code yX8_findLines cX8_findLines 6 none, Cond.fieldLink RX8 54 "InkPadModel" "topOf" "[I", Cond.fieldLink RX8 57 "InkPadModel" "bottomOf" "[I", Cond.fieldLink RX8 60 "InkPadModel" "begunIn" "[I", Cond.fieldLink RX8 63 "InkPadModel" "rankOf" "[I", Cond.methodLink RX8 152 yX8_strokes, Cond.instanceMethod yX8_strokes, Cond.selects RX8 yX8_strokes yX8_strokes]
def wsX8_count_r2 : List Cond := [Cond.code yX8_strokes cX8_strokes 1 (some .int), Cond.fieldLink RX8 7 "InkPadModel" "now" "[I", Cond.methodLink RX8 195 yX8_bound, Cond.instanceMethod yX8_bound, Cond.selects RX8 yX8_bound yX8_bound, Cond.code yX8_bound cX8_bound 7 (some .int), Cond.methodLink RX8 143 yX8_y, Cond.instanceMethod yX8_y, Cond.selects RX8 yX8_y yX8_y, Cond.code yX8_y cX8_y 3 (some .int), Cond.methodLink RX8 139 yX8_x, Cond.instanceMethod yX8_x, Cond.selects RX8 yX8_x yX8_x, Cond.code yX8_x cX8_x 3 (some .int), Cond.methodLink RX8 135 yX8_size, Cond.instanceMethod yX8_size, Cond.selects RX8 yX8_size yX8_size, Cond.code yX8_size cX8_size 2 (some .int), Cond.methodLink RX8 199 yX8_mayJoin, Cond.instanceMethod yX8_mayJoin, Cond.selects RX8 yX8_mayJoin yX8_mayJoin, Cond.code yX8_mayJoin cX8_mayJoin 7 (some .boolean), Cond.methodLink RX8 188 yX8_shared, Cond.instanceMethod yX8_shared]
def wsX8_count_r3 : List Cond := [Cond.selects RX8 yX8_shared yX8_shared, Cond.code yX8_shared cX8_shared 6 (some .int), Cond.methodLink RX8 202 yX8_isAbove, Cond.instanceMethod yX8_isAbove, Cond.selects RX8 yX8_isAbove yX8_isAbove, Cond.code yX8_isAbove cX8_isAbove 3 (some .boolean), Cond.methodLink RX8 214 yX8_placeOf, Cond.instanceMethod yX8_placeOf, Cond.selects RX8 yX8_placeOf yX8_placeOf, Cond.code yX8_placeOf cX8_placeOf 4 (some .int), Cond.methodLink RX8 208 yX8_isBefore, Cond.instanceMethod yX8_isBefore, Cond.selects RX8 yX8_isBefore yX8_isBefore, Cond.code yX8_isBefore cX8_isBefore 5 (some .boolean), Cond.methodLink RX8 205 yX8_lineOf, Cond.instanceMethod yX8_lineOf, Cond.selects RX8 yX8_lineOf yX8_lineOf, Cond.code yX8_lineOf cX8_lineOf 2 (some .int), Cond.methodLink RX8 226 yX8_ink, Cond.instanceMethod yX8_ink, Cond.selects RX8 yX8_ink yX8_ink, Cond.code yX8_ink cX8_ink 4 none, Cond.fieldLink RX8 72 "InkPadModel" "inked" "[I", Cond.methodLink RX8 223 yX8_longOf]
def wsX8_count_r4 : List Cond := [Cond.instanceMethod yX8_longOf, Cond.selects RX8 yX8_longOf yX8_longOf, Cond.code yX8_longOf cX8_longOf 4 (some .int), Cond.methodLink RX8 164 yX8_square, Cond.static yX8_square, Cond.code yX8_square cX8_square 2 (some .int), Cond.methodLink RX8 185 yX8_root, Cond.static yX8_root, Cond.code yX8_root cX8_root 3 (some .int), Cond.methodLink RX8 229 yX8_inkedCells, Cond.instanceMethod yX8_inkedCells, Cond.selects RX8 yX8_inkedCells yX8_inkedCells, Cond.code yX8_inkedCells cX8_inkedCells 3 (some .int), Cond.methodLink RX8 232 yX8_fullest, Cond.instanceMethod yX8_fullest, Cond.selects RX8 yX8_fullest yX8_fullest, Cond.code yX8_fullest cX8_fullest 3 (some .int)]
def wsX8_count : List Cond := .code yX8_count cX8_count 5 (some .int) :: ((wsX8_count_r1 ++ (wsX8_count_r2 ++ (wsX8_count_r3 ++ wsX8_count_r4))) ++ wsX80)
def wsJ9_max_7cf53 : List Cond := .code yJ9_max_7cf53 cJ9_max_7cf53 2 (some .int) :: ([])
def wsJ9_min_7cf53 : List Cond := .code yJ9_min_7cf53 cJ9_min_7cf53 2 (some .int) :: ([])
def wsL_law_r1 : List Cond := [Cond.classLink RL 7 RX7, Cond.instantiable RX7 10, Cond.initialized RX7, Cond.classLink RL 10 RX8, Cond.instantiable RX8 31, Cond.initialized RX8, Cond.methodLink RL 9 yX7_init, Cond.instanceMethod yX7_init, Cond.code yX7_init cX7_init 1 none, Cond.methodLink RX7 3 objectInit, Cond.instanceMethod objectInit, Cond.code objectInit ⟨#[0xb1]⟩ 1 none, Cond.classLink RX7 9 RX5, Cond.instantiable RX5 3, Cond.initialized RX5, Cond.fieldLink RX7 12 "InkPad" "buffer" "LInkPad$Trail;", Cond.classLink RX7 16 RX4, Cond.instantiable RX4 2, Cond.initialized RX4, Cond.fieldLink RX7 19 "InkPad" "text" "LInkPad$Text;", Cond.classLink RX7 23 RX2, Cond.instantiable RX2 2, Cond.initialized RX2, Cond.fieldLink RX7 26 "InkPad" "present" "LInkPad$Sheet;"]
def wsL_law_r2 : List Cond := [Cond.fieldLink RX7 30 "InkPad" "draft" "LInkPad$Sheet;", Cond.fieldLink RX7 33 "InkPad" "work" "LInkPad$Trail;", Cond.classLink RX7 36 RX0, Cond.instantiable RX0 5, Cond.initialized RX0, Cond.fieldLink RX7 39 "InkPad" "history" "LInkPad$History;", Cond.classLink RX7 43 RX1, Cond.instantiable RX1 8, Cond.initialized RX1, Cond.fieldLink RX7 46 "InkPad" "lines" "LInkPad$Lines;", Cond.classLink RX7 50 RX6, Cond.instantiable RX6 12, Cond.initialized RX6, Cond.fieldLink RX7 53 "InkPad" "words" "LInkPad$Words;", Cond.classLink RX7 57 RX3, Cond.instantiable RX3 4, Cond.initialized RX3, Cond.fieldLink RX7 60 "InkPad" "tally" "LInkPad$Tally;", Cond.fieldLink RX7 64 "InkPad" "gap" "I", Cond.instanceMethod yX5_init, Cond.code yX5_init cX5_init 1 none, Cond.methodLink RX5 3 objectInit, Cond.arrayClass .int, Cond.fieldLink RX5 9 "InkPad$Trail" "xs" "[I"]
def wsL_law_r3 : List Cond := [Cond.fieldLink RX5 15 "InkPad$Trail" "ys" "[I", Cond.instanceMethod yX4_init, Cond.code yX4_init cX4_init 1 none, Cond.methodLink RX4 3 objectInit, Cond.arrayClass .char, Cond.fieldLink RX4 9 "InkPad$Text" "signs" "[C", Cond.instanceMethod yX2_init, Cond.code yX2_init cX2_init 1 none, Cond.methodLink RX2 3 objectInit, Cond.fieldLink RX2 9 "InkPad$Sheet" "rows" "[I", Cond.instanceMethod yX0_init, Cond.code yX0_init cX0_init 1 none, Cond.methodLink RX0 3 objectInit, Cond.fieldLink RX0 11 "InkPad$History" "numbers" "[I", Cond.fieldLink RX0 15 "InkPad$History" "sheets" "[I", Cond.instanceMethod yX1_init, Cond.code yX1_init cX1_init 1 none, Cond.methodLink RX1 3 objectInit, Cond.fieldLink RX1 9 "InkPad$Lines" "lineOf" "[I", Cond.fieldLink RX1 15 "InkPad$Lines" "tops" "[I", Cond.fieldLink RX1 18 "InkPad$Lines" "bottoms" "[I", Cond.fieldLink RX1 21 "InkPad$Lines" "sizes" "[I", Cond.fieldLink RX1 24 "InkPad$Lines" "begunTops" "[I", Cond.fieldLink RX1 27 "InkPad$Lines" "begunBottoms" "[I"]
def wsL_law_r4 : List Cond := [Cond.fieldLink RX1 30 "InkPad$Lines" "ranks" "[I", Cond.instanceMethod yX6_init, Cond.code yX6_init cX6_init 1 none, Cond.methodLink RX6 3 objectInit, Cond.fieldLink RX6 9 "InkPad$Words" "order" "[I", Cond.fieldLink RX6 15 "InkPad$Words" "placeOf" "[I", Cond.fieldLink RX6 18 "InkPad$Words" "wordOf" "[I", Cond.fieldLink RX6 21 "InkPad$Words" "lines" "[I", Cond.fieldLink RX6 24 "InkPad$Words" "sizes" "[I", Cond.fieldLink RX6 27 "InkPad$Words" "lefts" "[I", Cond.fieldLink RX6 30 "InkPad$Words" "rights" "[I", Cond.fieldLink RX6 33 "InkPad$Words" "firsts" "[I", Cond.fieldLink RX6 36 "InkPad$Words" "wordsIn" "[I", Cond.fieldLink RX6 39 "InkPad$Words" "firstIn" "[I", Cond.fieldLink RX6 42 "InkPad$Words" "strokeLefts" "[I", Cond.instanceMethod yX3_init, Cond.code yX3_init cX3_init 1 none, Cond.methodLink RX3 1 objectInit, Cond.fieldLink RX3 9 "InkPad$Tally" "keys" "[I", Cond.fieldLink RX3 13 "InkPad$Tally" "points" "[I", Cond.methodLink RL 12 yX8_init, Cond.instanceMethod yX8_init, Cond.code yX8_init cX8_init 1 none, Cond.methodLink RX8 1 objectInit]
def wsL_law_r5 : List Cond := [Cond.fieldLink RX8 7 "InkPadModel" "now" "[I", Cond.fieldLink RX8 13 "InkPadModel" "gap" "I", Cond.fieldLink RX8 17 "InkPadModel" "history" "[I", Cond.fieldLink RX8 20 "InkPadModel" "again" "[I", Cond.fieldLink RX8 23 "InkPadModel" "bufferX" "[I", Cond.fieldLink RX8 26 "InkPadModel" "bufferY" "[I", Cond.fieldLink RX8 29 "InkPadModel" "text" "[C", Cond.fieldLink RX8 33 "InkPadModel" "readX" "[I", Cond.fieldLink RX8 36 "InkPadModel" "readY" "[I", Cond.fieldLink RX8 39 "InkPadModel" "next" "[I", Cond.fieldLink RX8 42 "InkPadModel" "px" "[I", Cond.fieldLink RX8 45 "InkPadModel" "py" "[I", Cond.fieldLink RX8 48 "InkPadModel" "qx" "[I", Cond.fieldLink RX8 51 "InkPadModel" "qy" "[I", Cond.fieldLink RX8 54 "InkPadModel" "topOf" "[I", Cond.fieldLink RX8 57 "InkPadModel" "bottomOf" "[I", Cond.fieldLink RX8 60 "InkPadModel" "begunIn" "[I", Cond.fieldLink RX8 63 "InkPadModel" "rankOf" "[I", Cond.fieldLink RX8 66 "InkPadModel" "wordOf" "[I", Cond.fieldLink RX8 69 "InkPadModel" "orderOf" "[I", Cond.fieldLink RX8 72 "InkPadModel" "inked" "[I", Cond.methodLink RL 13 yX7_put, Cond.instanceMethod yX7_put, Cond.selects RX7 yX7_put yX7_put]
def wsL_law_r6 : List Cond := [Cond.code yX7_put cX7_put 3 (some .int), Cond.fieldLink RX7 72 "InkPad$Trail" "size" "I", Cond.methodLink RX7 68 yX7_isCoordinate, Cond.static yX7_isCoordinate, Cond.code yX7_isCoordinate cX7_isCoordinate 1 (some .boolean), Cond.methodLink RX7 110 yX7_isWithin, Cond.static yX7_isWithin, Cond.code yX7_isWithin cX7_isWithin 3 (some .boolean), Cond.methodLink RX7 75 yX5_append, Cond.instanceMethod yX5_append, Cond.selects RX5 yX5_append yX5_append, Cond.code yX5_append cX5_append 3 none, Cond.fieldLink RX5 18 "InkPad$Trail" "size" "I", Cond.methodLink RX5 22 yX5_isLast, Cond.instanceMethod yX5_isLast, Cond.selects RX5 yX5_isLast yX5_isLast, Cond.code yX5_isLast cX5_isLast 3 (some .boolean), Cond.methodLink RL 17 yX8_put, Cond.instanceMethod yX8_put, Cond.selects RX8 yX8_put yX8_put, Cond.code yX8_put cX8_put 3 (some .int), Cond.fieldLink RX8 92 "InkPadModel" "buffered" "I", Cond.methodLink RX8 99 yX8_isPlace, Cond.static yX8_isPlace]
def wsL_law_r7 : List Cond := [Cond.code yX8_isPlace cX8_isPlace 1 (some .boolean), Cond.methodLink RX8 75 yX8_in, Cond.static yX8_in, Cond.code yX8_in cX8_in 3 (some .boolean), Cond.methodLink RX8 103 yX8_add, Cond.instanceMethod yX8_add, Cond.selects RX8 yX8_add yX8_add, Cond.code yX8_add cX8_add 3 none, Cond.methodLink RX8 95 yX8_isLast, Cond.instanceMethod yX8_isLast, Cond.selects RX8 yX8_isLast yX8_isLast, Cond.code yX8_isLast cX8_isLast 3 (some .boolean), Cond.methodLink RL 18 yX7_clearPoints, Cond.instanceMethod yX7_clearPoints, Cond.selects RX7 yX7_clearPoints yX7_clearPoints, Cond.code yX7_clearPoints cX7_clearPoints 2 (some .int), Cond.methodLink RX7 79 yX5_empty, Cond.instanceMethod yX5_empty, Cond.selects RX5 yX5_empty yX5_empty, Cond.code yX5_empty cX5_empty 1 none, Cond.methodLink RL 22 yX8_clearPoints, Cond.instanceMethod yX8_clearPoints, Cond.selects RX8 yX8_clearPoints yX8_clearPoints, Cond.code yX8_clearPoints cX8_clearPoints 2 (some .int)]
def wsL_law_r8 : List Cond := [Cond.methodLink RL 23 yX7_type, Cond.instanceMethod yX7_type, Cond.selects RX7 yX7_type yX7_type, Cond.code yX7_type cX7_type 2 (some .int), Cond.fieldLink RX7 82 "InkPad$Text" "length" "I", Cond.methodLink RX7 85 yX4_append, Cond.instanceMethod yX4_append, Cond.selects RX4 yX4_append yX4_append, Cond.code yX4_append cX4_append 2 none, Cond.fieldLink RX4 15 "InkPad$Text" "length" "I", Cond.methodLink RL 27 yX8_type, Cond.instanceMethod yX8_type, Cond.selects RX8 yX8_type yX8_type, Cond.code yX8_type cX8_type 2 (some .int), Cond.fieldLink RX8 107 "InkPadModel" "typed" "I", Cond.methodLink RL 28 yX7_clearText, Cond.instanceMethod yX7_clearText, Cond.selects RX7 yX7_clearText yX7_clearText, Cond.code yX7_clearText cX7_clearText 2 (some .int), Cond.methodLink RX7 88 yX4_empty, Cond.instanceMethod yX4_empty, Cond.selects RX4 yX4_empty yX4_empty, Cond.code yX4_empty cX4_empty 1 none, Cond.methodLink RL 31 yX8_clearText]
def wsL_law_r9 : List Cond := [Cond.instanceMethod yX8_clearText, Cond.selects RX8 yX8_clearText yX8_clearText, Cond.code yX8_clearText cX8_clearText 2 (some .int), Cond.methodLink RL 32 yX7_readPoints, Cond.instanceMethod yX7_readPoints, Cond.selects RX7 yX7_readPoints yX7_readPoints, Cond.code yX7_readPoints cX7_readPoints 2 (some .int), Cond.methodLink RX7 89 yX4_parse, Cond.instanceMethod yX4_parse, Cond.selects RX4 yX4_parse yX4_parse, Cond.code yX4_parse cX4_parse 10 (some .int), Cond.methodLink RX4 19 yX5_empty, Cond.methodLink RX4 24 yX4_isDigit, Cond.static yX4_isDigit, Cond.code yX4_isDigit cX4_isDigit 1 (some .boolean), Cond.methodLink RX4 28 yX5_append, Cond.methodLink RX7 93 yX5_copy, Cond.instanceMethod yX5_copy, Cond.selects RX5 yX5_copy yX5_copy, Cond.code yX5_copy cX5_copy 2 none, Cond.methodLink RX5 26 arraycopyName, Cond.native arraycopyName, Cond.static arraycopyName, Cond.initialized "java/lang/System"]
def wsL_law_r10 : List Cond := [Cond.methodLink RL 35 yX8_readPoints, Cond.instanceMethod yX8_readPoints, Cond.selects RX8 yX8_readPoints yX8_readPoints, Cond.code yX8_readPoints cX8_readPoints 2 (some .int), Cond.fieldLink RX8 110 "InkPadModel" "place" "I", Cond.fieldLink RX8 113 "InkPadModel" "isGood" "Z", Cond.fieldLink RX8 125 "InkPadModel" "read" "I", Cond.methodLink RX8 128 yX8_readPoint, Cond.instanceMethod yX8_readPoint, Cond.selects RX8 yX8_readPoint yX8_readPoint, Cond.code yX8_readPoint cX8_readPoint 3 none, Cond.methodLink RX8 121 yX8_number, Cond.instanceMethod yX8_number, Cond.selects RX8 yX8_number yX8_number, Cond.code yX8_number cX8_number 3 (some .int), Cond.methodLink RX8 117 yX8_isAt, Cond.instanceMethod yX8_isAt, Cond.selects RX8 yX8_isAt yX8_isAt, Cond.code yX8_isAt cX8_isAt 3 (some .boolean), Cond.methodLink RL 36 yX7_draw, Cond.instanceMethod yX7_draw, Cond.selects RX7 yX7_draw yX7_draw, Cond.code yX7_draw cX7_draw 2 (some .int), Cond.fieldLink RX7 107 "InkPad$Sheet" "strokes" "I"]
def wsL_law_r11 : List Cond := [Cond.methodLink RX7 97 yX7_isColor, Cond.static yX7_isColor, Cond.code yX7_isColor cX7_isColor 1 (some .boolean), Cond.methodLink RX7 100 yX2_append, Cond.instanceMethod yX2_append, Cond.selects RX2 yX2_append yX2_append, Cond.code yX2_append cX2_append 3 (some .boolean), Cond.fieldLink RX2 15 "InkPad$Sheet" "strokes" "I", Cond.methodLink RX2 36 yX2_set, Cond.instanceMethod yX2_set, Cond.selects RX2 yX2_set yX2_set, Cond.code yX2_set cX2_set 5 none, Cond.fieldLink RX2 25 "InkPad$Trail" "size" "I", Cond.fieldLink RX2 30 "InkPad$Trail" "xs" "[I", Cond.methodLink RX2 19 arraycopyName, Cond.fieldLink RX2 33 "InkPad$Trail" "ys" "[I", Cond.methodLink RX7 103 yX0_record, Cond.instanceMethod yX0_record, Cond.selects RX0 yX0_record yX0_record, Cond.code yX0_record cX0_record 2 none, Cond.fieldLink RX0 18 "InkPad$History" "at" "I", Cond.fieldLink RX0 22 "InkPad$History" "past" "I", Cond.methodLink RX0 25 Lib.Math.min.name, Cond.static Lib.Math.min.name]
def wsL_law_r12 : List Cond := [Cond.initialized "java/lang/Math", Cond.code Lib.Math.min.name Lib.Math.min.code 2 (some .int), Cond.fieldLink RX0 31 "InkPad$History" "future" "I", Cond.fieldLink RX0 34 "InkPad$Sheet" "strokes" "I", Cond.fieldLink RX0 39 "InkPad$Sheet" "rows" "[I", Cond.methodLink RX0 42 arraycopyName, Cond.methodLink RL 40 yX8_draw, Cond.instanceMethod yX8_draw, Cond.selects RX8 yX8_draw yX8_draw, Cond.code yX8_draw cX8_draw 3 (some .int), Cond.methodLink RX8 152 yX8_strokes, Cond.instanceMethod yX8_strokes, Cond.selects RX8 yX8_strokes yX8_strokes, Cond.code yX8_strokes cX8_strokes 1 (some .int), Cond.methodLink RX8 155 yX8_begin, Cond.instanceMethod yX8_begin, Cond.selects RX8 yX8_begin yX8_begin, Cond.code yX8_begin cX8_begin 1 none, Cond.methodLink RX8 158 yX8_copyStroke, Cond.instanceMethod yX8_copyStroke, Cond.selects RX8 yX8_copyStroke yX8_copyStroke, Cond.code yX8_copyStroke cX8_copyStroke 3 none, Cond.methodLink RX8 131 yX8_addStroke, Cond.instanceMethod yX8_addStroke]
def wsL_law_r13 : List Cond := [Cond.selects RX8 yX8_addStroke yX8_addStroke, Cond.code yX8_addStroke cX8_addStroke 3 none, Cond.methodLink RX8 135 yX8_size, Cond.instanceMethod yX8_size, Cond.selects RX8 yX8_size yX8_size, Cond.code yX8_size cX8_size 2 (some .int), Cond.methodLink RX8 139 yX8_x, Cond.instanceMethod yX8_x, Cond.selects RX8 yX8_x yX8_x, Cond.code yX8_x cX8_x 3 (some .int), Cond.methodLink RX8 143 yX8_y, Cond.instanceMethod yX8_y, Cond.selects RX8 yX8_y yX8_y, Cond.code yX8_y cX8_y 3 (some .int), Cond.methodLink RX8 146 yX8_addPoint, Cond.instanceMethod yX8_addPoint, Cond.selects RX8 yX8_addPoint yX8_addPoint, Cond.code yX8_addPoint cX8_addPoint 4 none, Cond.methodLink RX8 161 yX8_become, Cond.instanceMethod yX8_become, Cond.selects RX8 yX8_become yX8_become, Cond.code yX8_become cX8_become 1 none, Cond.methodLink RX8 149 yX8_record, Cond.instanceMethod yX8_record]
def wsL_law_r14 : List Cond := [Cond.selects RX8 yX8_record yX8_record, Cond.code yX8_record cX8_record 1 none, Cond.fieldLink RX8 89 "InkPadModel" "undone" "I", Cond.methodLink RX8 86 yX8_push, Cond.instanceMethod yX8_push, Cond.selects RX8 yX8_push yX8_push, Cond.code yX8_push cX8_push 2 none, Cond.fieldLink RX8 79 "InkPadModel" "kept" "I", Cond.methodLink RX8 82 yX8_copyRow, Cond.static yX8_copyRow, Cond.code yX8_copyRow cX8_copyRow 5 none, Cond.methodLink RL 41 yX7_rub, Cond.instanceMethod yX7_rub, Cond.selects RX7 yX7_rub yX7_rub, Cond.code yX7_rub cX7_rub 10 (some .int), Cond.methodLink RX7 114 yX2_empty, Cond.instanceMethod yX2_empty, Cond.selects RX2 yX2_empty yX2_empty, Cond.code yX2_empty cX2_empty 1 none, Cond.methodLink RX7 115 yX2_size, Cond.instanceMethod yX2_size, Cond.selects RX2 yX2_size yX2_size, Cond.code yX2_size cX2_size 2 (some .int), Cond.methodLink RX7 118 yX2_x]
def wsL_law_r15 : List Cond := [Cond.instanceMethod yX2_x, Cond.selects RX2 yX2_x yX2_x, Cond.code yX2_x cX2_x 3 (some .int), Cond.methodLink RX7 122 yX2_y, Cond.instanceMethod yX2_y, Cond.selects RX2 yX2_y yX2_y, Cond.code yX2_y cX2_y 3 (some .int), Cond.methodLink RX7 125 yX7_square, Cond.static yX7_square, Cond.code yX7_square cX7_square 2 (some .int), Cond.methodLink RX7 128 yX2_colorOf, Cond.instanceMethod yX2_colorOf, Cond.selects RX2 yX2_colorOf yX2_colorOf, Cond.code yX2_colorOf cX2_colorOf 2 (some .int), Cond.methodLink RX7 131 yX7_endPart, Cond.instanceMethod yX7_endPart, Cond.selects RX7 yX7_endPart yX7_endPart, Cond.code yX7_endPart cX7_endPart 3 (some .boolean), Cond.methodLink RX7 134 yX2_copy, Cond.instanceMethod yX2_copy, Cond.selects RX2 yX2_copy yX2_copy, Cond.code yX2_copy cX2_copy 2 none, Cond.methodLink RL 45 yX8_rub, Cond.instanceMethod yX8_rub]
def wsL_law_r16 : List Cond := [Cond.selects RX8 yX8_rub yX8_rub, Cond.code yX8_rub cX8_rub 9 (some .int), Cond.methodLink RX8 164 yX8_square, Cond.static yX8_square, Cond.code yX8_square cX8_square 2 (some .int), Cond.methodLink RL 46 yX7_smooth, Cond.instanceMethod yX7_smooth, Cond.selects RX7 yX7_smooth yX7_smooth, Cond.code yX7_smooth cX7_smooth 4 (some .int), Cond.methodLink RX7 136 yX2_has, Cond.instanceMethod yX2_has, Cond.selects RX2 yX2_has yX2_has, Cond.code yX2_has cX2_has 2 (some .boolean), Cond.methodLink RX7 139 yX5_take, Cond.instanceMethod yX5_take, Cond.selects RX5 yX5_take yX5_take, Cond.code yX5_take cX5_take 4 none, Cond.methodLink RX5 32 yX2_size, Cond.methodLink RX5 37 yX2_x, Cond.methodLink RX5 41 yX2_y, Cond.methodLink RX5 44 yX5_append, Cond.methodLink RX7 143 yX5_smoothOnce, Cond.instanceMethod yX5_smoothOnce, Cond.selects RX5 yX5_smoothOnce yX5_smoothOnce]
def wsL_law_r17 : List Cond := [Cond.code yX5_smoothOnce cX5_smoothOnce 6 none, Cond.methodLink RX7 146 yX5_dropRepeats, Cond.instanceMethod yX5_dropRepeats, Cond.selects RX5 yX5_dropRepeats yX5_dropRepeats, Cond.code yX5_dropRepeats cX5_dropRepeats 3 none, Cond.methodLink RX7 149 yX7_replace, Cond.instanceMethod yX7_replace, Cond.selects RX7 yX7_replace yX7_replace, Cond.code yX7_replace cX7_replace 2 (some .int), Cond.methodLink RX7 262 yX2_isSame, Cond.instanceMethod yX2_isSame, Cond.selects RX2 yX2_isSame yX2_isSame, Cond.code yX2_isSame cX2_isSame 4 (some .boolean), Cond.methodLink RX2 44 yX2_size, Cond.methodLink RX2 47 yX2_x, Cond.methodLink RX2 51 yX2_y, Cond.methodLink RX7 160 yX2_set, Cond.methodLink RL 49 yX8_smooth, Cond.instanceMethod yX8_smooth, Cond.selects RX8 yX8_smooth yX8_smooth, Cond.code yX8_smooth cX8_smooth 4 (some .int), Cond.methodLink RX8 170 yX8_noStroke, Cond.instanceMethod yX8_noStroke, Cond.selects RX8 yX8_noStroke yX8_noStroke]
def wsL_law_r18 : List Cond := [Cond.code yX8_noStroke cX8_noStroke 2 (some .boolean), Cond.methodLink RX8 173 yX8_take, Cond.instanceMethod yX8_take, Cond.selects RX8 yX8_take yX8_take, Cond.code yX8_take cX8_take 3 none, Cond.fieldLink RX8 167 "InkPadModel" "points" "I", Cond.methodLink RX8 176 yX8_smoothOnce, Cond.instanceMethod yX8_smoothOnce, Cond.selects RX8 yX8_smoothOnce yX8_smoothOnce, Cond.code yX8_smoothOnce cX8_smoothOnce 2 none, Cond.methodLink RX8 179 yX8_dropSame, Cond.instanceMethod yX8_dropSame, Cond.selects RX8 yX8_dropSame yX8_dropSame, Cond.code yX8_dropSame cX8_dropSame 3 none, Cond.methodLink RX8 182 yX8_putBack, Cond.instanceMethod yX8_putBack, Cond.selects RX8 yX8_putBack yX8_putBack, Cond.code yX8_putBack cX8_putBack 5 (some .int), Cond.methodLink RL 50 yX7_thin, Cond.instanceMethod yX7_thin, Cond.selects RX7 yX7_thin yX7_thin, Cond.code yX7_thin cX7_thin 3 (some .int), Cond.methodLink RX7 152 yX5_dropNear, Cond.instanceMethod yX5_dropNear]
def wsL_law_r19 : List Cond := [Cond.selects RX5 yX5_dropNear yX5_dropNear, Cond.code yX5_dropNear cX5_dropNear 4 none, Cond.methodLink RL 53 yX8_thin, Cond.instanceMethod yX8_thin, Cond.selects RX8 yX8_thin yX8_thin, Cond.code yX8_thin cX8_thin 6 (some .int), Cond.methodLink RL 54 yX7_join, Cond.instanceMethod yX7_join, Cond.selects RX7 yX7_join yX7_join, Cond.code yX7_join cX7_join 6 (some .int), Cond.methodLink RX7 156 yX5_isLast, Cond.methodLink RX7 164 yX2_drop, Cond.instanceMethod yX2_drop, Cond.selects RX2 yX2_drop yX2_drop, Cond.code yX2_drop cX2_drop 3 none, Cond.methodLink RX2 40 yX2_has, Cond.methodLink RL 57 yX8_join, Cond.instanceMethod yX8_join, Cond.selects RX8 yX8_join yX8_join, Cond.code yX8_join cX8_join 7 (some .int), Cond.methodLink RL 58 yX7_shift, Cond.instanceMethod yX7_shift, Cond.selects RX7 yX7_shift yX7_shift, Cond.code yX7_shift cX7_shift 5 (some .int)]
def wsL_law_r20 : List Cond := [Cond.methodLink RX7 167 yX2_left, Cond.instanceMethod yX2_left, Cond.selects RX2 yX2_left yX2_left, Cond.code yX2_left cX2_left 2 (some .int), Cond.methodLink RX2 54 yX2_leastFrom, Cond.instanceMethod yX2_leastFrom, Cond.selects RX2 yX2_leastFrom yX2_leastFrom, Cond.code yX2_leastFrom cX2_leastFrom 5 (some .int), Cond.methodLink RX2 60 Lib.Math.min.name, Cond.methodLink RX7 170 yX2_right, Cond.instanceMethod yX2_right, Cond.selects RX2 yX2_right yX2_right, Cond.code yX2_right cX2_right 2 (some .int), Cond.methodLink RX2 57 yX2_greatestFrom, Cond.instanceMethod yX2_greatestFrom, Cond.selects RX2 yX2_greatestFrom yX2_greatestFrom, Cond.code yX2_greatestFrom cX2_greatestFrom 5 (some .int), Cond.methodLink RX2 65 Lib.Math.max.name, Cond.static Lib.Math.max.name, Cond.code Lib.Math.max.name Lib.Math.max.code 2 (some .int), Cond.methodLink RX7 173 yX2_top, Cond.instanceMethod yX2_top, Cond.selects RX2 yX2_top yX2_top, Cond.code yX2_top cX2_top 2 (some .int)]
def wsL_law_r21 : List Cond := [Cond.methodLink RX7 176 yX2_bottom, Cond.instanceMethod yX2_bottom, Cond.selects RX2 yX2_bottom yX2_bottom, Cond.code yX2_bottom cX2_bottom 2 (some .int), Cond.methodLink RL 61 yX8_shift, Cond.instanceMethod yX8_shift, Cond.selects RX8 yX8_shift yX8_shift, Cond.code yX8_shift cX8_shift 5 (some .int), Cond.methodLink RL 62 yX7_paint, Cond.instanceMethod yX7_paint, Cond.selects RX7 yX7_paint yX7_paint, Cond.code yX7_paint cX7_paint 4 (some .int), Cond.methodLink RX7 179 yX2_setColor, Cond.instanceMethod yX2_setColor, Cond.selects RX2 yX2_setColor yX2_setColor, Cond.code yX2_setColor cX2_setColor 3 none, Cond.methodLink RL 65 yX8_paint, Cond.instanceMethod yX8_paint, Cond.selects RX8 yX8_paint yX8_paint, Cond.code yX8_paint cX8_paint 4 (some .int), Cond.methodLink RL 66 yX7_remove, Cond.instanceMethod yX7_remove, Cond.selects RX7 yX7_remove yX7_remove, Cond.code yX7_remove cX7_remove 2 (some .int)]
def wsL_law_r22 : List Cond := [Cond.methodLink RL 69 yX8_remove, Cond.instanceMethod yX8_remove, Cond.selects RX8 yX8_remove yX8_remove, Cond.code yX8_remove cX8_remove 3 (some .int), Cond.methodLink RL 70 yX7_undo, Cond.instanceMethod yX7_undo, Cond.selects RX7 yX7_undo yX7_undo, Cond.code yX7_undo cX7_undo 1 (some .int), Cond.fieldLink RX7 182 "InkPad$History" "past" "I", Cond.methodLink RX7 185 yX0_stepBack, Cond.instanceMethod yX0_stepBack, Cond.selects RX0 yX0_stepBack yX0_stepBack, Cond.code yX0_stepBack cX0_stepBack 2 none, Cond.methodLink RX0 48 yX0_show, Cond.instanceMethod yX0_show, Cond.selects RX0 yX0_show yX0_show, Cond.code yX0_show cX0_show 2 none, Cond.methodLink RL 73 yX8_undo, Cond.instanceMethod yX8_undo, Cond.selects RX8 yX8_undo yX8_undo, Cond.code yX8_undo cX8_undo 1 (some .int), Cond.methodLink RL 74 yX7_redo, Cond.instanceMethod yX7_redo, Cond.selects RX7 yX7_redo yX7_redo]
def wsL_law_r23 : List Cond := [Cond.code yX7_redo cX7_redo 1 (some .int), Cond.fieldLink RX7 188 "InkPad$History" "future" "I", Cond.methodLink RX7 191 yX0_stepOn, Cond.instanceMethod yX0_stepOn, Cond.selects RX0 yX0_stepOn yX0_stepOn, Cond.code yX0_stepOn cX0_stepOn 2 none, Cond.methodLink RL 77 yX8_redo, Cond.instanceMethod yX8_redo, Cond.selects RX8 yX8_redo yX8_redo, Cond.code yX8_redo cX8_redo 1 (some .int), Cond.methodLink RL 78 yX7_stroke, Cond.instanceMethod yX7_stroke, Cond.selects RX7 yX7_stroke yX7_stroke, Cond.code yX7_stroke cX7_stroke 3 (some .int), Cond.fieldLink RX7 199 "InkPad$Lines" "lineOf" "[I", Cond.fieldLink RX7 203 "InkPad$Words" "wordOf" "[I", Cond.fieldLink RX7 206 "InkPad$Words" "placeOf" "[I", Cond.methodLink RX7 194 yX2_length, Cond.instanceMethod yX2_length, Cond.selects RX2 yX2_length yX2_length, Cond.code yX2_length cX2_length 6 (some .int), Cond.static yX7_root, Cond.code yX7_root cX7_root 4 (some .int), Cond.methodLink RX7 196 yX7_layOut]
def wsL_law_r24 : List Cond := [Cond.instanceMethod yX7_layOut, Cond.selects RX7 yX7_layOut yX7_layOut, Cond.code yX7_layOut cX7_layOut 1 none, Cond.methodLink RX7 265 yX1_group, Cond.instanceMethod yX1_group, Cond.selects RX1 yX1_group yX1_group, Cond.code yX1_group cX1_group 6 none, Cond.fieldLink RX1 33 "InkPad$Lines" "number" "I", Cond.fieldLink RX1 37 "InkPad$Sheet" "strokes" "I", Cond.methodLink RX1 53 Lib.Math.min.name, Cond.methodLink RX1 58 Lib.Math.max.name, Cond.methodLink RX1 42 yX2_top, Cond.methodLink RX1 46 yX2_bottom, Cond.methodLink RX1 49 yX1_bestFor, Cond.instanceMethod yX1_bestFor, Cond.selects RX1 yX1_bestFor yX1_bestFor, Cond.code yX1_bestFor cX1_bestFor 10 (some .int), Cond.methodLink RX1 61 yX1_rank, Cond.instanceMethod yX1_rank, Cond.selects RX1 yX1_rank yX1_rank, Cond.code yX1_rank cX1_rank 5 none, Cond.methodLink RX1 65 yX1_isBefore, Cond.instanceMethod yX1_isBefore, Cond.selects RX1 yX1_isBefore yX1_isBefore]
def wsL_law_r25 : List Cond := [Cond.code yX1_isBefore cX1_isBefore 3 (some .boolean), Cond.methodLink RX7 268 yX6_group, Cond.instanceMethod yX6_group, Cond.selects RX6 yX6_group yX6_group, Cond.code yX6_group cX6_group 10 none, Cond.fieldLink RX6 49 "InkPad$Words" "number" "I", Cond.fieldLink RX6 53 "InkPad$Sheet" "strokes" "I", Cond.fieldLink RX6 58 "InkPad$Lines" "lineOf" "[I", Cond.methodLink RX6 67 Lib.Math.max.name, Cond.methodLink RX6 45 yX6_setOrder, Cond.instanceMethod yX6_setOrder, Cond.selects RX6 yX6_setOrder yX6_setOrder, Cond.code yX6_setOrder cX6_setOrder 6 none, Cond.methodLink RX6 73 yX2_left, Cond.methodLink RX6 76 yX6_isBefore, Cond.instanceMethod yX6_isBefore, Cond.selects RX6 yX6_isBefore yX6_isBefore, Cond.code yX6_isBefore cX6_isBefore 4 (some .boolean), Cond.methodLink RX6 63 yX2_right, Cond.methodLink RL 81 yX8_stroke, Cond.instanceMethod yX8_stroke, Cond.selects RX8 yX8_stroke yX8_stroke, Cond.code yX8_stroke cX8_stroke 3 (some .int), Cond.methodLink RX8 220 yX8_layOut]
def wsL_law_r26 : List Cond := [Cond.instanceMethod yX8_layOut, Cond.selects RX8 yX8_layOut yX8_layOut, Cond.code yX8_layOut cX8_layOut 6 none, Cond.fieldLink RX8 217 "InkPadModel" "words" "I", Cond.methodLink RX8 211 yX8_findLines, Cond.instanceMethod yX8_findLines, Cond.selects RX8 yX8_findLines yX8_findLines, Cond.code yX8_findLines cX8_findLines 6 none, Cond.fieldLink RX8 192 "InkPadModel" "lines" "I", Cond.methodLink RX8 195 yX8_bound, Cond.instanceMethod yX8_bound, Cond.selects RX8 yX8_bound yX8_bound, Cond.code yX8_bound cX8_bound 7 (some .int), Cond.methodLink RX8 199 yX8_mayJoin, Cond.instanceMethod yX8_mayJoin, Cond.selects RX8 yX8_mayJoin yX8_mayJoin, Cond.code yX8_mayJoin cX8_mayJoin 7 (some .boolean), Cond.methodLink RX8 188 yX8_shared, Cond.instanceMethod yX8_shared, Cond.selects RX8 yX8_shared yX8_shared, Cond.code yX8_shared cX8_shared 6 (some .int), Cond.methodLink RX8 202 yX8_isAbove, Cond.instanceMethod yX8_isAbove, Cond.selects RX8 yX8_isAbove yX8_isAbove]
def wsL_law_r27 : List Cond := [Cond.code yX8_isAbove cX8_isAbove 3 (some .boolean), Cond.methodLink RX8 214 yX8_placeOf, Cond.instanceMethod yX8_placeOf, Cond.selects RX8 yX8_placeOf yX8_placeOf, Cond.code yX8_placeOf cX8_placeOf 4 (some .int), Cond.methodLink RX8 208 yX8_isBefore, Cond.instanceMethod yX8_isBefore, Cond.selects RX8 yX8_isBefore yX8_isBefore, Cond.code yX8_isBefore cX8_isBefore 5 (some .boolean), Cond.methodLink RX8 205 yX8_lineOf, Cond.instanceMethod yX8_lineOf, Cond.selects RX8 yX8_lineOf yX8_lineOf, Cond.code yX8_lineOf cX8_lineOf 2 (some .int), Cond.methodLink RX8 223 yX8_longOf, Cond.instanceMethod yX8_longOf, Cond.selects RX8 yX8_longOf yX8_longOf, Cond.code yX8_longOf cX8_longOf 4 (some .int), Cond.methodLink RX8 185 yX8_root, Cond.static yX8_root, Cond.code yX8_root cX8_root 3 (some .int), Cond.methodLink RL 82 yX7_point, Cond.instanceMethod yX7_point, Cond.selects RX7 yX7_point yX7_point, Cond.code yX7_point cX7_point 4 (some .int)]
def wsL_law_r28 : List Cond := [Cond.methodLink RL 85 yX8_point, Cond.instanceMethod yX8_point, Cond.selects RX8 yX8_point yX8_point, Cond.code yX8_point cX8_point 4 (some .int), Cond.methodLink RL 86 yX7_read, Cond.instanceMethod yX7_read, Cond.selects RX7 yX7_read yX7_read, Cond.code yX7_read cX7_read 2 (some .int), Cond.fieldLink RX7 209 "InkPad$Words" "order" "[I", Cond.methodLink RL 89 yX8_read, Cond.instanceMethod yX8_read, Cond.selects RX8 yX8_read yX8_read, Cond.code yX8_read cX8_read 2 (some .int), Cond.methodLink RL 90 yX7_line, Cond.instanceMethod yX7_line, Cond.selects RX7 yX7_line yX7_line, Cond.code yX7_line cX7_line 3 (some .int), Cond.fieldLink RX7 212 "InkPad$Lines" "number" "I", Cond.fieldLink RX7 215 "InkPad$Lines" "tops" "[I", Cond.fieldLink RX7 218 "InkPad$Lines" "bottoms" "[I", Cond.fieldLink RX7 221 "InkPad$Lines" "sizes" "[I", Cond.fieldLink RX7 224 "InkPad$Words" "wordsIn" "[I", Cond.fieldLink RX7 227 "InkPad$Words" "firstIn" "[I", Cond.methodLink RL 93 yX8_line]
def wsL_law_r29 : List Cond := [Cond.instanceMethod yX8_line, Cond.selects RX8 yX8_line yX8_line, Cond.code yX8_line cX8_line 8 (some .int), Cond.methodLink RL 94 yX7_word, Cond.instanceMethod yX7_word, Cond.selects RX7 yX7_word yX7_word, Cond.code yX7_word cX7_word 3 (some .int), Cond.fieldLink RX7 230 "InkPad$Words" "number" "I", Cond.fieldLink RX7 231 "InkPad$Words" "lines" "[I", Cond.fieldLink RX7 233 "InkPad$Words" "sizes" "[I", Cond.fieldLink RX7 234 "InkPad$Words" "lefts" "[I", Cond.fieldLink RX7 237 "InkPad$Words" "rights" "[I", Cond.fieldLink RX7 240 "InkPad$Words" "firsts" "[I", Cond.methodLink RL 97 yX8_word, Cond.instanceMethod yX8_word, Cond.selects RX8 yX8_word yX8_word, Cond.code yX8_word cX8_word 8 (some .int), Cond.methodLink RL 98 yX7_setGap, Cond.instanceMethod yX7_setGap, Cond.selects RX7 yX7_setGap yX7_setGap, Cond.code yX7_setGap cX7_setGap 3 (some .int), Cond.methodLink RL 101 yX8_setGap, Cond.instanceMethod yX8_setGap, Cond.selects RX8 yX8_setGap yX8_setGap]
def wsL_law_r30 : List Cond := [Cond.code yX8_setGap cX8_setGap 3 (some .int), Cond.methodLink RL 102 yX7_nearest, Cond.instanceMethod yX7_nearest, Cond.selects RX7 yX7_nearest yX7_nearest, Cond.code yX7_nearest cX7_nearest 8 (some .int), Cond.methodLink RL 105 yX8_nearest, Cond.instanceMethod yX8_nearest, Cond.selects RX8 yX8_nearest yX8_nearest, Cond.code yX8_nearest cX8_nearest 8 (some .int), Cond.methodLink RL 106 yX7_cell, Cond.instanceMethod yX7_cell, Cond.selects RX7 yX7_cell yX7_cell, Cond.code yX7_cell cX7_cell 7 (some .int), Cond.methodLink RX7 243 yX7_cellOf, Cond.static yX7_cellOf, Cond.code yX7_cellOf cX7_cellOf 2 (some .int), Cond.methodLink RL 109 yX8_cell, Cond.instanceMethod yX8_cell, Cond.selects RX8 yX8_cell yX8_cell, Cond.code yX8_cell cX8_cell 3 (some .int), Cond.methodLink RX8 226 yX8_ink, Cond.instanceMethod yX8_ink, Cond.selects RX8 yX8_ink yX8_ink, Cond.code yX8_ink cX8_ink 4 none]
def wsL_law_r31 : List Cond := [Cond.methodLink RL 110 yX7_color, Cond.instanceMethod yX7_color, Cond.selects RX7 yX7_color yX7_color, Cond.code yX7_color cX7_color 3 (some .int), Cond.fieldLink RX7 256 "InkPad$Tally" "cells" "I", Cond.methodLink RX7 246 yX2_strokesOf, Cond.instanceMethod yX2_strokesOf, Cond.selects RX2 yX2_strokesOf yX2_strokesOf, Cond.code yX2_strokesOf cX2_strokesOf 4 (some .int), Cond.methodLink RX2 77 yX2_isOf, Cond.instanceMethod yX2_isOf, Cond.selects RX2 yX2_isOf yX2_isOf, Cond.code yX2_isOf cX2_isOf 3 (some .boolean), Cond.methodLink RX2 74 yX2_colorOf, Cond.methodLink RX7 249 yX2_pointsOf, Cond.instanceMethod yX2_pointsOf, Cond.selects RX2 yX2_pointsOf yX2_pointsOf, Cond.code yX2_pointsOf cX2_pointsOf 4 (some .int), Cond.methodLink RX7 252 yX2_lengthsOf, Cond.instanceMethod yX2_lengthsOf, Cond.selects RX2 yX2_lengthsOf yX2_lengthsOf, Cond.code yX2_lengthsOf cX2_lengthsOf 4 (some .int), Cond.methodLink RX2 81 yX2_length, Cond.methodLink RX7 255 yX3_take]
def wsL_law_r32 : List Cond := [Cond.instanceMethod yX3_take, Cond.selects RX3 yX3_take yX3_take, Cond.code yX3_take cX3_take 5 none, Cond.fieldLink RX3 16 "InkPad$Tally" "cells" "I", Cond.fieldLink RX3 20 "InkPad$Tally" "most" "I", Cond.fieldLink RX3 23 "InkPad$Sheet" "strokes" "I", Cond.methodLink RX3 28 yX2_isOf, Cond.methodLink RX3 32 yX2_size, Cond.methodLink RX3 36 yX2_x, Cond.methodLink RX3 40 yX2_y, Cond.methodLink RX3 48 yX3_add, Cond.instanceMethod yX3_add, Cond.selects RX3 yX3_add yX3_add, Cond.code yX3_add cX3_add 4 none, Cond.methodLink RX3 52 Lib.Math.max.name, Cond.methodLink RL 113 yX8_color, Cond.instanceMethod yX8_color, Cond.selects RX8 yX8_color yX8_color, Cond.code yX8_color cX8_color 5 (some .int), Cond.methodLink RX8 229 yX8_inkedCells, Cond.instanceMethod yX8_inkedCells, Cond.selects RX8 yX8_inkedCells yX8_inkedCells, Cond.code yX8_inkedCells cX8_inkedCells 3 (some .int), Cond.methodLink RL 114 yX7_count]
def wsL_law_r33 : List Cond := [Cond.instanceMethod yX7_count, Cond.selects RX7 yX7_count yX7_count, Cond.code yX7_count cX7_count 2 (some .int), Cond.fieldLink RX7 259 "InkPad$Tally" "most" "I", Cond.methodLink RL 117 yX8_count, Cond.instanceMethod yX8_count, Cond.selects RX8 yX8_count yX8_count, Cond.code yX8_count cX8_count 5 (some .int), Cond.methodLink RX8 232 yX8_fullest, Cond.instanceMethod yX8_fullest, Cond.selects RX8 yX8_fullest yX8_fullest, Cond.code yX8_fullest cX8_fullest 3 (some .int)]
def wsL_law : List Cond := (wsL_law_r1 ++ (wsL_law_r2 ++ (wsL_law_r3 ++ (wsL_law_r4 ++ (wsL_law_r5 ++ (wsL_law_r6 ++ (wsL_law_r7 ++ (wsL_law_r8 ++ (wsL_law_r9 ++ (wsL_law_r10 ++ (wsL_law_r11 ++ (wsL_law_r12 ++ (wsL_law_r13 ++ (wsL_law_r14 ++ (wsL_law_r15 ++ (wsL_law_r16 ++ (wsL_law_r17 ++ (wsL_law_r18 ++ (wsL_law_r19 ++ (wsL_law_r20 ++ (wsL_law_r21 ++ (wsL_law_r22 ++ (wsL_law_r23 ++ (wsL_law_r24 ++ (wsL_law_r25 ++ (wsL_law_r26 ++ (wsL_law_r27 ++ (wsL_law_r28 ++ (wsL_law_r29 ++ (wsL_law_r30 ++ (wsL_law_r31 ++ (wsL_law_r32 ++ wsL_law_r33)))))))))))))))))))))))))))))))) ++ wsX70 ++ wsX80 ++ wsX50 ++ wsX40 ++ wsX20 ++ wsX00 ++ wsX10 ++ wsX60 ++ wsX30 ++ ([] : List Cond)
abbrev vwCl : List vw_C := [(RX0, TX0, 5), (RX1, TX1, 8), (RX2, TX2, 2), (RX3, TX3, 4), (RX4, TX4, 2), (RX5, TX5, 3), (RX6, TX6, 12), (RX7, TX7, 10), (RX8, TX8, 31)]

def allD (b : ByteArray) (t : List (Nat × Instr × Nat)) : Bool := t.all (fun q => decide (decode b q.1 = .ok q.2))
theorem allD_get {b : ByteArray} {t : List (Nat × Instr × Nat)} (h : allD b t = true) (k : Nat) {pc len : Nat} {ins : Instr} (hk : t[k]? = some (pc, ins, len)) : decode b pc = .ok (ins, len) := by
  have h1 := List.all_eq_true.mp h _ (List.mem_of_getElem? hk)
  exact of_decide_eq_true h1
end
section
/-! the V layer: the machine at a place, its world and its variables as lists; ints by their mathematical values -/
section VKIT
def iI (z : Int) : Int32 := Int32.ofInt z
def IR (z : Int) : Prop := -2147483648 ≤ z ∧ z < 2147483648
def bI (b : Bool) : Int := cond b 1 0
theorem IR_bI (b : Bool) : IR (bI b) := by cases b <;> exact ⟨by decide, by decide⟩
theorem bI_0 {b : Bool} (h : bI b = 0) : b = false := by cases b with | false => rfl | true => exact absurd h (by decide)
theorem bI_1 {b : Bool} (h : bI b ≠ 0) : b = true := by cases b with | true => rfl | false => exact absurd rfl h
theorem iI_bm {z : Int} (h : IR z) : z.bmod (2 ^ 32) = z := by
  have h1 := h.1
  have h2 := h.2
  rw [Int.bmod_eq_of_le (by omega) (by omega)]
theorem iI_T {z : Int} (h : IR z) : (iI z).toInt = z := by
  unfold iI
  rw [Int32.toInt_ofInt]
  exact iI_bm h
theorem iI_of (x : Int32) : iI x.toInt = x := Int32.ofInt_toInt x
theorem IR_of (x : Int32) : IR x.toInt := by
  have h1 := Int32.le_toInt x
  have h2 := Int32.toInt_lt x
  unfold IR
  omega
theorem iI_add (a b : Int) : iI a + iI b = iI (a + b) := (Int32.ofInt_add a b).symm
theorem iI_sub (a b : Int) : iI a - iI b = iI (a - b) := (Int32.ofInt_sub a b).symm
theorem iI_mul (a b : Int) : iI a * iI b = iI (a * b) := (Int32.ofInt_mul a b).symm
theorem iI_eq {a b : Int} (ha : IR a) (hb : IR b) : iI a = iI b ↔ a = b := by rw [← Int32.toInt_inj, iI_T ha, iI_T hb]
theorem iI_lt {a b : Int} (ha : IR a) (hb : IR b) : iI a < iI b ↔ a < b := by rw [Int32.lt_iff_toInt_lt, iI_T ha, iI_T hb]
theorem iI_le {a b : Int} (ha : IR a) (hb : IR b) : iI a ≤ iI b ↔ a ≤ b := by rw [Int32.le_iff_toInt_le, iI_T ha, iI_T hb]
theorem iI_N {k : Nat} (h : k < 2147483648) : iI (k : Int) = nI k := by
  apply Int32.toInt_inj.mp
  rw [iI_T ⟨by omega, by omega⟩, nI_toInt h]
theorem iI_cl {k : Nat} (h : k < 2147483648) : (iI (k : Int)).toNatClampNeg = k := by rw [iI_N h, nI_clamp h]
theorem iI_in {k n : Nat} (h : k < n) (hn : n < 2147483648) : vp_in (iI (k : Int)) n := by rw [iI_N (by omega)]; exact vp_in_nI h hn
theorem iI_nn {k : Nat} (h : k < 2147483648) : ¬ iI (k : Int) < 0 := by rw [iI_N h]; exact nI_pos h
theorem iI_ne0 {y : Int} (hy : 0 < y) (hy2 : y < 2147483648) : ¬ iI y = 0 := by
  intro h
  have h2 : iI y = iI 0 := h
  rw [iI_eq ⟨by omega, hy2⟩ ⟨by decide, by decide⟩] at h2
  omega
theorem iI_div {x y : Int} (hx : 0 ≤ x) (hx2 : x < 2147483648) (hy : 0 < y) (hy2 : y < 2147483648) : iI x / iI y = iI (x / y) := by
  obtain ⟨a, rfl⟩ : ∃ a : Nat, x = (a : Int) := ⟨x.toNat, by omega⟩
  obtain ⟨b, rfl⟩ : ∃ b : Nat, y = (b : Int) := ⟨y.toNat, by omega⟩
  have hlt : a / b < 2147483648 := Nat.lt_of_le_of_lt (Nat.div_le_self a b) (by omega)
  rw [iI_N (by omega), iI_N (by omega), pk_div (by omega) (by omega) (by omega), ← Int.natCast_ediv, iI_N hlt]
theorem iI_bv {k : Nat} (h : k < 2147483648) : (iI (k : Int)).toBitVec.toNat = k := by rw [iI_N h]; exact pk_tn (by omega)
theorem iI_mask {x : Int} {y : Int32} (j : Nat) (hx : 0 ≤ x) (hx2 : x < 2147483648) (hm : y.toBitVec.toNat = 2 ^ j - 1) : iI x &&& y = iI (x % (2 : Int) ^ j) := by
  obtain ⟨a, rfl⟩ : ∃ a : Nat, x = (a : Int) := ⟨x.toNat, by omega⟩
  have hlt : a % 2 ^ j < 2147483648 := Nat.lt_of_le_of_lt (Nat.mod_le a _) (by omega)
  rw [pk_and _ j hm, iI_bv (by omega), ← iI_N hlt]
  congr 1
theorem iI_shr1 {x : Int} (hx : 0 ≤ x) (hx2 : x < 2147483648) : iI x >>> (iI 1 &&& 31) = iI (x / 2) := by
  obtain ⟨a, rfl⟩ : ∃ a : Nat, x = (a : Int) := ⟨x.toNat, by omega⟩
  have hlt : a / 2 < 2147483648 := by omega
  rw [iI_N (by omega), pk_shrN (by omega) _ 1 (by decide), ← iI_N (by omega)]
  congr 1
theorem iI_max {x y : Int} (hx : IR x) (hy : IR y) : (if iI x < iI y then iI y else iI x) = iI (max x y) := by
  have h := iI_lt hx hy
  by_cases q : x < y
  · rw [if_pos (h.mpr q)]; congr 1; omega
  · rw [if_neg (fun z => q (h.mp z))]; congr 1; omega
theorem iI_min {x y : Int} (hx : IR x) (hy : IR y) : (if iI y < iI x then iI y else iI x) = iI (min x y) := by
  have h := iI_lt hy hx
  by_cases q : y < x
  · rw [if_pos (h.mpr q)]; congr 1; omega
  · rw [if_neg (fun z => q (h.mp z))]; congr 1; omega
theorem iI_char {x : Int} (hx : 0 ≤ x) (hx2 : x < 65536) : vp_nar .char (iI x) = iI x := by
  obtain ⟨a, rfl⟩ : ∃ a : Nat, x = (a : Int) := ⟨x.toNat, by omega⟩
  rw [iI_N (by omega)]
  have h := (pk_charN (q := a) (by omega)).1
  unfold vp_nar
  rw [h]
/-- a row of ints (or signs) as a cell -/
def IA (k : ClassId) (n : Nat) (F : Nat → Int) : va_E := .inl (k, n, .inl (fun j => iI (F j)))
def upz (F : Nat → Int) (j : Nat) (x : Int) : Nat → Int := fun i => if i = j then x else F i
def cpz (F G : Nat → Int) (sp dp n : Nat) : Nat → Int := fun k => if dp ≤ k ∧ k < dp + n then F (sp + (k - dp)) else G k
theorem upz_s {F : Nat → Int} {j : Nat} {x : Int} : upz F j x j = x := if_pos rfl
theorem upz_n {F : Nat → Int} {i j : Nat} {x : Int} (h : i ≠ j) : upz F j x i = F i := if_neg h
theorem upd_upz (F : Nat → Int) (j : Nat) (x : Int) : upd (fun i => iI (F i)) j (iI x) = fun i => iI (upz F j x i) := by
  funext i
  unfold upz
  by_cases h : i = j
  · subst h; rw [pk_us, if_pos rfl]
  · rw [pk_un h, if_neg h]
theorem cpy_cpz (F G : Nat → Int) (sp dp n : Nat) : va_cpy (fun i => iI (F i)) (fun i => iI (G i)) sp dp n = fun i => iI (cpz F G sp dp n i) := by
  funext i
  unfold va_cpy cpz
  by_cases h : dp ≤ i ∧ i < dp + n
  · rw [if_pos h, if_pos h]
  · rw [if_neg h, if_neg h]
/-- the variables -/
def Lh (ls : Array Slot) (nL : Nat) (lv : List (Option Value)) : Prop := ls.size = nL ∧ lv_wf ls ∧ ∀ (i : Nat) (v : Value), lv[i]? = some (some v) → ls[i]? = some (.val v) ∧ v.category = 1
def lvl (lv : List (Option Value)) : List (Nat × Value) := (List.range lv.length).filterMap (fun j => match lv[j]? with
  | some (some v) => some (j, v)
  | _ => none)
theorem lvl_mem {lv : List (Option Value)} {q : Nat × Value} : q ∈ lvl lv ↔ lv[q.1]? = some (some q.2) := by
  unfold lvl
  rw [List.mem_filterMap]
  constructor
  · rintro ⟨j, -, hj⟩
    split at hj
    · next v hv => cases hj; exact hv
    · cases hj
  · intro h
    refine ⟨q.1, List.mem_range.mpr (List.getElem?_eq_some_iff.mp h).1, ?_⟩
    rw [h]
theorem Lh_has {ls : Array Slot} {nL : Nat} {lv : List (Option Value)} (h : Lh ls nL lv) : lv_has ls nL (lvl lv) := ⟨h.1, h.2.1, fun q hq => (h.2.2 _ _ (lvl_mem.mp hq)).1⟩
theorem Lh_idx {lv : List (Option Value)} {i : Nat} {v : Value} (h : lv[i]? = some (some v)) : ∃ j : Nat, (lvl lv)[j]? = some (i, v) := List.getElem?_of_mem (lvl_mem.mpr h)
theorem Lh_set {ls ls1 : Array Slot} {nL i : Nat} {v : Value} {lv : List (Option Value)} (h : Lh ls nL lv) (h1 : lv_has ls1 nL ((i, v) :: (lvl lv).filter (fun q => !(q.1 == i) && !(q.1 + 1 == i && q.2.category == 2)))) (hc : v.category = 1) : Lh ls1 nL (lv.set i (some v)) := by
  refine ⟨h1.1, h1.2.1, fun k w hk => ?_⟩
  by_cases e : i = k
  · subst e
    have hlt : i < lv.length := by
      have := (List.getElem?_eq_some_iff.mp hk).1
      rwa [List.length_set] at this
    rw [List.getElem?_set_self hlt] at hk
    cases hk
    exact ⟨h1.2.2 (i, v) List.mem_cons_self, hc⟩
  · rw [List.getElem?_set_ne e] at hk
    have hq := h.2.2 k w hk
    refine ⟨h1.2.2 (k, w) (List.mem_cons_of_mem _ (List.mem_filter.mpr ⟨lvl_mem.mpr hk, ?_⟩)), hq.2⟩
    have e1 : (k == i) = false := by simpa using fun z => e z.symm
    simp [e1, hq.2]
theorem Lh_kill {ls : Array Slot} {nL : Nat} {lv : List (Option Value)} (h : Lh ls nL lv) (i : Nat) : Lh ls nL (lv.set i none) := by
  refine ⟨h.1, h.2.1, fun k w hk => ?_⟩
  by_cases e : i = k
  · subst e
    have hlt : i < lv.length := by
      have := (List.getElem?_eq_some_iff.mp hk).1
      rwa [List.length_set] at this
    rw [List.getElem?_set_self hlt] at hk
    cases hk
  · rw [List.getElem?_set_ne e] at hk
    exact h.2.2 k w hk
theorem lv_args_mem : ∀ (av : List Value) (k : Nat), (∀ v ∈ av, v.category = 1) → ∀ (i : Nat) (v : Value), av[i]? = some v → (k + i, v) ∈ lv_args k av
  | [], k, _, i, v, h => by simp at h
  | a :: av, k, hc, i, v, h => by
    have ha := hc a List.mem_cons_self
    unfold lv_args
    rw [if_neg (by rw [ha]; decide)]
    cases i with
    | zero =>
      rw [List.getElem?_cons_zero] at h
      cases h
      exact List.mem_cons_self
    | succ i =>
      rw [List.getElem?_cons_succ] at h
      have := lv_args_mem av (k + 1) (fun v hv => hc v (List.mem_cons_of_mem _ hv)) i v h
      rw [show k + (i + 1) = k + 1 + i by omega]
      exact List.mem_cons_of_mem _ this
theorem Lh_entry {ls : Array Slot} {nL : Nat} {av : List Value} (hc : ∀ v ∈ av, v.category = 1) (h : lv_has ls nL (lv_args 0 av)) (r : Nat) : Lh ls nL (av.map some ++ List.replicate r none) := by
  refine ⟨h.1, h.2.1, fun i v hi => ?_⟩
  by_cases q : i < (av.map some).length
  · rw [List.getElem?_append_left q, List.getElem?_map] at hi
    cases ha : av[i]? with
    | none => rw [ha] at hi; cases hi
    | some w =>
      rw [ha] at hi
      cases hi
      have := lv_args_mem av 0 hc i v ha
      rw [Nat.zero_add] at this
      exact ⟨h.2.2 _ this, hc v (List.mem_of_getElem? ha)⟩
  · rw [List.getElem?_append_right (by omega)] at hi
    have := List.mem_of_getElem? hi
    rw [List.mem_replicate] at this
    cases this.2
/-- the world behind a call: the callee's cells put back at their places -/
def putW : va_W → List Nat → va_W → va_W
  | ws, i :: is, q :: qs => putW (ws.set i q) is qs
  | ws, _, _ => ws
theorem putW_get : ∀ (is : List Nat) (ws w1 : va_W), w1.length = is.length → va_nd is = true → ∀ (k : Nat) (q : Nat × va_E), (putW ws is w1)[k]? = some q → (∃ j : Nat, is[j]? = some k ∧ w1[j]? = some q) ∨ (k ∉ is ∧ ws[k]? = some q)
  | [], ws, w1, _, _, k, q, h => by
    have e : putW ws [] w1 = ws := by cases w1 <;> rfl
    rw [e] at h
    exact Or.inr ⟨List.not_mem_nil, h⟩
  | i :: is, ws, [], hl, _, _, _, _ => by simp at hl
  | i :: is, ws, p :: ps, hl, hn, k, q, h => by
    simp only [va_nd, Bool.and_eq_true, decide_eq_true_eq] at hn
    rcases putW_get is (ws.set i p) ps (by simpa using hl) hn.2 k q h with ⟨j, h1, h2⟩ | ⟨h1, h2⟩
    · exact Or.inl ⟨j + 1, by simpa using h1, by simpa using h2⟩
    · by_cases e : i = k
      · subst e
        have hlt : i < ws.length := by
          have := (List.getElem?_eq_some_iff.mp h2).1
          rwa [List.length_set] at this
        rw [List.getElem?_set_self hlt] at h2
        exact Or.inl ⟨0, rfl, h2⟩
      · rw [List.getElem?_set_ne e] at h2
        exact Or.inr ⟨fun z => (List.mem_cons.mp z).elim (fun z => e z.symm) h1, h2⟩
theorem putW_same : ∀ (is : List Nat) (ws wc : va_W), is.map (fun i => ws[i]?) = wc.map some → putW ws is wc = ws
  | [], ws, wc, _ => by cases wc <;> rfl
  | i :: is, ws, [], h => by simp at h
  | i :: is, ws, p :: ps, h => by
    simp only [List.map_cons, List.cons.injEq] at h
    have e : ws.set i p = ws := by
      apply List.ext_getElem?
      intro k
      by_cases e : i = k
      · subst e
        rw [List.getElem?_set_self (List.getElem?_eq_some_iff.mp h.1).1, h.1]
      · rw [List.getElem?_set_ne e]
    show putW (ws.set i p) is ps = ws
    rw [e]
    exact putW_same is ws ps h.2
theorem va_put1 {A0 : Nat → Prop} {D : va_G} {cl : List vw_C} {ws wc w1 : va_W} {H H1 : Heap} (hP : va_P D cl ws H) (hD : va_D A0 ws) (is : List Nat) (hC : is.map (fun i => ws[i]?) = wc.map some) (hn : va_nd is = true) (hl : w1.length = is.length)
    (hk : ∀ q : Nat, q < H.size → ¬ va_A wc H.size q → H1[q]? = H[q]?) (hF : ∀ q, va_A wc H.size q → A0 q) (hP1 : va_P D cl w1 H1) (hD1 : va_D (va_A wc H.size) w1) : va_P D cl (putW ws is w1) H1 ∧ va_D A0 (putW ws is w1) := by
  have apart : ∀ (k : Nat) (q : Nat × va_E), k ∉ is → ws[k]? = some q → q.1 < H.size ∧ ¬ va_A wc H.size q.1 := by
    intro k q hk1 hq
    have hlt := (hP k q hq).lt
    refine ⟨hlt, fun h => ?_⟩
    rcases h with ⟨k2, e, h⟩ | h
    · have h1 : (is.map (fun i => ws[i]?))[k2]? = some (some (q.1, e)) := by rw [hC, List.getElem?_map, h]; rfl
      rw [List.getElem?_map] at h1
      cases hi : is[k2]? with
      | none => rw [hi] at h1; cases h1
      | some i =>
        rw [hi] at h1
        have h4 : ws[i]? = some (q.1, e) := Option.some.inj h1
        have hij := hD.1 k i q (q.1, e) hq h4 rfl
        subst hij
        exact hk1 (List.mem_of_getElem? hi)
    · omega
  refine ⟨fun k q hq => ?_, fun i j x y hi hj hxy => ?_, fun k q hq => ?_⟩
  · rcases putW_get is ws w1 hl hn k q hq with ⟨j, _, h2⟩ | ⟨h1, h2⟩
    · exact hP1 j q h2
    · obtain ⟨g1, g2⟩ := apart k q h1 h2
      exact (hP k q h2).kept (hk q.1 g1 g2)
  · rcases putW_get is ws w1 hl hn i x hi with ⟨a, a1, a2⟩ | ⟨a1, a2⟩ <;> rcases putW_get is ws w1 hl hn j y hj with ⟨b, b1, b2⟩ | ⟨b1, b2⟩
    · have := hD1.1 a b x y a2 b2 hxy
      subst this
      rw [a1] at b1
      exact Option.some.inj b1
    · exact absurd (hD1.2 a x a2) (by rw [hxy]; exact (apart j y b1 b2).2)
    · exact absurd (hD1.2 b y b2) (by rw [← hxy]; exact (apart i x a1 a2).2)
    · exact hD.1 i j x y a2 b2 hxy
  · rcases putW_get is ws w1 hl hn k q hq with ⟨j, _, h2⟩ | ⟨h1, h2⟩
    · exact hF _ (hD1.2 j q h2)
    · exact hD.2 k q h2
/-- nest words that the tables say -/
def nwAll : List Cond := [.methodLinkNest RX2 68 yX7_square RX7, .methodLinkNest RX2 71 yX7_root RX7, .methodLinkNest RX3 43 yX7_cellOf RX7, .methodLinkNest RX5 48 yX7_square RX7, .methodLinkNest RX7 11 yX5_init RX7, .methodLinkNest RX7 18 yX4_init RX7, .methodLinkNest RX7 25 yX2_init RX7, .methodLinkNest RX7 38 yX0_init RX7, .methodLinkNest RX7 45 yX1_init RX7, .methodLinkNest RX7 52 yX6_init RX7, .methodLinkNest RX7 59 yX3_init RX7]
theorem nwAll_form : ∀ w ∈ nwAll, ∃ (a : String) (i : Nat) (x : MethodName) (h : String), w = .methodLinkNest a i x h := by
  intro w hw
  simp only [nwAll, List.mem_cons, List.not_mem_nil, or_false] at hw
  rcases hw with rfl | rfl | rfl | rfl | rfl | rfl | rfl | rfl | rfl | rfl | rfl <;> exact ⟨_, _, _, _, rfl⟩
/-- what a method knows of the tables -/
def KK (D : va_G) (kI kC : ClassId) (U : State) : Prop := va_K D vwCl [(kI, .int), (kC, .char)] U ∧ ∀ w ∈ nwAll, va_Nw w U
theorem KK.warm {D : va_G} {kI kC : ClassId} {s U : State} (hW : s.WarmedH U.vm) (h : KK D kI kC s) : KK D kI kC U := by
  refine ⟨va_K.moved hW.alike h.1, fun w hw => ?_⟩
  obtain ⟨a, i, x, q, rfl⟩ := nwAll_form w hw
  exact va_Nw.warmM hW (h.2 _ hw)
theorem KK.call {D : va_G} {kI kC : ClassId} {U : State} (g : JFrame) (mk : MethodId) (a : Array Value) (h : KK D kI kC U) : KK D kI kC (U.calling g mk a) := by
  refine ⟨va_K.moved (u := U) (U := U.calling g mk a) (Vm.Alike.refl U.vm) h.1, fun w hw => ?_⟩
  obtain ⟨a, i, x, q, rfl⟩ := nwAll_form w hw
  exact va_Nw.same rfl rfl (h.2 _ hw)
def FL (Ts : List Cond) (own : String) (index ci j : Nat) (C : String) (T : u_T) (N : Nat) : Prop := (∀ w ∈ u_ws C T N, w ∈ Ts) ∧ Cond.fieldLink own index (T j).1 (T j).2.1 (T j).2.2.1 ∈ Ts ∧ j < N ∧ vwCl[ci]? = some (C, T, N)
def FP (N : Nat) (T : u_T) (ty0 : Nat → FieldType) : Prop := (∀ k, k < N → parseFieldDescriptor (T k).2.2.1 = some (ty0 k)) ∧ (∀ a, a < N → ∀ b, b < N → a ≠ b → (T a).2.1 ≠ (T b).2.1)
def MC (Ts : List Cond) (own : String) (index : Nat) : Prop := Cond.methodLink own index arraycopyName ∈ Ts ∧ Cond.native arraycopyName ∈ Ts ∧ Cond.static arraycopyName ∈ Ts ∧ Cond.initialized "java/lang/System" ∈ Ts
def MM_max (Ts : List Cond) (own : String) (index : Nat) : Prop := Cond.methodLink own index Lib.Math.max.name ∈ Ts ∧ Cond.static Lib.Math.max.name ∈ Ts ∧ Cond.initialized "java/lang/Math" ∈ Ts ∧ Cond.code Lib.Math.max.name Lib.Math.max.code 2 (some .int) ∈ Ts
def MM_min (Ts : List Cond) (own : String) (index : Nat) : Prop := Cond.methodLink own index Lib.Math.min.name ∈ Ts ∧ Cond.static Lib.Math.min.name ∈ Ts ∧ Cond.initialized "java/lang/Math" ∈ Ts ∧ Cond.code Lib.Math.min.name Lib.Math.min.code 2 (some .int) ∈ Ts
def Cx (p : Program) (R : Room) (s : State) (m : MethodId) (args : Array Value) (meth : Method) (c : Code) (cc : ByteArray) (nL : Nat) (own : String) (Ts : List Cond) (A : Nat → Prop) (D : va_G) (kI kC : ClassId) : Prop :=
  p.tables.exec = Jvm.exec ∧ c.code = cc ∧ c.maxLocals = nL ∧ s.vm.findClass own = some m.cls ∧ (∀ w ∈ Ts, w.before args s = true) ∧ va_K D vwCl [(kI, .int), (kC, .char)] s ∧ (∀ w ∈ nwAll, va_Nw w s) ∧ (∀ q, s.heap.size ≤ q → A q) ∧ meth.locks = false ∧ R = R
def VV (p : Program) (l : Launch) (e : Env) (R : Room) (s : State) (m : MethodId) (args : Array Value) (below : List Frame) (meth : Method) (c : Code) (nL : Nat) (A : Nat → Prop) (D : va_G) (Q : State → Prop) (cells slots pc : Nat) (lv : List (Option Value)) (st : List Value) (ws : va_W) : Prop :=
  ∀ (H : Heap) (locs : List Loc) (ls : Array Slot), va_P D vwCl ws H → va_D A ws → va_S A s.heap H locs → Lh ls nL lv → W p l e R s m args below meth c H locs cells slots Q (F0 m pc ls st)
variable {p : Program} {l : Launch} {e : Env} {R : Room} {s : State} {m : MethodId} {args : Array Value} {below : List Frame} {meth : Method} {c : Code} {cc : ByteArray} {nL : Nat} {own : String} {Ts : List Cond} {A : Nat → Prop} {D : va_G} {kI kC : ClassId} {Q : State → Prop} {cells slots pc : Nat} {lv : List (Option Value)} {st : List Value} {ws : va_W}
theorem V_iconst (X : Cx p R s m args meth c cc nL own Ts A D kI kC) {n : Int} (hdg : decode cc pc = .ok (.iconst n, 1)) (k : VV p l e R s m args below meth c nL A D Q cells slots (pc + 1) lv (.int (iI n) :: st) ws) : VV p l e R s m args below meth c nL A D Q cells slots pc lv st ws := by
  intro H locs ls hP hD hS hl
  refine lv_iconst (v := iI n) X.1 X.2.1 hdg rfl ?_
  exact k H locs ls hP hD hS hl
theorem V_bipush (X : Cx p R s m args meth c cc nL own Ts A D kI kC) {n : Int} (hdg : decode cc pc = .ok (.bipush n, 2)) (hv : (Int8.ofInt n).toInt32 = iI n) (k : VV p l e R s m args below meth c nL A D Q cells slots (pc + 2) lv (.int (iI n) :: st) ws) : VV p l e R s m args below meth c nL A D Q cells slots pc lv st ws := by
  intro H locs ls hP hD hS hl
  refine lv_bipush (v := iI n) X.1 X.2.1 hdg hv ?_
  exact k H locs ls hP hD hS hl
theorem V_sipush (X : Cx p R s m args meth c cc nL own Ts A D kI kC) {n : Int} (hdg : decode cc pc = .ok (.sipush n, 3)) (hv : (Int16.ofInt n).toInt32 = iI n) (k : VV p l e R s m args below meth c nL A D Q cells slots (pc + 3) lv (.int (iI n) :: st) ws) : VV p l e R s m args below meth c nL A D Q cells slots pc lv st ws := by
  intro H locs ls hP hD hS hl
  refine lv_sipush (v := iI n) X.1 X.2.1 hdg hv ?_
  exact k H locs ls hP hD hS hl
theorem V_iload_n (X : Cx p R s m args meth c cc nL own Ts A D kI kC) {i : Fin 4} {x : Int32} (j : Nat) (hij : (i : Nat) = j) (hdg : decode cc pc = .ok (.iload_n i, 1)) (hv : lv[j]? = some (some (.int x))) (k : VV p l e R s m args below meth c nL A D Q cells slots (pc + 1) lv (.int x :: st) ws) : VV p l e R s m args below meth c nL A D Q cells slots pc lv st ws := by
  intro H locs ls hP hD hS hl
  refine lv_iload_n X.1 X.2.1 hdg hij (hl.2.2 _ _ hv).1 ?_
  exact k H locs ls hP hD hS hl
theorem V_iload (X : Cx p R s m args meth c cc nL own Ts A D kI kC) {i : Nat} {x : Int32} (hdg : decode cc pc = .ok (.iload i, 2)) (hv : lv[i]? = some (some (.int x))) (k : VV p l e R s m args below meth c nL A D Q cells slots (pc + 2) lv (.int x :: st) ws) : VV p l e R s m args below meth c nL A D Q cells slots pc lv st ws := by
  intro H locs ls hP hD hS hl
  refine lv_iload X.1 X.2.1 hdg (hl.2.2 _ _ hv).1 ?_
  exact k H locs ls hP hD hS hl
theorem V_aload_n (X : Cx p R s m args meth c cc nL own Ts A D kI kC) {i : Fin 4} {x : Nat} (j : Nat) (hij : (i : Nat) = j) (hdg : decode cc pc = .ok (.aload_n i, 1)) (hv : lv[j]? = some (some (.ref x))) (k : VV p l e R s m args below meth c nL A D Q cells slots (pc + 1) lv (.ref x :: st) ws) : VV p l e R s m args below meth c nL A D Q cells slots pc lv st ws := by
  intro H locs ls hP hD hS hl
  refine lv_aload_n X.1 X.2.1 hdg hij (hl.2.2 _ _ hv).1 ?_
  exact k H locs ls hP hD hS hl
theorem V_aload (X : Cx p R s m args meth c cc nL own Ts A D kI kC) {i : Nat} {x : Nat} (hdg : decode cc pc = .ok (.aload i, 2)) (hv : lv[i]? = some (some (.ref x))) (k : VV p l e R s m args below meth c nL A D Q cells slots (pc + 2) lv (.ref x :: st) ws) : VV p l e R s m args below meth c nL A D Q cells slots pc lv st ws := by
  intro H locs ls hP hD hS hl
  refine lv_aload X.1 X.2.1 hdg (hl.2.2 _ _ hv).1 ?_
  exact k H locs ls hP hD hS hl
theorem V_istore_n (X : Cx p R s m args meth c cc nL own Ts A D kI kC) {i : Fin 4} {x : Int32} (j : Nat) (hij : (i : Nat) = j) (hdg : decode cc pc = .ok (.istore_n i, 1)) (hi : j < nL) (k : VV p l e R s m args below meth c nL A D Q cells slots (pc + 1) (lv.set j (some (.int x))) st ws) : VV p l e R s m args below meth c nL A D Q cells slots pc lv (.int x :: st) ws := by
  intro H locs ls hP hD hS hl
  refine lv_istore_n X.1 X.2.1 hdg hij (Lh_has hl) hi rfl (fun ls1 h1 => ?_)
  exact k H locs ls1 hP hD hS (Lh_set hl h1 rfl)
theorem V_istore (X : Cx p R s m args meth c cc nL own Ts A D kI kC) {i : Nat} {x : Int32} (hdg : decode cc pc = .ok (.istore i, 2)) (hi : i < nL) (k : VV p l e R s m args below meth c nL A D Q cells slots (pc + 2) (lv.set i (some (.int x))) st ws) : VV p l e R s m args below meth c nL A D Q cells slots pc lv (.int x :: st) ws := by
  intro H locs ls hP hD hS hl
  refine lv_istore X.1 X.2.1 hdg (Lh_has hl) hi rfl (fun ls1 h1 => ?_)
  exact k H locs ls1 hP hD hS (Lh_set hl h1 rfl)
theorem V_astore_n (X : Cx p R s m args meth c cc nL own Ts A D kI kC) {i : Fin 4} {x : Nat} (j : Nat) (hij : (i : Nat) = j) (hdg : decode cc pc = .ok (.astore_n i, 1)) (hi : j < nL) (k : VV p l e R s m args below meth c nL A D Q cells slots (pc + 1) (lv.set j (some (.ref x))) st ws) : VV p l e R s m args below meth c nL A D Q cells slots pc lv (.ref x :: st) ws := by
  intro H locs ls hP hD hS hl
  refine lv_astore_n X.1 X.2.1 hdg hij (Lh_has hl) hi rfl (fun ls1 h1 => ?_)
  exact k H locs ls1 hP hD hS (Lh_set hl h1 rfl)
theorem V_astore (X : Cx p R s m args meth c cc nL own Ts A D kI kC) {i : Nat} {x : Nat} (hdg : decode cc pc = .ok (.astore i, 2)) (hi : i < nL) (k : VV p l e R s m args below meth c nL A D Q cells slots (pc + 2) (lv.set i (some (.ref x))) st ws) : VV p l e R s m args below meth c nL A D Q cells slots pc lv (.ref x :: st) ws := by
  intro H locs ls hP hD hS hl
  refine lv_astore X.1 X.2.1 hdg (Lh_has hl) hi rfl (fun ls1 h1 => ?_)
  exact k H locs ls1 hP hD hS (Lh_set hl h1 rfl)
theorem V_iinc (X : Cx p R s m args meth c cc nL own Ts A D kI kC) {i : Nat} {n : Int} {x : Int} (hdg : decode cc pc = .ok (.iinc i n, 3)) (hv : lv[i]? = some (some (.int (iI x)))) (hi : i < nL) (k : VV p l e R s m args below meth c nL A D Q cells slots (pc + 3) (lv.set i (some (.int (iI (x + n))))) st ws) : VV p l e R s m args below meth c nL A D Q cells slots pc lv st ws := by
  intro H locs ls hP hD hS hl
  obtain ⟨j, hj⟩ := Lh_idx hv
  refine lv_iinc (k := j) (v := iI (x + n)) X.1 X.2.1 hdg (Lh_has hl) hj (iI_add x n) hi rfl (fun ls1 h1 => ?_)
  exact k H locs ls1 hP hD hS (Lh_set hl h1 rfl)
theorem V_kill (i : Nat) (k : VV p l e R s m args below meth c nL A D Q cells slots pc (lv.set i none) st ws) : VV p l e R s m args below meth c nL A D Q cells slots pc lv st ws := by
  intro H locs ls hP hD hS hl
  exact k H locs ls hP hD hS (Lh_kill hl i)
theorem V_iadd (X : Cx p R s m args meth c cc nL own Ts A D kI kC) {x y : Int} (hdg : decode cc pc = .ok (.iadd, 1)) (k : VV p l e R s m args below meth c nL A D Q cells slots (pc + 1) lv (.int (iI (x + y)) :: st) ws) : VV p l e R s m args below meth c nL A D Q cells slots pc lv (.int (iI y) :: .int (iI x) :: st) ws := by
  intro H locs ls hP hD hS hl
  refine lv_iadd X.1 X.2.1 hdg ?_
  rw [iI_add]
  exact k H locs ls hP hD hS hl
theorem V_isub (X : Cx p R s m args meth c cc nL own Ts A D kI kC) {x y : Int} (hdg : decode cc pc = .ok (.isub, 1)) (k : VV p l e R s m args below meth c nL A D Q cells slots (pc + 1) lv (.int (iI (x - y)) :: st) ws) : VV p l e R s m args below meth c nL A D Q cells slots pc lv (.int (iI y) :: .int (iI x) :: st) ws := by
  intro H locs ls hP hD hS hl
  refine lv_isub X.1 X.2.1 hdg ?_
  rw [iI_sub]
  exact k H locs ls hP hD hS hl
theorem V_imul (X : Cx p R s m args meth c cc nL own Ts A D kI kC) {x y : Int} (hdg : decode cc pc = .ok (.imul, 1)) (k : VV p l e R s m args below meth c nL A D Q cells slots (pc + 1) lv (.int (iI (x * y)) :: st) ws) : VV p l e R s m args below meth c nL A D Q cells slots pc lv (.int (iI y) :: .int (iI x) :: st) ws := by
  intro H locs ls hP hD hS hl
  refine lv_imul X.1 X.2.1 hdg ?_
  rw [iI_mul]
  exact k H locs ls hP hD hS hl
theorem V_idiv (X : Cx p R s m args meth c cc nL own Ts A D kI kC) {x y : Int} (hdg : decode cc pc = .ok (.idiv, 1)) (hx : 0 ≤ x) (hx2 : x < 2147483648) (hy : 0 < y) (hy2 : y < 2147483648) (k : VV p l e R s m args below meth c nL A D Q cells slots (pc + 1) lv (.int (iI (x / y)) :: st) ws) : VV p l e R s m args below meth c nL A D Q cells slots pc lv (.int (iI y) :: .int (iI x) :: st) ws := by
  intro H locs ls hP hD hS hl
  refine lv_idiv X.1 X.2.1 hdg (iI_ne0 hy hy2) ?_
  rw [iI_div hx hx2 hy hy2]
  exact k H locs ls hP hD hS hl
theorem V_iandM (X : Cx p R s m args meth c cc nL own Ts A D kI kC) {x : Int} {j : Nat} {y : Int32} (hdg : decode cc pc = .ok (.iand, 1)) (hx : 0 ≤ x) (hx2 : x < 2147483648) (hm : y.toBitVec.toNat = 2 ^ j - 1) (k : VV p l e R s m args below meth c nL A D Q cells slots (pc + 1) lv (.int (iI (x % (2 : Int) ^ j)) :: st) ws) : VV p l e R s m args below meth c nL A D Q cells slots pc lv (.int y :: .int (iI x) :: st) ws := by
  intro H locs ls hP hD hS hl
  refine lv_iand X.1 X.2.1 hdg ?_
  rw [iI_mask j hx hx2 hm]
  exact k H locs ls hP hD hS hl
theorem V_ishr1 (X : Cx p R s m args meth c cc nL own Ts A D kI kC) {x : Int} (hdg : decode cc pc = .ok (.ishr, 1)) (hx : 0 ≤ x) (hx2 : x < 2147483648) (k : VV p l e R s m args below meth c nL A D Q cells slots (pc + 1) lv (.int (iI (x / 2)) :: st) ws) : VV p l e R s m args below meth c nL A D Q cells slots pc lv (.int (iI 1) :: .int (iI x) :: st) ws := by
  intro H locs ls hP hD hS hl
  refine lv_ishr X.1 X.2.1 hdg ?_
  rw [iI_shr1 hx hx2]
  exact k H locs ls hP hD hS hl
theorem V_dup (X : Cx p R s m args meth c cc nL own Ts A D kI kC) {va : Value} (hdg : decode cc pc = .ok (.dup, 1)) (hc : va.category = 1) (k : VV p l e R s m args below meth c nL A D Q cells slots (pc + 1) lv (va :: va :: st) ws) : VV p l e R s m args below meth c nL A D Q cells slots pc lv (va :: st) ws := by
  intro H locs ls hP hD hS hl
  refine lv_dup X.1 X.2.1 hdg hc ?_
  exact k H locs ls hP hD hS hl
theorem V_dup2 (X : Cx p R s m args meth c cc nL own Ts A D kI kC) {va vb : Value} (hdg : decode cc pc = .ok (.dup2, 1)) (hc : va.category = 1) (hc2 : vb.category = 1) (k : VV p l e R s m args below meth c nL A D Q cells slots (pc + 1) lv (va :: vb :: va :: vb :: st) ws) : VV p l e R s m args below meth c nL A D Q cells slots pc lv (va :: vb :: st) ws := by
  intro H locs ls hP hD hS hl
  refine lv_dup2_11 X.1 X.2.1 hdg hc hc2 ?_
  exact k H locs ls hP hD hS hl
theorem V_goto (X : Cx p R s m args meth c cc nL own Ts A D kI kC) {off : Int} (tgt : Nat) (hdg : decode cc pc = .ok (.goto off, 3)) (ht : (pc : Int) + off = (tgt : Int)) (k : VV p l e R s m args below meth c nL A D Q cells slots tgt lv st ws) : VV p l e R s m args below meth c nL A D Q cells slots pc lv st ws := by
  intro H locs ls hP hD hS hl
  refine lv_goto X.1 X.2.1 hdg ht ?_
  exact k H locs ls hP hD hS hl
theorem V_icmp_eq (X : Cx p R s m args meth c cc nL own Ts A D kI kC) {x y off : Int} (tgt : Nat) (hdg : decode cc pc = .ok (.if_icmp .eq off, 3)) (ht : (pc : Int) + off = (tgt : Int)) (hx : IR x) (hy : IR y) (kt : x = y → VV p l e R s m args below meth c nL A D Q cells slots tgt lv st ws) (kf : x ≠ y → VV p l e R s m args below meth c nL A D Q cells slots (pc + 3) lv st ws) : VV p l e R s m args below meth c nL A D Q cells slots pc lv (.int (iI y) :: .int (iI x) :: st) ws := by
  intro H locs ls hP hD hS hl
  refine lv_icmp_eq X.1 X.2.1 hdg ht (fun h => kt (by have q1 := iI_eq hx hy; have q2 := iI_lt hx hy; have q3 := iI_le hx hy; have q4 := iI_lt hy hx; have q5 := iI_le hy hx; simp only [q1, q2, q3, q4, q5] at h; omega) H locs ls hP hD hS hl) (fun h => kf (by have q1 := iI_eq hx hy; have q2 := iI_lt hx hy; have q3 := iI_le hx hy; have q4 := iI_lt hy hx; have q5 := iI_le hy hx; simp only [q1, q2, q3, q4, q5] at h; omega) H locs ls hP hD hS hl)
theorem V_if_eq (X : Cx p R s m args meth c cc nL own Ts A D kI kC) {x off : Int} (tgt : Nat) (hdg : decode cc pc = .ok (.ifCond .eq off, 3)) (ht : (pc : Int) + off = (tgt : Int)) (hx : IR x) (kt : x = 0 → VV p l e R s m args below meth c nL A D Q cells slots tgt lv st ws) (kf : x ≠ 0 → VV p l e R s m args below meth c nL A D Q cells slots (pc + 3) lv st ws) : VV p l e R s m args below meth c nL A D Q cells slots pc lv (.int (iI x) :: st) ws := by
  intro H locs ls hP hD hS hl
  have hy : IR 0 := ⟨by decide, by decide⟩
  have e0 : (0 : Int32) = iI 0 := rfl
  refine lv_if_eq X.1 X.2.1 hdg ht (fun h => kt (by rw [e0] at h; have q1 := iI_eq hx hy; have q2 := iI_lt hx hy; have q3 := iI_le hx hy; have q4 := iI_lt hy hx; have q5 := iI_le hy hx; simp only [q1, q2, q3, q4, q5] at h; omega) H locs ls hP hD hS hl) (fun h => kf (by rw [e0] at h; have q1 := iI_eq hx hy; have q2 := iI_lt hx hy; have q3 := iI_le hx hy; have q4 := iI_lt hy hx; have q5 := iI_le hy hx; simp only [q1, q2, q3, q4, q5] at h; omega) H locs ls hP hD hS hl)
theorem V_icmp_ne (X : Cx p R s m args meth c cc nL own Ts A D kI kC) {x y off : Int} (tgt : Nat) (hdg : decode cc pc = .ok (.if_icmp .ne off, 3)) (ht : (pc : Int) + off = (tgt : Int)) (hx : IR x) (hy : IR y) (kt : x ≠ y → VV p l e R s m args below meth c nL A D Q cells slots tgt lv st ws) (kf : x = y → VV p l e R s m args below meth c nL A D Q cells slots (pc + 3) lv st ws) : VV p l e R s m args below meth c nL A D Q cells slots pc lv (.int (iI y) :: .int (iI x) :: st) ws := by
  intro H locs ls hP hD hS hl
  refine lv_icmp_ne X.1 X.2.1 hdg ht (fun h => kt (by have q1 := iI_eq hx hy; have q2 := iI_lt hx hy; have q3 := iI_le hx hy; have q4 := iI_lt hy hx; have q5 := iI_le hy hx; simp only [q1, q2, q3, q4, q5] at h; omega) H locs ls hP hD hS hl) (fun h => kf (by have q1 := iI_eq hx hy; have q2 := iI_lt hx hy; have q3 := iI_le hx hy; have q4 := iI_lt hy hx; have q5 := iI_le hy hx; simp only [q1, q2, q3, q4, q5] at h; omega) H locs ls hP hD hS hl)
theorem V_if_ne (X : Cx p R s m args meth c cc nL own Ts A D kI kC) {x off : Int} (tgt : Nat) (hdg : decode cc pc = .ok (.ifCond .ne off, 3)) (ht : (pc : Int) + off = (tgt : Int)) (hx : IR x) (kt : x ≠ 0 → VV p l e R s m args below meth c nL A D Q cells slots tgt lv st ws) (kf : x = 0 → VV p l e R s m args below meth c nL A D Q cells slots (pc + 3) lv st ws) : VV p l e R s m args below meth c nL A D Q cells slots pc lv (.int (iI x) :: st) ws := by
  intro H locs ls hP hD hS hl
  have hy : IR 0 := ⟨by decide, by decide⟩
  have e0 : (0 : Int32) = iI 0 := rfl
  refine lv_if_ne X.1 X.2.1 hdg ht (fun h => kt (by rw [e0] at h; have q1 := iI_eq hx hy; have q2 := iI_lt hx hy; have q3 := iI_le hx hy; have q4 := iI_lt hy hx; have q5 := iI_le hy hx; simp only [q1, q2, q3, q4, q5] at h; omega) H locs ls hP hD hS hl) (fun h => kf (by rw [e0] at h; have q1 := iI_eq hx hy; have q2 := iI_lt hx hy; have q3 := iI_le hx hy; have q4 := iI_lt hy hx; have q5 := iI_le hy hx; simp only [q1, q2, q3, q4, q5] at h; omega) H locs ls hP hD hS hl)
theorem V_icmp_lt (X : Cx p R s m args meth c cc nL own Ts A D kI kC) {x y off : Int} (tgt : Nat) (hdg : decode cc pc = .ok (.if_icmp .lt off, 3)) (ht : (pc : Int) + off = (tgt : Int)) (hx : IR x) (hy : IR y) (kt : x < y → VV p l e R s m args below meth c nL A D Q cells slots tgt lv st ws) (kf : y ≤ x → VV p l e R s m args below meth c nL A D Q cells slots (pc + 3) lv st ws) : VV p l e R s m args below meth c nL A D Q cells slots pc lv (.int (iI y) :: .int (iI x) :: st) ws := by
  intro H locs ls hP hD hS hl
  refine lv_icmp_lt X.1 X.2.1 hdg ht (fun h => kt (by have q1 := iI_eq hx hy; have q2 := iI_lt hx hy; have q3 := iI_le hx hy; have q4 := iI_lt hy hx; have q5 := iI_le hy hx; simp only [q1, q2, q3, q4, q5] at h; omega) H locs ls hP hD hS hl) (fun h => kf (by have q1 := iI_eq hx hy; have q2 := iI_lt hx hy; have q3 := iI_le hx hy; have q4 := iI_lt hy hx; have q5 := iI_le hy hx; simp only [q1, q2, q3, q4, q5] at h; omega) H locs ls hP hD hS hl)
theorem V_if_lt (X : Cx p R s m args meth c cc nL own Ts A D kI kC) {x off : Int} (tgt : Nat) (hdg : decode cc pc = .ok (.ifCond .lt off, 3)) (ht : (pc : Int) + off = (tgt : Int)) (hx : IR x) (kt : x < 0 → VV p l e R s m args below meth c nL A D Q cells slots tgt lv st ws) (kf : 0 ≤ x → VV p l e R s m args below meth c nL A D Q cells slots (pc + 3) lv st ws) : VV p l e R s m args below meth c nL A D Q cells slots pc lv (.int (iI x) :: st) ws := by
  intro H locs ls hP hD hS hl
  have hy : IR 0 := ⟨by decide, by decide⟩
  have e0 : (0 : Int32) = iI 0 := rfl
  refine lv_if_lt X.1 X.2.1 hdg ht (fun h => kt (by rw [e0] at h; have q1 := iI_eq hx hy; have q2 := iI_lt hx hy; have q3 := iI_le hx hy; have q4 := iI_lt hy hx; have q5 := iI_le hy hx; simp only [q1, q2, q3, q4, q5] at h; omega) H locs ls hP hD hS hl) (fun h => kf (by rw [e0] at h; have q1 := iI_eq hx hy; have q2 := iI_lt hx hy; have q3 := iI_le hx hy; have q4 := iI_lt hy hx; have q5 := iI_le hy hx; simp only [q1, q2, q3, q4, q5] at h; omega) H locs ls hP hD hS hl)
theorem V_icmp_ge (X : Cx p R s m args meth c cc nL own Ts A D kI kC) {x y off : Int} (tgt : Nat) (hdg : decode cc pc = .ok (.if_icmp .ge off, 3)) (ht : (pc : Int) + off = (tgt : Int)) (hx : IR x) (hy : IR y) (kt : y ≤ x → VV p l e R s m args below meth c nL A D Q cells slots tgt lv st ws) (kf : x < y → VV p l e R s m args below meth c nL A D Q cells slots (pc + 3) lv st ws) : VV p l e R s m args below meth c nL A D Q cells slots pc lv (.int (iI y) :: .int (iI x) :: st) ws := by
  intro H locs ls hP hD hS hl
  refine lv_icmp_ge X.1 X.2.1 hdg ht (fun h => kt (by have q1 := iI_eq hx hy; have q2 := iI_lt hx hy; have q3 := iI_le hx hy; have q4 := iI_lt hy hx; have q5 := iI_le hy hx; simp only [q1, q2, q3, q4, q5] at h; omega) H locs ls hP hD hS hl) (fun h => kf (by have q1 := iI_eq hx hy; have q2 := iI_lt hx hy; have q3 := iI_le hx hy; have q4 := iI_lt hy hx; have q5 := iI_le hy hx; simp only [q1, q2, q3, q4, q5] at h; omega) H locs ls hP hD hS hl)
theorem V_if_ge (X : Cx p R s m args meth c cc nL own Ts A D kI kC) {x off : Int} (tgt : Nat) (hdg : decode cc pc = .ok (.ifCond .ge off, 3)) (ht : (pc : Int) + off = (tgt : Int)) (hx : IR x) (kt : 0 ≤ x → VV p l e R s m args below meth c nL A D Q cells slots tgt lv st ws) (kf : x < 0 → VV p l e R s m args below meth c nL A D Q cells slots (pc + 3) lv st ws) : VV p l e R s m args below meth c nL A D Q cells slots pc lv (.int (iI x) :: st) ws := by
  intro H locs ls hP hD hS hl
  have hy : IR 0 := ⟨by decide, by decide⟩
  have e0 : (0 : Int32) = iI 0 := rfl
  refine lv_if_ge X.1 X.2.1 hdg ht (fun h => kt (by rw [e0] at h; have q1 := iI_eq hx hy; have q2 := iI_lt hx hy; have q3 := iI_le hx hy; have q4 := iI_lt hy hx; have q5 := iI_le hy hx; simp only [q1, q2, q3, q4, q5] at h; omega) H locs ls hP hD hS hl) (fun h => kf (by rw [e0] at h; have q1 := iI_eq hx hy; have q2 := iI_lt hx hy; have q3 := iI_le hx hy; have q4 := iI_lt hy hx; have q5 := iI_le hy hx; simp only [q1, q2, q3, q4, q5] at h; omega) H locs ls hP hD hS hl)
theorem V_icmp_gt (X : Cx p R s m args meth c cc nL own Ts A D kI kC) {x y off : Int} (tgt : Nat) (hdg : decode cc pc = .ok (.if_icmp .gt off, 3)) (ht : (pc : Int) + off = (tgt : Int)) (hx : IR x) (hy : IR y) (kt : y < x → VV p l e R s m args below meth c nL A D Q cells slots tgt lv st ws) (kf : x ≤ y → VV p l e R s m args below meth c nL A D Q cells slots (pc + 3) lv st ws) : VV p l e R s m args below meth c nL A D Q cells slots pc lv (.int (iI y) :: .int (iI x) :: st) ws := by
  intro H locs ls hP hD hS hl
  refine lv_icmp_gt X.1 X.2.1 hdg ht (fun h => kt (by have q1 := iI_eq hx hy; have q2 := iI_lt hx hy; have q3 := iI_le hx hy; have q4 := iI_lt hy hx; have q5 := iI_le hy hx; simp only [q1, q2, q3, q4, q5] at h; omega) H locs ls hP hD hS hl) (fun h => kf (by have q1 := iI_eq hx hy; have q2 := iI_lt hx hy; have q3 := iI_le hx hy; have q4 := iI_lt hy hx; have q5 := iI_le hy hx; simp only [q1, q2, q3, q4, q5] at h; omega) H locs ls hP hD hS hl)
theorem V_if_gt (X : Cx p R s m args meth c cc nL own Ts A D kI kC) {x off : Int} (tgt : Nat) (hdg : decode cc pc = .ok (.ifCond .gt off, 3)) (ht : (pc : Int) + off = (tgt : Int)) (hx : IR x) (kt : 0 < x → VV p l e R s m args below meth c nL A D Q cells slots tgt lv st ws) (kf : x ≤ 0 → VV p l e R s m args below meth c nL A D Q cells slots (pc + 3) lv st ws) : VV p l e R s m args below meth c nL A D Q cells slots pc lv (.int (iI x) :: st) ws := by
  intro H locs ls hP hD hS hl
  have hy : IR 0 := ⟨by decide, by decide⟩
  have e0 : (0 : Int32) = iI 0 := rfl
  refine lv_if_gt X.1 X.2.1 hdg ht (fun h => kt (by rw [e0] at h; have q1 := iI_eq hx hy; have q2 := iI_lt hx hy; have q3 := iI_le hx hy; have q4 := iI_lt hy hx; have q5 := iI_le hy hx; simp only [q1, q2, q3, q4, q5] at h; omega) H locs ls hP hD hS hl) (fun h => kf (by rw [e0] at h; have q1 := iI_eq hx hy; have q2 := iI_lt hx hy; have q3 := iI_le hx hy; have q4 := iI_lt hy hx; have q5 := iI_le hy hx; simp only [q1, q2, q3, q4, q5] at h; omega) H locs ls hP hD hS hl)
theorem V_icmp_le (X : Cx p R s m args meth c cc nL own Ts A D kI kC) {x y off : Int} (tgt : Nat) (hdg : decode cc pc = .ok (.if_icmp .le off, 3)) (ht : (pc : Int) + off = (tgt : Int)) (hx : IR x) (hy : IR y) (kt : x ≤ y → VV p l e R s m args below meth c nL A D Q cells slots tgt lv st ws) (kf : y < x → VV p l e R s m args below meth c nL A D Q cells slots (pc + 3) lv st ws) : VV p l e R s m args below meth c nL A D Q cells slots pc lv (.int (iI y) :: .int (iI x) :: st) ws := by
  intro H locs ls hP hD hS hl
  refine lv_icmp_le X.1 X.2.1 hdg ht (fun h => kt (by have q1 := iI_eq hx hy; have q2 := iI_lt hx hy; have q3 := iI_le hx hy; have q4 := iI_lt hy hx; have q5 := iI_le hy hx; simp only [q1, q2, q3, q4, q5] at h; omega) H locs ls hP hD hS hl) (fun h => kf (by have q1 := iI_eq hx hy; have q2 := iI_lt hx hy; have q3 := iI_le hx hy; have q4 := iI_lt hy hx; have q5 := iI_le hy hx; simp only [q1, q2, q3, q4, q5] at h; omega) H locs ls hP hD hS hl)
theorem V_if_le (X : Cx p R s m args meth c cc nL own Ts A D kI kC) {x off : Int} (tgt : Nat) (hdg : decode cc pc = .ok (.ifCond .le off, 3)) (ht : (pc : Int) + off = (tgt : Int)) (hx : IR x) (kt : x ≤ 0 → VV p l e R s m args below meth c nL A D Q cells slots tgt lv st ws) (kf : 0 < x → VV p l e R s m args below meth c nL A D Q cells slots (pc + 3) lv st ws) : VV p l e R s m args below meth c nL A D Q cells slots pc lv (.int (iI x) :: st) ws := by
  intro H locs ls hP hD hS hl
  have hy : IR 0 := ⟨by decide, by decide⟩
  have e0 : (0 : Int32) = iI 0 := rfl
  refine lv_if_le X.1 X.2.1 hdg ht (fun h => kt (by rw [e0] at h; have q1 := iI_eq hx hy; have q2 := iI_lt hx hy; have q3 := iI_le hx hy; have q4 := iI_lt hy hx; have q5 := iI_le hy hx; simp only [q1, q2, q3, q4, q5] at h; omega) H locs ls hP hD hS hl) (fun h => kf (by rw [e0] at h; have q1 := iI_eq hx hy; have q2 := iI_lt hx hy; have q3 := iI_le hx hy; have q4 := iI_lt hy hx; have q5 := iI_le hy hx; simp only [q1, q2, q3, q4, q5] at h; omega) H locs ls hP hD hS hl)
theorem V_bif_eq (X : Cx p R s m args meth c cc nL own Ts A D kI kC) {b : Bool} {off : Int} (tgt : Nat) (hdg : decode cc pc = .ok (.ifCond .eq off, 3)) (ht : (pc : Int) + off = (tgt : Int)) (kt : b = false → VV p l e R s m args below meth c nL A D Q cells slots tgt lv st ws) (kf : b = true → VV p l e R s m args below meth c nL A D Q cells slots (pc + 3) lv st ws) : VV p l e R s m args below meth c nL A D Q cells slots pc lv (.int (iI (bI b)) :: st) ws := V_if_eq X tgt hdg ht (IR_bI b) (fun h => kt (bI_0 h)) (fun h => kf (bI_1 h))
theorem V_bif_ne (X : Cx p R s m args meth c cc nL own Ts A D kI kC) {b : Bool} {off : Int} (tgt : Nat) (hdg : decode cc pc = .ok (.ifCond .ne off, 3)) (ht : (pc : Int) + off = (tgt : Int)) (kt : b = true → VV p l e R s m args below meth c nL A D Q cells slots tgt lv st ws) (kf : b = false → VV p l e R s m args below meth c nL A D Q cells slots (pc + 3) lv st ws) : VV p l e R s m args below meth c nL A D Q cells slots pc lv (.int (iI (bI b)) :: st) ws := V_if_ne X tgt hdg ht (IR_bI b) (fun h => kt (bI_1 h)) (fun h => kf (bI_0 h))
theorem V_tabOut (X : Cx p R s m args meth c cc nL own Ts A D kI kC) {x dflt lo hi : Int} {offs : Array Int} {len : Nat} (tgt : Nat) (hx : IR x) (hdg : decode cc pc = .ok (.tableswitch dflt lo hi offs, len)) (h : x < lo ∨ hi < x) (ht : (pc : Int) + dflt = (tgt : Int)) (k : VV p l e R s m args below meth c nL A D Q cells slots tgt lv st ws) : VV p l e R s m args below meth c nL A D Q cells slots pc lv (.int (iI x) :: st) ws := by
  intro H locs ls hP hD hS hl
  refine lv_tableOut X.1 X.2.1 hdg (by rw [iI_T hx]; exact h) ht ?_
  exact k H locs ls hP hD hS hl
theorem V_tabIn (X : Cx p R s m args meth c cc nL own Ts A D kI kC) {x dflt lo hi off : Int} {offs : Array Int} {len : Nat} (tgt : Nat) (z : Int) (hxz : x = z) (hdg : decode cc pc = .ok (.tableswitch dflt lo hi offs, len)) (hz : IR z) (h1 : ¬ z < lo) (h2 : ¬ hi < z) (ho : offs[(z - lo).toNat]? = some off) (ht : (pc : Int) + off = (tgt : Int)) (k : VV p l e R s m args below meth c nL A D Q cells slots tgt lv st ws) : VV p l e R s m args below meth c nL A D Q cells slots pc lv (.int (iI x) :: st) ws := by
  intro H locs ls hP hD hS hl
  subst hxz
  refine lv_tableIn X.1 X.2.1 hdg (by rw [iI_T hz]; exact h1) (by rw [iI_T hz]; exact h2) (by rw [iI_T hz]; exact ho) ht ?_
  exact k H locs ls hP hD hS hl
theorem V_look (X : Cx p R s m args meth c cc nL own Ts A D kI kC) {x dflt off : Int} {ps : Array (Int × Int)} {len : Nat} (tgt : Nat) (hx : IR x) (hdg : decode cc pc = .ok (.lookupswitch dflt ps, len)) (hp : (ps.toList.zip (ps.toList.drop 1)).all (fun (a, next) => a.1 < next.1) = true) (ho : Op.lookupswitch.offset ps.toList dflt x = off) (ht : (pc : Int) + off = (tgt : Int)) (k : VV p l e R s m args below meth c nL A D Q cells slots tgt lv st ws) : VV p l e R s m args below meth c nL A D Q cells slots pc lv (.int (iI x) :: st) ws := by
  intro H locs ls hP hD hS hl
  refine lv_lookup X.1 X.2.1 hdg hp (by rw [iI_T hx]; exact ho) ht ?_
  exact k H locs ls hP hD hS hl
theorem V_get (X : Cx p R s m args meth c cc nL own Ts A D kI kC) {ci N index a : Nat} {C : String} {T : u_T} {fs : List Value} {v : Value} (j : Nat) (hf : FL Ts own index ci j C T N) (q0 : Nat) (he : ws[q0]? = some (a, .inr (ci, fs))) (hv : fs[j]? = some v) (hdg : decode cc pc = .ok (.getfield index, 3)) (k : VV p l e R s m args below meth c nL A D Q cells slots (pc + 3) lv (v :: st) ws) : VV p l e R s m args below meth c nL A D Q cells slots pc lv (.ref a :: st) ws := by
  intro H locs ls hP hD hS hl
  refine va_get (D := D) X.1 X.2.1 X.2.2.2.2.1 hf.1 X.2.2.2.1 X.2.2.2.2.2.1 hP q0 he hf.2.2.2 j hf.2.2.1 (X.2.2.2.2.1 _ hf.2.1) (fun _ h9 => h9) hv hdg ?_
  exact k H locs ls hP hD hS hl
theorem V_putI (X : Cx p R s m args meth c cc nL own Ts A D kI kC) {ci N index a : Nat} {C : String} {T : u_T} {fs : List Value} {x : Int32} {ty0 : Nat → FieldType} (j : Nat) (hf : FL Ts own index ci j C T N) (hp : FP N T ty0) (hd : parseFieldDescriptor (T j).2.2.1 = some .int) (hfin : (T j).2.2.2 = false) (q0 : Nat) (he : ws[q0]? = some (a, .inr (ci, fs))) (hj : j < fs.length) (hdg : decode cc pc = .ok (.putfield index, 3)) (k : VV p l e R s m args below meth c nL A D Q cells slots (pc + 3) lv st (ws.set q0 (a, .inr (ci, fs.set j (.int x))))) : VV p l e R s m args below meth c nL A D Q cells slots pc lv (.int x :: .ref a :: st) ws := by
  intro H locs ls hP hD hS hl
  refine va_put (D := D) (ty := .int) X.1 X.2.1 X.2.2.2.2.1 hf.1 ty0 hp.1 hp.2 X.2.2.2.1 X.2.2.2.2.2.1 hP hD hS q0 he hf.2.2.2 j hf.2.2.1 (X.2.2.2.2.1 _ hf.2.1) (fun _ h9 => h9) hfin hd rfl rfl hj hdg (fun H1 locs1 h1 h2 h3 => ?_)
  exact k H1 locs1 ls h1 h2 h3 hl
theorem V_putZ (X : Cx p R s m args meth c cc nL own Ts A D kI kC) {ci N index a : Nat} {C : String} {T : u_T} {fs : List Value} {b : Bool} {ty0 : Nat → FieldType} (j : Nat) (hf : FL Ts own index ci j C T N) (hp : FP N T ty0) (hd : parseFieldDescriptor (T j).2.2.1 = some .boolean) (hfin : (T j).2.2.2 = false) (q0 : Nat) (he : ws[q0]? = some (a, .inr (ci, fs))) (hj : j < fs.length) (hdg : decode cc pc = .ok (.putfield index, 3)) (k : VV p l e R s m args below meth c nL A D Q cells slots (pc + 3) lv st (ws.set q0 (a, .inr (ci, fs.set j (.int (iI (bI b))))))) : VV p l e R s m args below meth c nL A D Q cells slots pc lv (.int (iI (bI b)) :: .ref a :: st) ws := by
  intro H locs ls hP hD hS hl
  refine va_put (D := D) (ty := .boolean) X.1 X.2.1 X.2.2.2.2.1 hf.1 ty0 hp.1 hp.2 X.2.2.2.1 X.2.2.2.2.2.1 hP hD hS q0 he hf.2.2.2 j hf.2.2.1 (X.2.2.2.2.1 _ hf.2.1) (fun _ h9 => h9) hfin hd (by cases b <;> rfl) (by cases b <;> rfl) hj hdg (fun H1 locs1 h1 h2 h3 => ?_)
  exact k H1 locs1 ls h1 h2 h3 hl
theorem V_iald (X : Cx p R s m args meth c cc nL own Ts A D kI kC) {a n : Nat} {F : Nat → Int} {i : Int} (j : Nat) (q0 : Nat) (he : ws[q0]? = some (a, IA kI n F)) (hi : i = (j : Int)) (hj : j < n) (hn : n < 2147483648) (hdg : decode cc pc = .ok (.iaload, 1)) (k : VV p l e R s m args below meth c nL A D Q cells slots (pc + 1) lv (.int (iI (F j)) :: st) ws) : VV p l e R s m args below meth c nL A D Q cells slots pc lv (.int (iI i) :: .ref a :: st) ws := by
  intro H locs ls hP hD hS hl
  subst hi
  refine va_iald (D := D) X.1 X.2.1 X.2.2.2.2.2.1 hP q0 0 he rfl (iI_in hj hn) hdg ?_
  rw [iI_cl (by omega)]
  exact k H locs ls hP hD hS hl
theorem V_cald (X : Cx p R s m args meth c cc nL own Ts A D kI kC) {a n : Nat} {F : Nat → Int} {i : Int} (j : Nat) (q0 : Nat) (he : ws[q0]? = some (a, IA kC n F)) (hi : i = (j : Int)) (hj : j < n) (hn : n < 2147483648) (hdg : decode cc pc = .ok (.caload, 1)) (k : VV p l e R s m args below meth c nL A D Q cells slots (pc + 1) lv (.int (iI (F j)) :: st) ws) : VV p l e R s m args below meth c nL A D Q cells slots pc lv (.int (iI i) :: .ref a :: st) ws := by
  intro H locs ls hP hD hS hl
  subst hi
  refine va_cald (D := D) X.1 X.2.1 X.2.2.2.2.2.1 hP q0 1 he rfl (iI_in hj hn) hdg ?_
  rw [iI_cl (by omega)]
  exact k H locs ls hP hD hS hl
theorem V_iast (X : Cx p R s m args meth c cc nL own Ts A D kI kC) {a n : Nat} {F : Nat → Int} {i x : Int} (j : Nat) (q0 : Nat) (he : ws[q0]? = some (a, IA kI n F)) (hi : i = (j : Int)) (hj : j < n) (hn : n < 2147483648) (hdg : decode cc pc = .ok (.iastore, 1)) (k : VV p l e R s m args below meth c nL A D Q cells slots (pc + 1) lv st (ws.set q0 (a, IA kI n (upz F j x)))) : VV p l e R s m args below meth c nL A D Q cells slots pc lv (.int (iI x) :: .int (iI i) :: .ref a :: st) ws := by
  intro H locs ls hP hD hS hl
  subst hi
  refine va_iast (D := D) X.1 X.2.1 X.2.2.2.2.2.1 hP hD hS q0 0 he rfl (iI_in hj hn) hdg (fun H1 locs1 h1 h2 h3 => ?_)
  rw [iI_cl (by omega), upd_upz] at h1 h2
  exact k H1 locs1 ls h1 h2 h3 hl
theorem V_cast (X : Cx p R s m args meth c cc nL own Ts A D kI kC) {a n : Nat} {F : Nat → Int} {i x : Int} (j : Nat) (q0 : Nat) (he : ws[q0]? = some (a, IA kC n F)) (hi : i = (j : Int)) (hj : j < n) (hn : n < 2147483648) (hx : 0 ≤ x) (hx2 : x < 65536) (hdg : decode cc pc = .ok (.castore, 1)) (k : VV p l e R s m args below meth c nL A D Q cells slots (pc + 1) lv st (ws.set q0 (a, IA kC n (upz F j x)))) : VV p l e R s m args below meth c nL A D Q cells slots pc lv (.int (iI x) :: .int (iI i) :: .ref a :: st) ws := by
  intro H locs ls hP hD hS hl
  subst hi
  refine va_cast (D := D) X.1 X.2.1 X.2.2.2.2.2.1 hP hD hS q0 1 he rfl (iI_in hj hn) hdg (fun H1 locs1 h1 h2 h3 => ?_)
  rw [iI_cl (by omega), iI_char hx hx2, upd_upz] at h1 h2
  exact k H1 locs1 ls h1 h2 h3 hl
theorem V_copy (X : Cx p R s m args meth c cc nL own Ts A D kI kC) {index a0 a n0 n1 : Nat} {F G : Nat → Int} {isp idp inn : Int} (sp dp n : Nat) (hw : MC Ts own index) (q0 q1 : Nat) (he0 : ws[q0]? = some (a0, IA kI n0 F)) (he1 : ws[q1]? = some (a, IA kI n1 G)) (h1 : isp = (sp : Int)) (h2 : idp = (dp : Int)) (h3 : inn = (n : Int)) (h4 : sp + n ≤ n0) (h5 : dp + n ≤ n1) (h6 : n0 < 2147483648) (h7 : n1 < 2147483648) (hfr : 1 ≤ R.frames) (hlo : (st.map fun v => v.category).sum + (nativeFrameWords "java/lang/System" "arraycopy" 5 + 11) ≤ R.locals) (hdg : decode cc pc = .ok (.invokestatic index, 3)) (k : VV p l e R s m args below meth c nL A D Q cells slots (pc + 3) lv st (ws.set q1 (a, IA kI n1 (cpz F G sp dp n)))) : VV p l e R s m args below meth c nL A D Q cells slots pc lv (.int (iI inn) :: .int (iI idp) :: .ref a :: .int (iI isp) :: .ref a0 :: st) ws := by
  intro H locs ls hP hD hS hl
  subst h1 h2 h3
  have c1 := iI_cl (k := sp) (by omega)
  have c2 := iI_cl (k := dp) (by omega)
  have c3 := iI_cl (k := n) (by omega)
  refine va_copyi (D := D) (ty := .int) X.1 X.2.1 (X.2.2.1.trans hl.1.symm) X.2.2.2.1 (X.2.2.2.2.1 _ hw.1) (X.2.2.2.2.1 _ hw.2.1) (X.2.2.2.2.1 _ hw.2.2.1) (X.2.2.2.2.1 _ hw.2.2.2) X.2.2.2.2.2.1 hP hD hS q0 q1 0 0 he0 he1 rfl rfl rfl (iI_nn (by omega)) (iI_nn (by omega)) (iI_nn (by omega)) (by rw [c1, c3]; exact h4) (by rw [c2, c3]; exact h5) (fun _ _ => rfl) hfr hlo hdg (fun H1 locs1 g1 g2 g3 => ?_)
  rw [c1, c2, c3, cpy_cpz] at g1 g2
  exact k H1 locs1 ls g1 g2 g3 hl
theorem V_mmax (X : Cx p R s m args meth c cc nL own Ts A D kI kC) {index : Nat} {x y : Int} (hw : MM_max Ts own index) (hx : IR x) (hy : IR y) (hfr : 1 ≤ R.frames) (hlo : (st.map fun v => v.category).sum + 13 ≤ R.locals) (hcl : cells ≤ R.cells) (hsl : slots ≤ R.slots) (hdg : decode cc pc = .ok (.invokestatic index, 3)) (k : VV p l e R s m args below meth c nL A D Q cells slots (pc + 3) lv (.int (iI (max x y)) :: st) ws) : VV p l e R s m args below meth c nL A D Q cells slots pc lv (.int (iI y) :: .int (iI x) :: st) ws := by
  intro H locs ls hP hD hS hl
  refine va_mmax X.1 X.2.1 (X.2.2.1.trans hl.1.symm) X.2.2.2.1 (X.2.2.2.2.1 _ hw.1) (X.2.2.2.2.1 _ hw.2.1) (X.2.2.2.2.1 _ hw.2.2.1) (X.2.2.2.2.1 _ hw.2.2.2) hfr hlo hcl hsl hdg ?_
  rw [iI_max hx hy]
  exact k H locs ls hP hD hS hl
theorem V_mmin (X : Cx p R s m args meth c cc nL own Ts A D kI kC) {index : Nat} {x y : Int} (hw : MM_min Ts own index) (hx : IR x) (hy : IR y) (hfr : 1 ≤ R.frames) (hlo : (st.map fun v => v.category).sum + 13 ≤ R.locals) (hcl : cells ≤ R.cells) (hsl : slots ≤ R.slots) (hdg : decode cc pc = .ok (.invokestatic index, 3)) (k : VV p l e R s m args below meth c nL A D Q cells slots (pc + 3) lv (.int (iI (min x y)) :: st) ws) : VV p l e R s m args below meth c nL A D Q cells slots pc lv (.int (iI y) :: .int (iI x) :: st) ws := by
  intro H locs ls hP hD hS hl
  refine va_mmin X.1 X.2.1 (X.2.2.1.trans hl.1.symm) X.2.2.2.1 (X.2.2.2.2.1 _ hw.1) (X.2.2.2.2.1 _ hw.2.1) (X.2.2.2.2.1 _ hw.2.2.1) (X.2.2.2.2.1 _ hw.2.2.2) hfr hlo hcl hsl hdg ?_
  rw [iI_min hx hy]
  exact k H locs ls hP hD hS hl
/-- a method's contract: from the cells W0, with the arguments av, it ends with an answer v and the cells W1 u, where Qf v u -/
def conP (D : va_G) (kI kC : ClassId) (av : List Value) (W0 : va_W) (sz : Nat) : Array Value → State → Prop := va_Pc av (fun U => U.heap.size = sz ∧ va_P D vwCl W0 U.heap ∧ KK D kI kC U ∧ va_D (fun _ => True) W0)
def conQ (D : va_G) {σ : Type} (Qf : Option Value → σ → Prop) (W1 : σ → va_W) (A : Nat → Prop) : Array Value → State → Outcome → State → Prop := fun _ st oc t => (∃ (v : Option Value) (u : σ), oc = .returned v ∧ Qf v u ∧ va_P D vwCl (W1 u) t.heap ∧ va_D A (W1 u)) ∧ va_F A st t
def Con (l : Launch) (y : MethodName) (wsc : List Cond) (rm : Room) (D : va_G) (kI kC : ClassId) (av : List Value) (W0 : va_W) {σ : Type} (Qf : Option Value → σ → Prop) (W1 : σ → va_W) : Prop :=
  ∀ sz : Nat, Met l y wsc rm (conP D kI kC av W0 sz) (conQ D Qf W1 (va_A W0 sz)) rm.cells rm.slots (va_A W0 sz)
def qI {σ : Type} (f : Int → σ → Prop) : Option Value → σ → Prop := fun v u => ∃ r : Int, v = some (.int (iI r)) ∧ f r u
def qV {σ : Type} (f : σ → Prop) : Option Value → σ → Prop := fun v u => v = none ∧ f u
/-- of a method that changes nothing -/
def ConR (l : Launch) (y : MethodName) (wsc : List Cond) (rm : Room) (D : va_G) (kI kC : ClassId) (av : List Value) (W0 : va_W) (f : Int → Prop) : Prop :=
  Con l y wsc rm D kI kC av W0 (σ := Unit) (qI (fun r _ => f r)) (fun _ => W0)
theorem conP_blind (D : va_G) (kI kC : ClassId) (av : List Value) (W0 : va_W) (sz : Nat) : FrameBlind (conP D kI kC av W0 sz) := by
  intro a U g mk h
  obtain ⟨h1, h2, h3, h4, h5⟩ := h
  exact ⟨h1, h2, h3, h4.call g mk a, h5⟩
theorem lg_sl_one : ∀ (av : List Value), (∀ v ∈ av, v.category = 1) → (lg_sl av).length = av.length
  | [], _ => rfl
  | a :: av, h => by
    have ha := h a List.mem_cons_self
    have := lg_sl_one av (fun v hv => h v (List.mem_cons_of_mem _ hv))
    unfold lg_sl at this ⊢
    rw [List.flatMap_cons, if_neg (by rw [ha]; decide), List.length_append, this, List.length_cons]
    simp
    omega
/-- a contract out of a walk -/
theorem Con.of {y : MethodName} {wsc ws' : List Cond} {rm : Room} {maxL : Nat} {ret : Option FieldType} {av : List Value} {W0 : va_W} {σ : Type} {Qf : Option Value → σ → Prop} {W1 : σ → va_W}
    (hy : plainName y.cls = true) (hw : wsc = Cond.code y cc maxL ret :: ws') (hcat : ∀ v ∈ av, v.category = 1) (hle : av.length ≤ maxL)
    (body : ∀ (p : Program) (e : Env) (s : State) (m : MethodId) (below : List Frame) (meth : Method) (c : Code) (A : Nat → Prop), Cx p rm s m av.toArray meth c cc maxL y.cls wsc A D kI kC → meth.sig.returnType = ret →
      VV p l e rm s m av.toArray below meth c maxL A D (MQ below (conQ D Qf W1 A) av.toArray s rm.cells rm.slots A) 0 0 0 (av.map some ++ List.replicate (maxL - av.length) none) [] W0) : Con l y wsc rm D kI kC av W0 Qf W1 := by
  intro sz
  refine Met.ofW (cc := cc) (maxL := maxL) (ret := ret) hy hw ?_
  intro p e s m args below meth c s₁ B hml hv
  obtain ⟨rfl, hsz, hP, hK, hD0⟩ := hv
  subst hsz
  have hts := atoms_spec (ws := wsc) B.pre
  have hown : s.vm.findClass y.cls = some m.cls := findClass_of_methodNamed B.named
  have hl := lv_entry av (n := maxL) (by rw [lg_sl_one av hcat]; exact hle)
  rw [lg_entry_eq]
  exact body p e s m below meth c (va_A W0 s.heap.size) ⟨B.exec, B.bytes, hml, hown, hts, hK.1, hK.2, fun q h => Or.inr h, B.notSynchronized, rfl⟩ B.returns s.heap [] _ hP hD0.self va_S.rf (Lh_entry hcat hl _)
theorem V_iret (X : Cx p R s m args meth c cc nL own Ts A D kI kC) {σ : Type} {f : Int → σ → Prop} {W1 : σ → va_W} {r : Int} (u : σ) (hr : meth.sig.returnType = some .int) (hw : W1 u = ws) (hdg : decode cc pc = .ok (.ireturn, 1)) (hq : f r u) : VV p l e R s m args below meth c nL A D (MQ below (conQ D (qI f) W1 A) args s cells slots A) cells slots pc lv [.int (iI r)] ws := by
  intro H locs ls hP hD hS hl
  exact W.iret X.1 X.2.1 hr (fun t ht hW => ⟨⟨_, u, rfl, ⟨r, rfl, hq⟩, by rw [ht, hw]; exact hP, by rw [hw]; exact hD⟩, hS.F ht⟩) hS.2.2 hdg (hlocks := X.2.2.2.2.2.2.2.2.1)
theorem V_zret (X : Cx p R s m args meth c cc nL own Ts A D kI kC) {σ : Type} {f : Int → σ → Prop} {W1 : σ → va_W} {r : Bool} (u : σ) (hr : meth.sig.returnType = some .boolean) (hw : W1 u = ws) (hdg : decode cc pc = .ok (.ireturn, 1)) (hq : f (bI r) u) : VV p l e R s m args below meth c nL A D (MQ below (conQ D (qI f) W1 A) args s cells slots A) cells slots pc lv [.int (iI (bI r))] ws := by
  intro H locs ls hP hD hS hl
  exact W.zret X.1 X.2.1 hr (by cases r <;> rfl) (fun t ht hW => ⟨⟨_, u, rfl, ⟨bI r, rfl, hq⟩, by rw [ht, hw]; exact hP, by rw [hw]; exact hD⟩, hS.F ht⟩) hS.2.2 hdg (hlocks := X.2.2.2.2.2.2.2.2.1)
theorem V_vret (X : Cx p R s m args meth c cc nL own Ts A D kI kC) {σ : Type} {f : σ → Prop} {W1 : σ → va_W} (u : σ) (hr : meth.sig.returnType = none) (hw : W1 u = ws) (hdg : decode cc pc = .ok (.return_, 1)) (hq : f u) : VV p l e R s m args below meth c nL A D (MQ below (conQ D (qV f) W1 A) args s cells slots A) cells slots pc lv [] ws := by
  intro H locs ls hP hD hS hl
  exact W.vret X.1 X.2.1 hr (fun t ht hW => ⟨⟨_, u, rfl, ⟨rfl, hq⟩, by rw [ht, hw]; exact hP, by rw [hw]; exact hD⟩, hS.F ht⟩) hS.2.2 hdg (hlocks := X.2.2.2.2.2.2.2.2.1)
/-- any call, once it is known to run -/
theorem V_run (X : Cx p R s m args meth c cc nL own Ts A D kI kC) {W0 : va_W} {σ : Type} {Qf : Option Value → σ → Prop} {W1 : σ → va_W} {rm : Room} {a : Array Value} {rest : List Value}
    (is : List Nat) (hC : is.map (fun i => ws[i]?) = W0.map some) (hnd : va_nd is = true) (hlen : ∀ u, (W1 u).length = is.length)
    (hr : ∀ (H : Heap) (locs : List Loc) (ls : Array Slot), va_P D vwCl ws H → va_D A ws → ls.size = nL → va_Run p l e R s m args below meth c H locs cells slots rm.cells rm.slots (F0 m pc ls st) rest (conQ D Qf W1 (va_A W0 H.size) a) (va_A W0 H.size))
    (k : ∀ (v : Option Value) (u : σ), Qf v u → VV p l e R s m args below meth c nL A D Q (cells + rm.cells) (slots + rm.slots) (pc + 3) lv (v.toList ++ rest) (putW ws is (W1 u))) : VV p l e R s m args below meth c nL A D Q cells slots pc lv st ws := by
  intro H locs ls hP hD hS hl T hT XS
  have hF := va_free (wc := W0) hD hS X.2.2.2.2.2.2.2.1 is hC
  obtain ⟨v, st₀, t, T', L, h0, X', hL, e1, e2, ⟨⟨v2, u, hv, hp, hb, hd⟩, hz, hk⟩, hst⟩ := hr H locs ls hP hD hl.1 T hT XS
  cases hv
  rw [h0] at hz hk
  have hk2 : ∀ q : Nat, q < H.size → ¬ va_A W0 H.size q → T'.heap[q]? = H[q]? := fun q h1 h2 => by rw [e1]; exact hk q h1 h2
  obtain ⟨g1, g2⟩ := va_put1 hP hD is hC hnd (hlen u) hk2 hF (by rw [e1]; exact hb) hd
  obtain ⟨t2, a1, b1⟩ := k v u hp T'.heap (locs ++ L) ls g1 g2
    ⟨Nat.le_trans hS.1 (by rw [e1]; exact hz), fun q h1 h2 => by rw [e1, hk q (Nat.lt_of_lt_of_le h1 hS.1) (fun z => h2 (hF q z))]; exact hS.2.1 q h1 h2, fun q hq => by
      rcases List.mem_append.mp hq with h | h
      · exact hS.2.2 q h
      · exact hF _ (hL q h)⟩ hl T' rfl X'
  exact ⟨t2, hst t2 a1, b1⟩
theorem conP_of (X : Cx p R s m args meth c cc nL own Ts A D kI kC) {av : List Value} {W0 : va_W} {H : Heap} (is : List Nat) (hC : is.map (fun i => ws[i]?) = W0.map some) (hnd : va_nd is = true) (hP : va_P D vwCl ws H) (hD : va_D A ws) (U : State) (hU : U.heap = H) (hW : s.WarmedH U.vm) : conP D kI kC av W0 H.size av.toArray U := by
  refine ⟨rfl, by rw [hU], ?_, KK.warm hW ⟨X.2.2.2.2.2.1, X.2.2.2.2.2.2.1⟩, (hD.sub is hnd hC).weaken (fun _ _ _ _ => trivial)⟩
  rw [hU]
  refine hP.sub is ?_
  have h2 : (is.map (fun i => ws[i]?)).filterMap id = (W0.map some).filterMap id := by rw [hC]
  rw [List.filterMap_map, List.filterMap_map] at h2
  have h3 : W0.filterMap (id ∘ some) = W0 := by
    rw [show (id ∘ some : Nat × va_E → Option (Nat × va_E)) = some from rfl]
    exact List.filterMap_some
  rw [h3] at h2
  exact h2
def KM (y : MethodName) (C : String) (n : Nat) : Prop := y.cls = C ∧ y.cls ≠ "java/lang/invoke/MethodHandle" ∧ y.cls ≠ "java/lang/invoke/VarHandle" ∧ (parseMethodDescriptor y.desc).map (fun d => d.parameters.length) = some n
def RF (R rm : Room) (maxL cells slots : Nat) : Prop := (rm.frames + 1 ≤ R.frames ∧ 8 + (maxL + 11) + rm.locals ≤ R.locals) ∧ cells + rm.cells ≤ R.cells ∧ slots + rm.slots ≤ R.slots
theorem V_callV (X : Cx p R s m args meth c cc nL own Ts A D kI kC) {y : MethodName} {wsc wsc' : List Cond} {rm : Room} {bytes : ByteArray} {maxL n index ci q0 b : Nat} {ret : Option FieldType} {C : String} {T : u_T} {N : Nat} {As rest : List Value} {fs : List Value} {W0 : va_W} {σ : Type} {Qf : Option Value → σ → Prop} {W1 : σ → va_W}
    (hM : Con l y wsc rm D kI kC (.ref b :: As) W0 Qf W1) (hG : GoodIn Ts (wsV own index C y wsc)) (hw : wsc = Cond.code y bytes maxL ret :: wsc') (hd : KM y C n) (hR : RF R rm maxL cells slots) (hz : rm.cells = 0 ∧ rm.slots = 0) (hn : As.length = n) (hst : st = As.reverse ++ .ref b :: rest) (hcat : (rest.map fun v => v.category).sum ≤ 8)
    (is : List Nat) (hC : is.map (fun i => ws[i]?) = W0.map some) (hnd : va_nd is = true) (hlen : ∀ u, (W1 u).length = is.length) (he : ws[q0]? = some (b, .inr (ci, fs))) (hc : vwCl[ci]? = some (C, T, N)) (hdg : decode cc pc = .ok (.invokevirtual index, 3))
    (k : ∀ (v : Option Value) (u : σ), Qf v u → VV p l e R s m args below meth c nL A D Q cells slots (pc + 3) lv (v.toList ++ rest) (putW ws is (W1 u))) : VV p l e R s m args below meth c nL A D Q cells slots pc lv st ws := by
  refine V_run X (a := (Value.ref b :: As).toArray) is hC hnd hlen (fun H locs ls hP hD hsz => ?_) (fun v u h => by rw [hz.1, hz.2]; exact k v u h)
  exact va_runV ⟨X.1, X.2.1, X.2.2.1, X.2.2.2.1, X.2.2.2.2.1⟩ (hM H.size) (cwV n X.2.2.2.2.1 hG hw rfl rfl hd hR.1) ⟨conP_blind D kI kC _ _ _, va_recv X.2.2.2.2.2.1 hP hc he, fun U hU hW => conP_of X is hC hnd hP hD U hU hW⟩ rfl hn hsz hst (lv_room hcat) hdg hR.2
theorem V_callS (X : Cx p R s m args meth c cc nL own Ts A D kI kC) {y : MethodName} {wsc wsc' : List Cond} {rm : Room} {bytes : ByteArray} {maxL n index : Nat} {ret : Option FieldType} {C : String} {As rest : List Value} {W0 : va_W} {σ : Type} {Qf : Option Value → σ → Prop} {W1 : σ → va_W}
    (hM : Con l y wsc rm D kI kC As W0 Qf W1) (hG : GoodIn Ts (va_wsS own index y wsc)) (hw : wsc = Cond.code y bytes maxL ret :: wsc') (hd : KM y C n) (hR : RF R rm maxL cells slots) (hz : rm.cells = 0 ∧ rm.slots = 0) (hn : As.length = n) (hst : st = As.reverse ++ rest) (hcat : (rest.map fun v => v.category).sum ≤ 8)
    (is : List Nat) (hC : is.map (fun i => ws[i]?) = W0.map some) (hnd : va_nd is = true) (hlen : ∀ u, (W1 u).length = is.length) (hdg : decode cc pc = .ok (.invokestatic index, 3))
    (k : ∀ (v : Option Value) (u : σ), Qf v u → VV p l e R s m args below meth c nL A D Q cells slots (pc + 3) lv (v.toList ++ rest) (putW ws is (W1 u))) : VV p l e R s m args below meth c nL A D Q cells slots pc lv st ws := by
  refine V_run X (a := As.toArray) is hC hnd hlen (fun H locs ls hP hD hsz => ?_) (fun v u h => by rw [hz.1, hz.2]; exact k v u h)
  exact va_runS ⟨X.1, X.2.1, X.2.2.1, X.2.2.2.1, X.2.2.2.2.1⟩ (hM H.size) (va_cwS n X.2.2.2.2.1 hG hw rfl rfl hd.2 hR.1) ⟨conP_blind D kI kC _ _ _, fun U hU hW => conP_of X is hC hnd hP hD U hU hW⟩ rfl hn hsz hst (lv_room hcat) hdg hR.2
theorem V_callN (X : Cx p R s m args meth c cc nL own Ts A D kI kC) {y : MethodName} {wsc wsc' : List Cond} {rm : Room} {bytes : ByteArray} {maxL n index : Nat} {ret : Option FieldType} {C host : String} {As rest : List Value} {W0 : va_W} {σ : Type} {Qf : Option Value → σ → Prop} {W1 : σ → va_W}
    (hM : Con l y wsc rm D kI kC As W0 Qf W1) (hG : GoodIn Ts wsc) (hN : Cond.methodLinkNest own index y host ∈ nwAll) (hT : Cond.static y ∈ Ts ∧ Cond.initialized y.cls ∈ Ts) (hw : wsc = Cond.code y bytes maxL ret :: wsc') (hd : KM y C n) (hR : RF R rm maxL cells slots) (hz : rm.cells = 0 ∧ rm.slots = 0) (hn : As.length = n) (hst : st = As.reverse ++ rest) (hcat : (rest.map fun v => v.category).sum ≤ 8)
    (is : List Nat) (hC : is.map (fun i => ws[i]?) = W0.map some) (hnd : va_nd is = true) (hlen : ∀ u, (W1 u).length = is.length) (hdg : decode cc pc = .ok (.invokestatic index, 3))
    (k : ∀ (v : Option Value) (u : σ), Qf v u → VV p l e R s m args below meth c nL A D Q cells slots (pc + 3) lv (v.toList ++ rest) (putW ws is (W1 u))) : VV p l e R s m args below meth c nL A D Q cells slots pc lv st ws := by
  refine V_run X (a := As.toArray) is hC hnd hlen (fun H locs ls hP hD hsz => ?_) (fun v u h => by rw [hz.1, hz.2]; exact k v u h)
  exact va_runSN ⟨X.1, X.2.1, X.2.2.1, X.2.2.2.1, X.2.2.2.2.1⟩ (hM H.size) ⟨va_cnB n X.2.2.2.2.1 hG hw rfl rfl (X.2.2.2.2.2.2.1 _ hN) (X.2.2.2.2.1 _ hT.2) hd.2 hR.1, X.2.2.2.2.1 _ hT.1, trivial⟩ ⟨conP_blind D kI kC _ _ _, fun U hU hW => conP_of X is hC hnd hP hD U hU hW⟩ rfl hn hsz hst (lv_room hcat) hdg hR.2
/-- the answers split off -/
theorem kI_of {σ : Type} {f : Int → σ → Prop} {P : Option Value → σ → Prop} (k : ∀ (r : Int) (u : σ), f r u → P (some (.int (iI r))) u) : ∀ (v : Option Value) (u : σ), qI f v u → P v u := fun v u h => by
  obtain ⟨r, rfl, hf⟩ := h
  exact k r u hf
theorem kV_of {σ : Type} {f : σ → Prop} {P : Option Value → σ → Prop} (k : ∀ (u : σ), f u → P none u) : ∀ (v : Option Value) (u : σ), qV f v u → P v u := fun v u h => by
  obtain ⟨rfl, hf⟩ := h
  exact k u hf
theorem kR_of {f : Int → Prop} {is : List Nat} {W0 : va_W} {rest : List Value} (hC : is.map (fun i => ws[i]?) = W0.map some) (k : ∀ (r : Int), f r → VV p l e R s m args below meth c nL A D Q cells slots pc lv (.int (iI r) :: rest) ws) :
    ∀ (v : Option Value) (u : Unit), qI (fun r (_ : Unit) => f r) v u → VV p l e R s m args below meth c nL A D Q cells slots pc lv (v.toList ++ rest) (putW ws is ((fun _ : Unit => W0) u)) := fun v u h => by
  obtain ⟨r, rfl, hf⟩ := h
  show VV p l e R s m args below meth c nL A D Q cells slots pc lv (.int (iI r) :: rest) (putW ws is W0)
  rw [putW_same is ws W0 hC]
  exact k r hf
theorem V_widen (cells1 slots1 : Nat) (h1 : cells ≤ cells1) (h2 : slots ≤ slots1) (k : VV p l e R s m args below meth c nL A D Q cells1 slots1 pc lv st ws) : VV p l e R s m args below meth c nL A D Q cells slots pc lv st ws := by
  intro H locs ls hP hD hS hl
  exact W.widen h1 h2 (k H locs ls hP hD hS hl)
theorem V_loop {σ : Type} (μ : σ → Nat) (J : σ → Prop) (lvf : σ → List (Option Value)) (wsf : σ → va_W) (u0 : σ) (h0 : J u0) (elv : lvf u0 = lv) (ews : wsf u0 = ws)
    (body : ∀ u, J u → (∀ u', J u' → μ u' < μ u → VV p l e R s m args below meth c nL A D Q cells slots pc (lvf u') st (wsf u')) → VV p l e R s m args below meth c nL A D Q cells slots pc (lvf u) st (wsf u)) : VV p l e R s m args below meth c nL A D Q cells slots pc lv st ws := by
  subst elv ews
  have key : ∀ (k : Nat) (u : σ), μ u < k → J u → VV p l e R s m args below meth c nL A D Q cells slots pc (lvf u) st (wsf u) := by
    intro k
    induction k with
    | zero => intro u h; exact absurd h (Nat.not_lt_zero _)
    | succ k ih => exact fun u h hJ => body u hJ (fun u' hJ' hlt => ih u' (by omega) hJ')
  exact key (μ u0 + 1) u0 (Nat.lt_succ_self _) h0
theorem V_loopR {σ : Type} (μ : σ → Nat) (J : σ → Prop) (lvf : σ → List (Option Value)) (u0 : σ) (h0 : J u0) (elv : lvf u0 = lv)
    (body : ∀ u, J u → (∀ u', J u' → μ u' < μ u → VV p l e R s m args below meth c nL A D Q cells slots pc (lvf u') st ws) → VV p l e R s m args below meth c nL A D Q cells slots pc (lvf u) st ws) : VV p l e R s m args below meth c nL A D Q cells slots pc lv st ws :=
  V_loop μ J lvf (fun _ => ws) u0 h0 elv rfl body
end VKIT
end
section
/-! links of each method, by program: its fields' words, its calls' words -/
section LINKS
theorem fpX0 : FP 5 TX0 tyX0 := ⟨tyX0_ok, nmX0⟩
theorem pdX0_0 : parseFieldDescriptor (TX0 0).2.2.1 = some .int := by decide +kernel
theorem pdX0_1 : parseFieldDescriptor (TX0 1).2.2.1 = some .int := by decide +kernel
theorem pdX0_2 : parseFieldDescriptor (TX0 2).2.2.1 = some .int := by decide +kernel
theorem fpX1 : FP 8 TX1 tyX1 := ⟨tyX1_ok, nmX1⟩
theorem pdX1_0 : parseFieldDescriptor (TX1 0).2.2.1 = some .int := by decide +kernel
theorem fpX2 : FP 2 TX2 tyX2 := ⟨tyX2_ok, nmX2⟩
theorem pdX2_0 : parseFieldDescriptor (TX2 0).2.2.1 = some .int := by decide +kernel
theorem fpX3 : FP 4 TX3 tyX3 := ⟨tyX3_ok, nmX3⟩
theorem pdX3_0 : parseFieldDescriptor (TX3 0).2.2.1 = some .int := by decide +kernel
theorem pdX3_1 : parseFieldDescriptor (TX3 1).2.2.1 = some .int := by decide +kernel
theorem fpX4 : FP 2 TX4 tyX4 := ⟨tyX4_ok, nmX4⟩
theorem pdX4_0 : parseFieldDescriptor (TX4 0).2.2.1 = some .int := by decide +kernel
theorem fpX5 : FP 3 TX5 tyX5 := ⟨tyX5_ok, nmX5⟩
theorem pdX5_0 : parseFieldDescriptor (TX5 0).2.2.1 = some .int := by decide +kernel
theorem fpX6 : FP 12 TX6 tyX6 := ⟨tyX6_ok, nmX6⟩
theorem pdX6_0 : parseFieldDescriptor (TX6 0).2.2.1 = some .int := by decide +kernel
theorem fpX7 : FP 10 TX7 tyX7 := ⟨tyX7_ok, nmX7⟩
theorem pdX7_9 : parseFieldDescriptor (TX7 9).2.2.1 = some .int := by decide +kernel
theorem fpX8 : FP 31 TX8 tyX8 := ⟨tyX8_ok, nmX8⟩
theorem pdX8_1 : parseFieldDescriptor (TX8 1).2.2.1 = some .int := by decide +kernel
theorem pdX8_3 : parseFieldDescriptor (TX8 3).2.2.1 = some .int := by decide +kernel
theorem pdX8_5 : parseFieldDescriptor (TX8 5).2.2.1 = some .int := by decide +kernel
theorem pdX8_6 : parseFieldDescriptor (TX8 6).2.2.1 = some .int := by decide +kernel
theorem pdX8_9 : parseFieldDescriptor (TX8 9).2.2.1 = some .int := by decide +kernel
theorem pdX8_11 : parseFieldDescriptor (TX8 11).2.2.1 = some .int := by decide +kernel
theorem pdX8_12 : parseFieldDescriptor (TX8 12).2.2.1 = some .boolean := by decide +kernel
theorem pdX8_15 : parseFieldDescriptor (TX8 15).2.2.1 = some .int := by decide +kernel
theorem pdX8_17 : parseFieldDescriptor (TX8 17).2.2.1 = some .int := by decide +kernel
theorem pdX8_22 : parseFieldDescriptor (TX8 22).2.2.1 = some .int := by decide +kernel
theorem pdX8_27 : parseFieldDescriptor (TX8 27).2.2.1 = some .int := by decide +kernel
theorem kmX7_init : KM yX7_init RX7 0 := by unfold KM; decide +kernel
theorem inX7_init_X5 : ∀ w ∈ u_ws RX5 TX5 3, w ∈ wsX7_init := fun _ h => List.mem_cons_of_mem _ (List.mem_append_left _ (List.mem_append_left _ (List.mem_append_left _ (List.mem_append_left _ (List.mem_append_left _ (List.mem_append_left _ (List.mem_append_left _ (List.mem_append_right _ h))))))))
theorem inX7_init_X7 : ∀ w ∈ u_ws RX7 TX7 10, w ∈ wsX7_init := fun _ h => List.mem_cons_of_mem _ (List.mem_append_left _ (List.mem_append_left _ (List.mem_append_left _ (List.mem_append_left _ (List.mem_append_left _ (List.mem_append_left _ (List.mem_append_right _ h)))))))
theorem inX7_init_X4 : ∀ w ∈ u_ws RX4 TX4 2, w ∈ wsX7_init := fun _ h => List.mem_cons_of_mem _ (List.mem_append_left _ (List.mem_append_left _ (List.mem_append_left _ (List.mem_append_left _ (List.mem_append_left _ (List.mem_append_right _ h))))))
theorem inX7_init_X2 : ∀ w ∈ u_ws RX2 TX2 2, w ∈ wsX7_init := fun _ h => List.mem_cons_of_mem _ (List.mem_append_left _ (List.mem_append_left _ (List.mem_append_left _ (List.mem_append_left _ (List.mem_append_right _ h)))))
theorem inX7_init_X0 : ∀ w ∈ u_ws RX0 TX0 5, w ∈ wsX7_init := fun _ h => List.mem_cons_of_mem _ (List.mem_append_left _ (List.mem_append_left _ (List.mem_append_left _ (List.mem_append_right _ h))))
theorem inX7_init_X1 : ∀ w ∈ u_ws RX1 TX1 8, w ∈ wsX7_init := fun _ h => List.mem_cons_of_mem _ (List.mem_append_left _ (List.mem_append_left _ (List.mem_append_right _ h)))
theorem inX7_init_X6 : ∀ w ∈ u_ws RX6 TX6 12, w ∈ wsX7_init := fun _ h => List.mem_cons_of_mem _ (List.mem_append_left _ (List.mem_append_right _ h))
theorem inX7_init_X3 : ∀ w ∈ u_ws RX3 TX3 4, w ∈ wsX7_init := fun _ h => List.mem_cons_of_mem _ (List.mem_append_right _ h)
theorem flX7_init_12 : FL wsX7_init RX7 12 7 0 RX7 TX7 10 := ⟨inX7_init_X7, by decide +kernel, by decide, rfl⟩
theorem flX7_init_19 : FL wsX7_init RX7 19 7 1 RX7 TX7 10 := ⟨inX7_init_X7, by decide +kernel, by decide, rfl⟩
theorem flX7_init_26 : FL wsX7_init RX7 26 7 2 RX7 TX7 10 := ⟨inX7_init_X7, by decide +kernel, by decide, rfl⟩
theorem flX7_init_30 : FL wsX7_init RX7 30 7 3 RX7 TX7 10 := ⟨inX7_init_X7, by decide +kernel, by decide, rfl⟩
theorem flX7_init_33 : FL wsX7_init RX7 33 7 4 RX7 TX7 10 := ⟨inX7_init_X7, by decide +kernel, by decide, rfl⟩
theorem flX7_init_39 : FL wsX7_init RX7 39 7 5 RX7 TX7 10 := ⟨inX7_init_X7, by decide +kernel, by decide, rfl⟩
theorem flX7_init_46 : FL wsX7_init RX7 46 7 6 RX7 TX7 10 := ⟨inX7_init_X7, by decide +kernel, by decide, rfl⟩
theorem flX7_init_53 : FL wsX7_init RX7 53 7 7 RX7 TX7 10 := ⟨inX7_init_X7, by decide +kernel, by decide, rfl⟩
theorem flX7_init_60 : FL wsX7_init RX7 60 7 8 RX7 TX7 10 := ⟨inX7_init_X7, by decide +kernel, by decide, rfl⟩
theorem flX7_init_64 : FL wsX7_init RX7 64 7 9 RX7 TX7 10 := ⟨inX7_init_X7, by decide +kernel, by decide, rfl⟩
theorem kmX7_put : KM yX7_put RX7 2 := by unfold KM; decide +kernel
theorem inX7_put_X7 : ∀ w ∈ u_ws RX7 TX7 10, w ∈ wsX7_put := fun _ h => List.mem_cons_of_mem _ (List.mem_append_left _ (List.mem_append_right _ h))
theorem inX7_put_X5 : ∀ w ∈ u_ws RX5 TX5 3, w ∈ wsX7_put := fun _ h => List.mem_cons_of_mem _ (List.mem_append_right _ h)
theorem flX7_put_12 : FL wsX7_put RX7 12 7 0 RX7 TX7 10 := ⟨inX7_put_X7, by decide +kernel, by decide, rfl⟩
theorem flX7_put_72 : FL wsX7_put RX7 72 5 0 RX5 TX5 3 := ⟨inX7_put_X5, by decide +kernel, by decide, rfl⟩
theorem kmX7_clearPoints : KM yX7_clearPoints RX7 0 := by unfold KM; decide +kernel
theorem inX7_clearPoints_X7 : ∀ w ∈ u_ws RX7 TX7 10, w ∈ wsX7_clearPoints := fun _ h => List.mem_cons_of_mem _ (List.mem_append_left _ (List.mem_append_right _ h))
theorem inX7_clearPoints_X5 : ∀ w ∈ u_ws RX5 TX5 3, w ∈ wsX7_clearPoints := fun _ h => List.mem_cons_of_mem _ (List.mem_append_right _ h)
theorem flX7_clearPoints_12 : FL wsX7_clearPoints RX7 12 7 0 RX7 TX7 10 := ⟨inX7_clearPoints_X7, by decide +kernel, by decide, rfl⟩
theorem flX7_clearPoints_72 : FL wsX7_clearPoints RX7 72 5 0 RX5 TX5 3 := ⟨inX7_clearPoints_X5, by decide +kernel, by decide, rfl⟩
theorem kmX7_type : KM yX7_type RX7 1 := by unfold KM; decide +kernel
theorem inX7_type_X7 : ∀ w ∈ u_ws RX7 TX7 10, w ∈ wsX7_type := fun _ h => List.mem_cons_of_mem _ (List.mem_append_left _ (List.mem_append_right _ h))
theorem inX7_type_X4 : ∀ w ∈ u_ws RX4 TX4 2, w ∈ wsX7_type := fun _ h => List.mem_cons_of_mem _ (List.mem_append_right _ h)
theorem flX7_type_19 : FL wsX7_type RX7 19 7 1 RX7 TX7 10 := ⟨inX7_type_X7, by decide +kernel, by decide, rfl⟩
theorem flX7_type_82 : FL wsX7_type RX7 82 4 0 RX4 TX4 2 := ⟨inX7_type_X4, by decide +kernel, by decide, rfl⟩
theorem kmX7_clearText : KM yX7_clearText RX7 0 := by unfold KM; decide +kernel
theorem inX7_clearText_X7 : ∀ w ∈ u_ws RX7 TX7 10, w ∈ wsX7_clearText := fun _ h => List.mem_cons_of_mem _ (List.mem_append_left _ (List.mem_append_right _ h))
theorem inX7_clearText_X4 : ∀ w ∈ u_ws RX4 TX4 2, w ∈ wsX7_clearText := fun _ h => List.mem_cons_of_mem _ (List.mem_append_right _ h)
theorem flX7_clearText_19 : FL wsX7_clearText RX7 19 7 1 RX7 TX7 10 := ⟨inX7_clearText_X7, by decide +kernel, by decide, rfl⟩
theorem flX7_clearText_82 : FL wsX7_clearText RX7 82 4 0 RX4 TX4 2 := ⟨inX7_clearText_X4, by decide +kernel, by decide, rfl⟩
theorem kmX7_readPoints : KM yX7_readPoints RX7 0 := by unfold KM; decide +kernel
theorem inX7_readPoints_X7 : ∀ w ∈ u_ws RX7 TX7 10, w ∈ wsX7_readPoints := fun _ h => List.mem_cons_of_mem _ (List.mem_append_left _ (List.mem_append_left _ (List.mem_append_right _ h)))
theorem inX7_readPoints_X5 : ∀ w ∈ u_ws RX5 TX5 3, w ∈ wsX7_readPoints := fun _ h => List.mem_cons_of_mem _ (List.mem_append_left _ (List.mem_append_right _ h))
theorem inX7_readPoints_X4 : ∀ w ∈ u_ws RX4 TX4 2, w ∈ wsX7_readPoints := fun _ h => List.mem_cons_of_mem _ (List.mem_append_right _ h)
theorem flX7_readPoints_19 : FL wsX7_readPoints RX7 19 7 1 RX7 TX7 10 := ⟨inX7_readPoints_X7, by decide +kernel, by decide, rfl⟩
theorem flX7_readPoints_33 : FL wsX7_readPoints RX7 33 7 4 RX7 TX7 10 := ⟨inX7_readPoints_X7, by decide +kernel, by decide, rfl⟩
theorem flX7_readPoints_12 : FL wsX7_readPoints RX7 12 7 0 RX7 TX7 10 := ⟨inX7_readPoints_X7, by decide +kernel, by decide, rfl⟩
theorem flX7_readPoints_72 : FL wsX7_readPoints RX7 72 5 0 RX5 TX5 3 := ⟨inX7_readPoints_X5, by decide +kernel, by decide, rfl⟩
theorem kmX7_draw : KM yX7_draw RX7 1 := by unfold KM; decide +kernel
theorem inX7_draw_X7 : ∀ w ∈ u_ws RX7 TX7 10, w ∈ wsX7_draw := fun _ h => List.mem_cons_of_mem _ (List.mem_append_left _ (List.mem_append_left _ (List.mem_append_left _ (List.mem_append_right _ h))))
theorem inX7_draw_X5 : ∀ w ∈ u_ws RX5 TX5 3, w ∈ wsX7_draw := fun _ h => List.mem_cons_of_mem _ (List.mem_append_left _ (List.mem_append_left _ (List.mem_append_right _ h)))
theorem inX7_draw_X2 : ∀ w ∈ u_ws RX2 TX2 2, w ∈ wsX7_draw := fun _ h => List.mem_cons_of_mem _ (List.mem_append_left _ (List.mem_append_right _ h))
theorem inX7_draw_X0 : ∀ w ∈ u_ws RX0 TX0 5, w ∈ wsX7_draw := fun _ h => List.mem_cons_of_mem _ (List.mem_append_right _ h)
theorem flX7_draw_12 : FL wsX7_draw RX7 12 7 0 RX7 TX7 10 := ⟨inX7_draw_X7, by decide +kernel, by decide, rfl⟩
theorem flX7_draw_72 : FL wsX7_draw RX7 72 5 0 RX5 TX5 3 := ⟨inX7_draw_X5, by decide +kernel, by decide, rfl⟩
theorem flX7_draw_26 : FL wsX7_draw RX7 26 7 2 RX7 TX7 10 := ⟨inX7_draw_X7, by decide +kernel, by decide, rfl⟩
theorem flX7_draw_39 : FL wsX7_draw RX7 39 7 5 RX7 TX7 10 := ⟨inX7_draw_X7, by decide +kernel, by decide, rfl⟩
theorem flX7_draw_107 : FL wsX7_draw RX7 107 2 0 RX2 TX2 2 := ⟨inX7_draw_X2, by decide +kernel, by decide, rfl⟩
theorem kmX7_rub : KM yX7_rub RX7 3 := by unfold KM; decide +kernel
theorem inX7_rub_X7 : ∀ w ∈ u_ws RX7 TX7 10, w ∈ wsX7_rub := fun _ h => List.mem_cons_of_mem _ (List.mem_append_left _ (List.mem_append_left _ (List.mem_append_left _ (List.mem_append_right _ h))))
theorem inX7_rub_X2 : ∀ w ∈ u_ws RX2 TX2 2, w ∈ wsX7_rub := fun _ h => List.mem_cons_of_mem _ (List.mem_append_left _ (List.mem_append_left _ (List.mem_append_right _ h)))
theorem inX7_rub_X5 : ∀ w ∈ u_ws RX5 TX5 3, w ∈ wsX7_rub := fun _ h => List.mem_cons_of_mem _ (List.mem_append_left _ (List.mem_append_right _ h))
theorem inX7_rub_X0 : ∀ w ∈ u_ws RX0 TX0 5, w ∈ wsX7_rub := fun _ h => List.mem_cons_of_mem _ (List.mem_append_right _ h)
theorem flX7_rub_30 : FL wsX7_rub RX7 30 7 3 RX7 TX7 10 := ⟨inX7_rub_X7, by decide +kernel, by decide, rfl⟩
theorem flX7_rub_26 : FL wsX7_rub RX7 26 7 2 RX7 TX7 10 := ⟨inX7_rub_X7, by decide +kernel, by decide, rfl⟩
theorem flX7_rub_107 : FL wsX7_rub RX7 107 2 0 RX2 TX2 2 := ⟨inX7_rub_X2, by decide +kernel, by decide, rfl⟩
theorem flX7_rub_33 : FL wsX7_rub RX7 33 7 4 RX7 TX7 10 := ⟨inX7_rub_X7, by decide +kernel, by decide, rfl⟩
theorem flX7_rub_39 : FL wsX7_rub RX7 39 7 5 RX7 TX7 10 := ⟨inX7_rub_X7, by decide +kernel, by decide, rfl⟩
theorem kmX7_smooth : KM yX7_smooth RX7 2 := by unfold KM; decide +kernel
theorem inX7_smooth_X7 : ∀ w ∈ u_ws RX7 TX7 10, w ∈ wsX7_smooth := fun _ h => List.mem_cons_of_mem _ (List.mem_append_left _ (List.mem_append_left _ (List.mem_append_left _ (List.mem_append_right _ h))))
theorem inX7_smooth_X2 : ∀ w ∈ u_ws RX2 TX2 2, w ∈ wsX7_smooth := fun _ h => List.mem_cons_of_mem _ (List.mem_append_left _ (List.mem_append_left _ (List.mem_append_right _ h)))
theorem inX7_smooth_X5 : ∀ w ∈ u_ws RX5 TX5 3, w ∈ wsX7_smooth := fun _ h => List.mem_cons_of_mem _ (List.mem_append_left _ (List.mem_append_right _ h))
theorem inX7_smooth_X0 : ∀ w ∈ u_ws RX0 TX0 5, w ∈ wsX7_smooth := fun _ h => List.mem_cons_of_mem _ (List.mem_append_right _ h)
theorem flX7_smooth_26 : FL wsX7_smooth RX7 26 7 2 RX7 TX7 10 := ⟨inX7_smooth_X7, by decide +kernel, by decide, rfl⟩
theorem flX7_smooth_33 : FL wsX7_smooth RX7 33 7 4 RX7 TX7 10 := ⟨inX7_smooth_X7, by decide +kernel, by decide, rfl⟩
theorem kmX7_thin : KM yX7_thin RX7 2 := by unfold KM; decide +kernel
theorem inX7_thin_X7 : ∀ w ∈ u_ws RX7 TX7 10, w ∈ wsX7_thin := fun _ h => List.mem_cons_of_mem _ (List.mem_append_left _ (List.mem_append_left _ (List.mem_append_left _ (List.mem_append_right _ h))))
theorem inX7_thin_X2 : ∀ w ∈ u_ws RX2 TX2 2, w ∈ wsX7_thin := fun _ h => List.mem_cons_of_mem _ (List.mem_append_left _ (List.mem_append_left _ (List.mem_append_right _ h)))
theorem inX7_thin_X5 : ∀ w ∈ u_ws RX5 TX5 3, w ∈ wsX7_thin := fun _ h => List.mem_cons_of_mem _ (List.mem_append_left _ (List.mem_append_right _ h))
theorem inX7_thin_X0 : ∀ w ∈ u_ws RX0 TX0 5, w ∈ wsX7_thin := fun _ h => List.mem_cons_of_mem _ (List.mem_append_right _ h)
theorem flX7_thin_26 : FL wsX7_thin RX7 26 7 2 RX7 TX7 10 := ⟨inX7_thin_X7, by decide +kernel, by decide, rfl⟩
theorem flX7_thin_33 : FL wsX7_thin RX7 33 7 4 RX7 TX7 10 := ⟨inX7_thin_X7, by decide +kernel, by decide, rfl⟩
theorem kmX7_join : KM yX7_join RX7 2 := by unfold KM; decide +kernel
theorem inX7_join_X7 : ∀ w ∈ u_ws RX7 TX7 10, w ∈ wsX7_join := fun _ h => List.mem_cons_of_mem _ (List.mem_append_left _ (List.mem_append_left _ (List.mem_append_left _ (List.mem_append_right _ h))))
theorem inX7_join_X5 : ∀ w ∈ u_ws RX5 TX5 3, w ∈ wsX7_join := fun _ h => List.mem_cons_of_mem _ (List.mem_append_left _ (List.mem_append_left _ (List.mem_append_right _ h)))
theorem inX7_join_X2 : ∀ w ∈ u_ws RX2 TX2 2, w ∈ wsX7_join := fun _ h => List.mem_cons_of_mem _ (List.mem_append_left _ (List.mem_append_right _ h))
theorem inX7_join_X0 : ∀ w ∈ u_ws RX0 TX0 5, w ∈ wsX7_join := fun _ h => List.mem_cons_of_mem _ (List.mem_append_right _ h)
theorem flX7_join_26 : FL wsX7_join RX7 26 7 2 RX7 TX7 10 := ⟨inX7_join_X7, by decide +kernel, by decide, rfl⟩
theorem flX7_join_33 : FL wsX7_join RX7 33 7 4 RX7 TX7 10 := ⟨inX7_join_X7, by decide +kernel, by decide, rfl⟩
theorem flX7_join_72 : FL wsX7_join RX7 72 5 0 RX5 TX5 3 := ⟨inX7_join_X5, by decide +kernel, by decide, rfl⟩
theorem flX7_join_39 : FL wsX7_join RX7 39 7 5 RX7 TX7 10 := ⟨inX7_join_X7, by decide +kernel, by decide, rfl⟩
theorem kmX7_shift : KM yX7_shift RX7 3 := by unfold KM; decide +kernel
theorem inX7_shift_X7 : ∀ w ∈ u_ws RX7 TX7 10, w ∈ wsX7_shift := fun _ h => List.mem_cons_of_mem _ (List.mem_append_left _ (List.mem_append_left _ (List.mem_append_left _ (List.mem_append_right _ h))))
theorem inX7_shift_X2 : ∀ w ∈ u_ws RX2 TX2 2, w ∈ wsX7_shift := fun _ h => List.mem_cons_of_mem _ (List.mem_append_left _ (List.mem_append_left _ (List.mem_append_right _ h)))
theorem inX7_shift_X5 : ∀ w ∈ u_ws RX5 TX5 3, w ∈ wsX7_shift := fun _ h => List.mem_cons_of_mem _ (List.mem_append_left _ (List.mem_append_right _ h))
theorem inX7_shift_X0 : ∀ w ∈ u_ws RX0 TX0 5, w ∈ wsX7_shift := fun _ h => List.mem_cons_of_mem _ (List.mem_append_right _ h)
theorem flX7_shift_26 : FL wsX7_shift RX7 26 7 2 RX7 TX7 10 := ⟨inX7_shift_X7, by decide +kernel, by decide, rfl⟩
theorem flX7_shift_33 : FL wsX7_shift RX7 33 7 4 RX7 TX7 10 := ⟨inX7_shift_X7, by decide +kernel, by decide, rfl⟩
theorem kmX7_paint : KM yX7_paint RX7 2 := by unfold KM; decide +kernel
theorem inX7_paint_X7 : ∀ w ∈ u_ws RX7 TX7 10, w ∈ wsX7_paint := fun _ h => List.mem_cons_of_mem _ (List.mem_append_left _ (List.mem_append_left _ (List.mem_append_right _ h)))
theorem inX7_paint_X2 : ∀ w ∈ u_ws RX2 TX2 2, w ∈ wsX7_paint := fun _ h => List.mem_cons_of_mem _ (List.mem_append_left _ (List.mem_append_right _ h))
theorem inX7_paint_X0 : ∀ w ∈ u_ws RX0 TX0 5, w ∈ wsX7_paint := fun _ h => List.mem_cons_of_mem _ (List.mem_append_right _ h)
theorem flX7_paint_26 : FL wsX7_paint RX7 26 7 2 RX7 TX7 10 := ⟨inX7_paint_X7, by decide +kernel, by decide, rfl⟩
theorem flX7_paint_39 : FL wsX7_paint RX7 39 7 5 RX7 TX7 10 := ⟨inX7_paint_X7, by decide +kernel, by decide, rfl⟩
theorem kmX7_remove : KM yX7_remove RX7 1 := by unfold KM; decide +kernel
theorem inX7_remove_X7 : ∀ w ∈ u_ws RX7 TX7 10, w ∈ wsX7_remove := fun _ h => List.mem_cons_of_mem _ (List.mem_append_left _ (List.mem_append_left _ (List.mem_append_right _ h)))
theorem inX7_remove_X2 : ∀ w ∈ u_ws RX2 TX2 2, w ∈ wsX7_remove := fun _ h => List.mem_cons_of_mem _ (List.mem_append_left _ (List.mem_append_right _ h))
theorem inX7_remove_X0 : ∀ w ∈ u_ws RX0 TX0 5, w ∈ wsX7_remove := fun _ h => List.mem_cons_of_mem _ (List.mem_append_right _ h)
theorem flX7_remove_26 : FL wsX7_remove RX7 26 7 2 RX7 TX7 10 := ⟨inX7_remove_X7, by decide +kernel, by decide, rfl⟩
theorem flX7_remove_39 : FL wsX7_remove RX7 39 7 5 RX7 TX7 10 := ⟨inX7_remove_X7, by decide +kernel, by decide, rfl⟩
theorem flX7_remove_107 : FL wsX7_remove RX7 107 2 0 RX2 TX2 2 := ⟨inX7_remove_X2, by decide +kernel, by decide, rfl⟩
theorem kmX7_undo : KM yX7_undo RX7 0 := by unfold KM; decide +kernel
theorem inX7_undo_X7 : ∀ w ∈ u_ws RX7 TX7 10, w ∈ wsX7_undo := fun _ h => List.mem_cons_of_mem _ (List.mem_append_left _ (List.mem_append_left _ (List.mem_append_right _ h)))
theorem inX7_undo_X0 : ∀ w ∈ u_ws RX0 TX0 5, w ∈ wsX7_undo := fun _ h => List.mem_cons_of_mem _ (List.mem_append_left _ (List.mem_append_right _ h))
theorem inX7_undo_X2 : ∀ w ∈ u_ws RX2 TX2 2, w ∈ wsX7_undo := fun _ h => List.mem_cons_of_mem _ (List.mem_append_right _ h)
theorem flX7_undo_39 : FL wsX7_undo RX7 39 7 5 RX7 TX7 10 := ⟨inX7_undo_X7, by decide +kernel, by decide, rfl⟩
theorem flX7_undo_182 : FL wsX7_undo RX7 182 0 0 RX0 TX0 5 := ⟨inX7_undo_X0, by decide +kernel, by decide, rfl⟩
theorem flX7_undo_26 : FL wsX7_undo RX7 26 7 2 RX7 TX7 10 := ⟨inX7_undo_X7, by decide +kernel, by decide, rfl⟩
theorem kmX7_redo : KM yX7_redo RX7 0 := by unfold KM; decide +kernel
theorem inX7_redo_X7 : ∀ w ∈ u_ws RX7 TX7 10, w ∈ wsX7_redo := fun _ h => List.mem_cons_of_mem _ (List.mem_append_left _ (List.mem_append_left _ (List.mem_append_right _ h)))
theorem inX7_redo_X0 : ∀ w ∈ u_ws RX0 TX0 5, w ∈ wsX7_redo := fun _ h => List.mem_cons_of_mem _ (List.mem_append_left _ (List.mem_append_right _ h))
theorem inX7_redo_X2 : ∀ w ∈ u_ws RX2 TX2 2, w ∈ wsX7_redo := fun _ h => List.mem_cons_of_mem _ (List.mem_append_right _ h)
theorem flX7_redo_39 : FL wsX7_redo RX7 39 7 5 RX7 TX7 10 := ⟨inX7_redo_X7, by decide +kernel, by decide, rfl⟩
theorem flX7_redo_188 : FL wsX7_redo RX7 188 0 1 RX0 TX0 5 := ⟨inX7_redo_X0, by decide +kernel, by decide, rfl⟩
theorem flX7_redo_26 : FL wsX7_redo RX7 26 7 2 RX7 TX7 10 := ⟨inX7_redo_X7, by decide +kernel, by decide, rfl⟩
theorem kmX7_stroke : KM yX7_stroke RX7 2 := by unfold KM; decide +kernel
theorem inX7_stroke_X7 : ∀ w ∈ u_ws RX7 TX7 10, w ∈ wsX7_stroke := fun _ h => List.mem_cons_of_mem _ (List.mem_append_left _ (List.mem_append_left _ (List.mem_append_left _ (List.mem_append_right _ h))))
theorem inX7_stroke_X1 : ∀ w ∈ u_ws RX1 TX1 8, w ∈ wsX7_stroke := fun _ h => List.mem_cons_of_mem _ (List.mem_append_left _ (List.mem_append_left _ (List.mem_append_right _ h)))
theorem inX7_stroke_X6 : ∀ w ∈ u_ws RX6 TX6 12, w ∈ wsX7_stroke := fun _ h => List.mem_cons_of_mem _ (List.mem_append_left _ (List.mem_append_right _ h))
theorem inX7_stroke_X2 : ∀ w ∈ u_ws RX2 TX2 2, w ∈ wsX7_stroke := fun _ h => List.mem_cons_of_mem _ (List.mem_append_right _ h)
theorem flX7_stroke_26 : FL wsX7_stroke RX7 26 7 2 RX7 TX7 10 := ⟨inX7_stroke_X7, by decide +kernel, by decide, rfl⟩
theorem flX7_stroke_46 : FL wsX7_stroke RX7 46 7 6 RX7 TX7 10 := ⟨inX7_stroke_X7, by decide +kernel, by decide, rfl⟩
theorem flX7_stroke_199 : FL wsX7_stroke RX7 199 1 1 RX1 TX1 8 := ⟨inX7_stroke_X1, by decide +kernel, by decide, rfl⟩
theorem flX7_stroke_53 : FL wsX7_stroke RX7 53 7 7 RX7 TX7 10 := ⟨inX7_stroke_X7, by decide +kernel, by decide, rfl⟩
theorem flX7_stroke_203 : FL wsX7_stroke RX7 203 6 3 RX6 TX6 12 := ⟨inX7_stroke_X6, by decide +kernel, by decide, rfl⟩
theorem flX7_stroke_206 : FL wsX7_stroke RX7 206 6 2 RX6 TX6 12 := ⟨inX7_stroke_X6, by decide +kernel, by decide, rfl⟩
theorem kmX7_point : KM yX7_point RX7 3 := by unfold KM; decide +kernel
theorem inX7_point_X7 : ∀ w ∈ u_ws RX7 TX7 10, w ∈ wsX7_point := fun _ h => List.mem_cons_of_mem _ (List.mem_append_left _ (List.mem_append_right _ h))
theorem inX7_point_X2 : ∀ w ∈ u_ws RX2 TX2 2, w ∈ wsX7_point := fun _ h => List.mem_cons_of_mem _ (List.mem_append_right _ h)
theorem flX7_point_26 : FL wsX7_point RX7 26 7 2 RX7 TX7 10 := ⟨inX7_point_X7, by decide +kernel, by decide, rfl⟩
theorem kmX7_read : KM yX7_read RX7 1 := by unfold KM; decide +kernel
theorem inX7_read_X7 : ∀ w ∈ u_ws RX7 TX7 10, w ∈ wsX7_read := fun _ h => List.mem_cons_of_mem _ (List.mem_append_left _ (List.mem_append_left _ (List.mem_append_left _ (List.mem_append_right _ h))))
theorem inX7_read_X2 : ∀ w ∈ u_ws RX2 TX2 2, w ∈ wsX7_read := fun _ h => List.mem_cons_of_mem _ (List.mem_append_left _ (List.mem_append_left _ (List.mem_append_right _ h)))
theorem inX7_read_X6 : ∀ w ∈ u_ws RX6 TX6 12, w ∈ wsX7_read := fun _ h => List.mem_cons_of_mem _ (List.mem_append_left _ (List.mem_append_right _ h))
theorem inX7_read_X1 : ∀ w ∈ u_ws RX1 TX1 8, w ∈ wsX7_read := fun _ h => List.mem_cons_of_mem _ (List.mem_append_right _ h)
theorem flX7_read_26 : FL wsX7_read RX7 26 7 2 RX7 TX7 10 := ⟨inX7_read_X7, by decide +kernel, by decide, rfl⟩
theorem flX7_read_107 : FL wsX7_read RX7 107 2 0 RX2 TX2 2 := ⟨inX7_read_X2, by decide +kernel, by decide, rfl⟩
theorem flX7_read_53 : FL wsX7_read RX7 53 7 7 RX7 TX7 10 := ⟨inX7_read_X7, by decide +kernel, by decide, rfl⟩
theorem flX7_read_209 : FL wsX7_read RX7 209 6 1 RX6 TX6 12 := ⟨inX7_read_X6, by decide +kernel, by decide, rfl⟩
theorem kmX7_line : KM yX7_line RX7 2 := by unfold KM; decide +kernel
theorem inX7_line_X7 : ∀ w ∈ u_ws RX7 TX7 10, w ∈ wsX7_line := fun _ h => List.mem_cons_of_mem _ (List.mem_append_left _ (List.mem_append_left _ (List.mem_append_left _ (List.mem_append_right _ h))))
theorem inX7_line_X1 : ∀ w ∈ u_ws RX1 TX1 8, w ∈ wsX7_line := fun _ h => List.mem_cons_of_mem _ (List.mem_append_left _ (List.mem_append_left _ (List.mem_append_right _ h)))
theorem inX7_line_X6 : ∀ w ∈ u_ws RX6 TX6 12, w ∈ wsX7_line := fun _ h => List.mem_cons_of_mem _ (List.mem_append_left _ (List.mem_append_right _ h))
theorem inX7_line_X2 : ∀ w ∈ u_ws RX2 TX2 2, w ∈ wsX7_line := fun _ h => List.mem_cons_of_mem _ (List.mem_append_right _ h)
theorem flX7_line_46 : FL wsX7_line RX7 46 7 6 RX7 TX7 10 := ⟨inX7_line_X7, by decide +kernel, by decide, rfl⟩
theorem flX7_line_212 : FL wsX7_line RX7 212 1 0 RX1 TX1 8 := ⟨inX7_line_X1, by decide +kernel, by decide, rfl⟩
theorem flX7_line_215 : FL wsX7_line RX7 215 1 2 RX1 TX1 8 := ⟨inX7_line_X1, by decide +kernel, by decide, rfl⟩
theorem flX7_line_218 : FL wsX7_line RX7 218 1 3 RX1 TX1 8 := ⟨inX7_line_X1, by decide +kernel, by decide, rfl⟩
theorem flX7_line_221 : FL wsX7_line RX7 221 1 4 RX1 TX1 8 := ⟨inX7_line_X1, by decide +kernel, by decide, rfl⟩
theorem flX7_line_53 : FL wsX7_line RX7 53 7 7 RX7 TX7 10 := ⟨inX7_line_X7, by decide +kernel, by decide, rfl⟩
theorem flX7_line_224 : FL wsX7_line RX7 224 6 9 RX6 TX6 12 := ⟨inX7_line_X6, by decide +kernel, by decide, rfl⟩
theorem flX7_line_227 : FL wsX7_line RX7 227 6 10 RX6 TX6 12 := ⟨inX7_line_X6, by decide +kernel, by decide, rfl⟩
theorem kmX7_word : KM yX7_word RX7 2 := by unfold KM; decide +kernel
theorem inX7_word_X7 : ∀ w ∈ u_ws RX7 TX7 10, w ∈ wsX7_word := fun _ h => List.mem_cons_of_mem _ (List.mem_append_left _ (List.mem_append_left _ (List.mem_append_left _ (List.mem_append_right _ h))))
theorem inX7_word_X6 : ∀ w ∈ u_ws RX6 TX6 12, w ∈ wsX7_word := fun _ h => List.mem_cons_of_mem _ (List.mem_append_left _ (List.mem_append_left _ (List.mem_append_right _ h)))
theorem inX7_word_X1 : ∀ w ∈ u_ws RX1 TX1 8, w ∈ wsX7_word := fun _ h => List.mem_cons_of_mem _ (List.mem_append_left _ (List.mem_append_right _ h))
theorem inX7_word_X2 : ∀ w ∈ u_ws RX2 TX2 2, w ∈ wsX7_word := fun _ h => List.mem_cons_of_mem _ (List.mem_append_right _ h)
theorem flX7_word_53 : FL wsX7_word RX7 53 7 7 RX7 TX7 10 := ⟨inX7_word_X7, by decide +kernel, by decide, rfl⟩
theorem flX7_word_230 : FL wsX7_word RX7 230 6 0 RX6 TX6 12 := ⟨inX7_word_X6, by decide +kernel, by decide, rfl⟩
theorem flX7_word_231 : FL wsX7_word RX7 231 6 4 RX6 TX6 12 := ⟨inX7_word_X6, by decide +kernel, by decide, rfl⟩
theorem flX7_word_233 : FL wsX7_word RX7 233 6 5 RX6 TX6 12 := ⟨inX7_word_X6, by decide +kernel, by decide, rfl⟩
theorem flX7_word_234 : FL wsX7_word RX7 234 6 6 RX6 TX6 12 := ⟨inX7_word_X6, by decide +kernel, by decide, rfl⟩
theorem flX7_word_237 : FL wsX7_word RX7 237 6 7 RX6 TX6 12 := ⟨inX7_word_X6, by decide +kernel, by decide, rfl⟩
theorem flX7_word_240 : FL wsX7_word RX7 240 6 8 RX6 TX6 12 := ⟨inX7_word_X6, by decide +kernel, by decide, rfl⟩
theorem kmX7_setGap : KM yX7_setGap RX7 1 := by unfold KM; decide +kernel
theorem inX7_setGap_X7 : ∀ w ∈ u_ws RX7 TX7 10, w ∈ wsX7_setGap := fun _ h => List.mem_cons_of_mem _ (List.mem_append_right _ h)
theorem flX7_setGap_64 : FL wsX7_setGap RX7 64 7 9 RX7 TX7 10 := ⟨inX7_setGap_X7, by decide +kernel, by decide, rfl⟩
theorem kmX7_nearest : KM yX7_nearest RX7 2 := by unfold KM; decide +kernel
theorem inX7_nearest_X7 : ∀ w ∈ u_ws RX7 TX7 10, w ∈ wsX7_nearest := fun _ h => List.mem_cons_of_mem _ (List.mem_append_left _ (List.mem_append_right _ h))
theorem inX7_nearest_X2 : ∀ w ∈ u_ws RX2 TX2 2, w ∈ wsX7_nearest := fun _ h => List.mem_cons_of_mem _ (List.mem_append_right _ h)
theorem flX7_nearest_26 : FL wsX7_nearest RX7 26 7 2 RX7 TX7 10 := ⟨inX7_nearest_X7, by decide +kernel, by decide, rfl⟩
theorem flX7_nearest_107 : FL wsX7_nearest RX7 107 2 0 RX2 TX2 2 := ⟨inX7_nearest_X2, by decide +kernel, by decide, rfl⟩
theorem kmX7_cell : KM yX7_cell RX7 2 := by unfold KM; decide +kernel
theorem inX7_cell_X7 : ∀ w ∈ u_ws RX7 TX7 10, w ∈ wsX7_cell := fun _ h => List.mem_cons_of_mem _ (List.mem_append_left _ (List.mem_append_right _ h))
theorem inX7_cell_X2 : ∀ w ∈ u_ws RX2 TX2 2, w ∈ wsX7_cell := fun _ h => List.mem_cons_of_mem _ (List.mem_append_right _ h)
theorem flX7_cell_26 : FL wsX7_cell RX7 26 7 2 RX7 TX7 10 := ⟨inX7_cell_X7, by decide +kernel, by decide, rfl⟩
theorem flX7_cell_107 : FL wsX7_cell RX7 107 2 0 RX2 TX2 2 := ⟨inX7_cell_X2, by decide +kernel, by decide, rfl⟩
theorem kmX7_color : KM yX7_color RX7 2 := by unfold KM; decide +kernel
theorem inX7_color_X7 : ∀ w ∈ u_ws RX7 TX7 10, w ∈ wsX7_color := fun _ h => List.mem_cons_of_mem _ (List.mem_append_left _ (List.mem_append_left _ (List.mem_append_right _ h)))
theorem inX7_color_X3 : ∀ w ∈ u_ws RX3 TX3 4, w ∈ wsX7_color := fun _ h => List.mem_cons_of_mem _ (List.mem_append_left _ (List.mem_append_right _ h))
theorem inX7_color_X2 : ∀ w ∈ u_ws RX2 TX2 2, w ∈ wsX7_color := fun _ h => List.mem_cons_of_mem _ (List.mem_append_right _ h)
theorem flX7_color_26 : FL wsX7_color RX7 26 7 2 RX7 TX7 10 := ⟨inX7_color_X7, by decide +kernel, by decide, rfl⟩
theorem flX7_color_60 : FL wsX7_color RX7 60 7 8 RX7 TX7 10 := ⟨inX7_color_X7, by decide +kernel, by decide, rfl⟩
theorem flX7_color_256 : FL wsX7_color RX7 256 3 0 RX3 TX3 4 := ⟨inX7_color_X3, by decide +kernel, by decide, rfl⟩
theorem kmX7_count : KM yX7_count RX7 1 := by unfold KM; decide +kernel
theorem inX7_count_X7 : ∀ w ∈ u_ws RX7 TX7 10, w ∈ wsX7_count := fun _ h => List.mem_cons_of_mem _ (List.mem_append_left _ (List.mem_append_left _ (List.mem_append_left _ (List.mem_append_left _ (List.mem_append_left _ (List.mem_append_left _ (List.mem_append_right _ h)))))))
theorem inX7_count_X2 : ∀ w ∈ u_ws RX2 TX2 2, w ∈ wsX7_count := fun _ h => List.mem_cons_of_mem _ (List.mem_append_left _ (List.mem_append_left _ (List.mem_append_left _ (List.mem_append_left _ (List.mem_append_left _ (List.mem_append_right _ h))))))
theorem inX7_count_X1 : ∀ w ∈ u_ws RX1 TX1 8, w ∈ wsX7_count := fun _ h => List.mem_cons_of_mem _ (List.mem_append_left _ (List.mem_append_left _ (List.mem_append_left _ (List.mem_append_left _ (List.mem_append_right _ h)))))
theorem inX7_count_X6 : ∀ w ∈ u_ws RX6 TX6 12, w ∈ wsX7_count := fun _ h => List.mem_cons_of_mem _ (List.mem_append_left _ (List.mem_append_left _ (List.mem_append_left _ (List.mem_append_right _ h))))
theorem inX7_count_X3 : ∀ w ∈ u_ws RX3 TX3 4, w ∈ wsX7_count := fun _ h => List.mem_cons_of_mem _ (List.mem_append_left _ (List.mem_append_left _ (List.mem_append_right _ h)))
theorem inX7_count_X5 : ∀ w ∈ u_ws RX5 TX5 3, w ∈ wsX7_count := fun _ h => List.mem_cons_of_mem _ (List.mem_append_left _ (List.mem_append_right _ h))
theorem inX7_count_X0 : ∀ w ∈ u_ws RX0 TX0 5, w ∈ wsX7_count := fun _ h => List.mem_cons_of_mem _ (List.mem_append_right _ h)
theorem flX7_count_26 : FL wsX7_count RX7 26 7 2 RX7 TX7 10 := ⟨inX7_count_X7, by decide +kernel, by decide, rfl⟩
theorem flX7_count_107 : FL wsX7_count RX7 107 2 0 RX2 TX2 2 := ⟨inX7_count_X2, by decide +kernel, by decide, rfl⟩
theorem flX7_count_46 : FL wsX7_count RX7 46 7 6 RX7 TX7 10 := ⟨inX7_count_X7, by decide +kernel, by decide, rfl⟩
theorem flX7_count_212 : FL wsX7_count RX7 212 1 0 RX1 TX1 8 := ⟨inX7_count_X1, by decide +kernel, by decide, rfl⟩
theorem flX7_count_53 : FL wsX7_count RX7 53 7 7 RX7 TX7 10 := ⟨inX7_count_X7, by decide +kernel, by decide, rfl⟩
theorem flX7_count_230 : FL wsX7_count RX7 230 6 0 RX6 TX6 12 := ⟨inX7_count_X6, by decide +kernel, by decide, rfl⟩
theorem flX7_count_60 : FL wsX7_count RX7 60 7 8 RX7 TX7 10 := ⟨inX7_count_X7, by decide +kernel, by decide, rfl⟩
theorem flX7_count_256 : FL wsX7_count RX7 256 3 0 RX3 TX3 4 := ⟨inX7_count_X3, by decide +kernel, by decide, rfl⟩
theorem flX7_count_259 : FL wsX7_count RX7 259 3 1 RX3 TX3 4 := ⟨inX7_count_X3, by decide +kernel, by decide, rfl⟩
theorem flX7_count_12 : FL wsX7_count RX7 12 7 0 RX7 TX7 10 := ⟨inX7_count_X7, by decide +kernel, by decide, rfl⟩
theorem flX7_count_72 : FL wsX7_count RX7 72 5 0 RX5 TX5 3 := ⟨inX7_count_X5, by decide +kernel, by decide, rfl⟩
theorem flX7_count_39 : FL wsX7_count RX7 39 7 5 RX7 TX7 10 := ⟨inX7_count_X7, by decide +kernel, by decide, rfl⟩
theorem flX7_count_182 : FL wsX7_count RX7 182 0 0 RX0 TX0 5 := ⟨inX7_count_X0, by decide +kernel, by decide, rfl⟩
theorem flX7_count_188 : FL wsX7_count RX7 188 0 1 RX0 TX0 5 := ⟨inX7_count_X0, by decide +kernel, by decide, rfl⟩
theorem flX7_count_64 : FL wsX7_count RX7 64 7 9 RX7 TX7 10 := ⟨inX7_count_X7, by decide +kernel, by decide, rfl⟩
theorem kmX7_endPart : KM yX7_endPart RX7 1 := by unfold KM; decide +kernel
theorem inX7_endPart_X7 : ∀ w ∈ u_ws RX7 TX7 10, w ∈ wsX7_endPart := fun _ h => List.mem_cons_of_mem _ (List.mem_append_left _ (List.mem_append_left _ (List.mem_append_right _ h)))
theorem inX7_endPart_X5 : ∀ w ∈ u_ws RX5 TX5 3, w ∈ wsX7_endPart := fun _ h => List.mem_cons_of_mem _ (List.mem_append_left _ (List.mem_append_right _ h))
theorem inX7_endPart_X2 : ∀ w ∈ u_ws RX2 TX2 2, w ∈ wsX7_endPart := fun _ h => List.mem_cons_of_mem _ (List.mem_append_right _ h)
theorem flX7_endPart_33 : FL wsX7_endPart RX7 33 7 4 RX7 TX7 10 := ⟨inX7_endPart_X7, by decide +kernel, by decide, rfl⟩
theorem flX7_endPart_72 : FL wsX7_endPart RX7 72 5 0 RX5 TX5 3 := ⟨inX7_endPart_X5, by decide +kernel, by decide, rfl⟩
theorem flX7_endPart_30 : FL wsX7_endPart RX7 30 7 3 RX7 TX7 10 := ⟨inX7_endPart_X7, by decide +kernel, by decide, rfl⟩
theorem kmX7_replace : KM yX7_replace RX7 1 := by unfold KM; decide +kernel
theorem inX7_replace_X7 : ∀ w ∈ u_ws RX7 TX7 10, w ∈ wsX7_replace := fun _ h => List.mem_cons_of_mem _ (List.mem_append_left _ (List.mem_append_left _ (List.mem_append_left _ (List.mem_append_right _ h))))
theorem inX7_replace_X5 : ∀ w ∈ u_ws RX5 TX5 3, w ∈ wsX7_replace := fun _ h => List.mem_cons_of_mem _ (List.mem_append_left _ (List.mem_append_left _ (List.mem_append_right _ h)))
theorem inX7_replace_X2 : ∀ w ∈ u_ws RX2 TX2 2, w ∈ wsX7_replace := fun _ h => List.mem_cons_of_mem _ (List.mem_append_left _ (List.mem_append_right _ h))
theorem inX7_replace_X0 : ∀ w ∈ u_ws RX0 TX0 5, w ∈ wsX7_replace := fun _ h => List.mem_cons_of_mem _ (List.mem_append_right _ h)
theorem flX7_replace_26 : FL wsX7_replace RX7 26 7 2 RX7 TX7 10 := ⟨inX7_replace_X7, by decide +kernel, by decide, rfl⟩
theorem flX7_replace_33 : FL wsX7_replace RX7 33 7 4 RX7 TX7 10 := ⟨inX7_replace_X7, by decide +kernel, by decide, rfl⟩
theorem flX7_replace_39 : FL wsX7_replace RX7 39 7 5 RX7 TX7 10 := ⟨inX7_replace_X7, by decide +kernel, by decide, rfl⟩
theorem flX7_replace_72 : FL wsX7_replace RX7 72 5 0 RX5 TX5 3 := ⟨inX7_replace_X5, by decide +kernel, by decide, rfl⟩
theorem kmX7_layOut : KM yX7_layOut RX7 0 := by unfold KM; decide +kernel
theorem inX7_layOut_X7 : ∀ w ∈ u_ws RX7 TX7 10, w ∈ wsX7_layOut := fun _ h => List.mem_cons_of_mem _ (List.mem_append_left _ (List.mem_append_left _ (List.mem_append_left _ (List.mem_append_right _ h))))
theorem inX7_layOut_X1 : ∀ w ∈ u_ws RX1 TX1 8, w ∈ wsX7_layOut := fun _ h => List.mem_cons_of_mem _ (List.mem_append_left _ (List.mem_append_left _ (List.mem_append_right _ h)))
theorem inX7_layOut_X2 : ∀ w ∈ u_ws RX2 TX2 2, w ∈ wsX7_layOut := fun _ h => List.mem_cons_of_mem _ (List.mem_append_left _ (List.mem_append_right _ h))
theorem inX7_layOut_X6 : ∀ w ∈ u_ws RX6 TX6 12, w ∈ wsX7_layOut := fun _ h => List.mem_cons_of_mem _ (List.mem_append_right _ h)
theorem flX7_layOut_46 : FL wsX7_layOut RX7 46 7 6 RX7 TX7 10 := ⟨inX7_layOut_X7, by decide +kernel, by decide, rfl⟩
theorem flX7_layOut_26 : FL wsX7_layOut RX7 26 7 2 RX7 TX7 10 := ⟨inX7_layOut_X7, by decide +kernel, by decide, rfl⟩
theorem flX7_layOut_53 : FL wsX7_layOut RX7 53 7 7 RX7 TX7 10 := ⟨inX7_layOut_X7, by decide +kernel, by decide, rfl⟩
theorem flX7_layOut_64 : FL wsX7_layOut RX7 64 7 9 RX7 TX7 10 := ⟨inX7_layOut_X7, by decide +kernel, by decide, rfl⟩
theorem kmX7_isWithin : KM yX7_isWithin RX7 3 := by unfold KM; decide +kernel
theorem kmX7_isCoordinate : KM yX7_isCoordinate RX7 1 := by unfold KM; decide +kernel
theorem kmX7_isColor : KM yX7_isColor RX7 1 := by unfold KM; decide +kernel
theorem kmX7_square : KM yX7_square RX7 2 := by unfold KM; decide +kernel
theorem kmX7_cellOf : KM yX7_cellOf RX7 2 := by unfold KM; decide +kernel
theorem kmX7_root : KM yX7_root RX7 1 := by unfold KM; decide +kernel
theorem kmX8_init : KM yX8_init RX8 0 := by unfold KM; decide +kernel
theorem inX8_init_X8 : ∀ w ∈ u_ws RX8 TX8 31, w ∈ wsX8_init := fun _ h => List.mem_cons_of_mem _ (List.mem_append_right _ h)
theorem flX8_init_7 : FL wsX8_init RX8 7 8 0 RX8 TX8 31 := ⟨inX8_init_X8, by decide +kernel, by decide, rfl⟩
theorem flX8_init_13 : FL wsX8_init RX8 13 8 1 RX8 TX8 31 := ⟨inX8_init_X8, by decide +kernel, by decide, rfl⟩
theorem flX8_init_17 : FL wsX8_init RX8 17 8 2 RX8 TX8 31 := ⟨inX8_init_X8, by decide +kernel, by decide, rfl⟩
theorem flX8_init_20 : FL wsX8_init RX8 20 8 4 RX8 TX8 31 := ⟨inX8_init_X8, by decide +kernel, by decide, rfl⟩
theorem flX8_init_23 : FL wsX8_init RX8 23 8 7 RX8 TX8 31 := ⟨inX8_init_X8, by decide +kernel, by decide, rfl⟩
theorem flX8_init_26 : FL wsX8_init RX8 26 8 8 RX8 TX8 31 := ⟨inX8_init_X8, by decide +kernel, by decide, rfl⟩
theorem flX8_init_29 : FL wsX8_init RX8 29 8 10 RX8 TX8 31 := ⟨inX8_init_X8, by decide +kernel, by decide, rfl⟩
theorem flX8_init_33 : FL wsX8_init RX8 33 8 13 RX8 TX8 31 := ⟨inX8_init_X8, by decide +kernel, by decide, rfl⟩
theorem flX8_init_36 : FL wsX8_init RX8 36 8 14 RX8 TX8 31 := ⟨inX8_init_X8, by decide +kernel, by decide, rfl⟩
theorem flX8_init_39 : FL wsX8_init RX8 39 8 16 RX8 TX8 31 := ⟨inX8_init_X8, by decide +kernel, by decide, rfl⟩
theorem flX8_init_42 : FL wsX8_init RX8 42 8 18 RX8 TX8 31 := ⟨inX8_init_X8, by decide +kernel, by decide, rfl⟩
theorem flX8_init_45 : FL wsX8_init RX8 45 8 19 RX8 TX8 31 := ⟨inX8_init_X8, by decide +kernel, by decide, rfl⟩
theorem flX8_init_48 : FL wsX8_init RX8 48 8 20 RX8 TX8 31 := ⟨inX8_init_X8, by decide +kernel, by decide, rfl⟩
theorem flX8_init_51 : FL wsX8_init RX8 51 8 21 RX8 TX8 31 := ⟨inX8_init_X8, by decide +kernel, by decide, rfl⟩
theorem flX8_init_54 : FL wsX8_init RX8 54 8 23 RX8 TX8 31 := ⟨inX8_init_X8, by decide +kernel, by decide, rfl⟩
theorem flX8_init_57 : FL wsX8_init RX8 57 8 24 RX8 TX8 31 := ⟨inX8_init_X8, by decide +kernel, by decide, rfl⟩
theorem flX8_init_60 : FL wsX8_init RX8 60 8 25 RX8 TX8 31 := ⟨inX8_init_X8, by decide +kernel, by decide, rfl⟩
theorem flX8_init_63 : FL wsX8_init RX8 63 8 26 RX8 TX8 31 := ⟨inX8_init_X8, by decide +kernel, by decide, rfl⟩
theorem flX8_init_66 : FL wsX8_init RX8 66 8 28 RX8 TX8 31 := ⟨inX8_init_X8, by decide +kernel, by decide, rfl⟩
theorem flX8_init_69 : FL wsX8_init RX8 69 8 29 RX8 TX8 31 := ⟨inX8_init_X8, by decide +kernel, by decide, rfl⟩
theorem flX8_init_72 : FL wsX8_init RX8 72 8 30 RX8 TX8 31 := ⟨inX8_init_X8, by decide +kernel, by decide, rfl⟩
theorem kmX8_in : KM yX8_in RX8 3 := by unfold KM; decide +kernel
theorem kmX8_isPlace : KM yX8_isPlace RX8 1 := by unfold KM; decide +kernel
theorem kmX8_strokes : KM yX8_strokes RX8 0 := by unfold KM; decide +kernel
theorem inX8_strokes_X8 : ∀ w ∈ u_ws RX8 TX8 31, w ∈ wsX8_strokes := fun _ h => List.mem_cons_of_mem _ (List.mem_append_right _ h)
theorem flX8_strokes_7 : FL wsX8_strokes RX8 7 8 0 RX8 TX8 31 := ⟨inX8_strokes_X8, by decide +kernel, by decide, rfl⟩
theorem kmX8_size : KM yX8_size RX8 1 := by unfold KM; decide +kernel
theorem inX8_size_X8 : ∀ w ∈ u_ws RX8 TX8 31, w ∈ wsX8_size := fun _ h => List.mem_cons_of_mem _ (List.mem_append_right _ h)
theorem flX8_size_7 : FL wsX8_size RX8 7 8 0 RX8 TX8 31 := ⟨inX8_size_X8, by decide +kernel, by decide, rfl⟩
theorem kmX8_x : KM yX8_x RX8 2 := by unfold KM; decide +kernel
theorem inX8_x_X8 : ∀ w ∈ u_ws RX8 TX8 31, w ∈ wsX8_x := fun _ h => List.mem_cons_of_mem _ (List.mem_append_right _ h)
theorem flX8_x_7 : FL wsX8_x RX8 7 8 0 RX8 TX8 31 := ⟨inX8_x_X8, by decide +kernel, by decide, rfl⟩
theorem kmX8_y : KM yX8_y RX8 2 := by unfold KM; decide +kernel
theorem inX8_y_X8 : ∀ w ∈ u_ws RX8 TX8 31, w ∈ wsX8_y := fun _ h => List.mem_cons_of_mem _ (List.mem_append_right _ h)
theorem flX8_y_7 : FL wsX8_y RX8 7 8 0 RX8 TX8 31 := ⟨inX8_y_X8, by decide +kernel, by decide, rfl⟩
theorem kmX8_copyRow : KM yX8_copyRow RX8 4 := by unfold KM; decide +kernel
theorem kmX8_push : KM yX8_push RX8 0 := by unfold KM; decide +kernel
theorem inX8_push_X8 : ∀ w ∈ u_ws RX8 TX8 31, w ∈ wsX8_push := fun _ h => List.mem_cons_of_mem _ (List.mem_append_right _ h)
theorem flX8_push_79 : FL wsX8_push RX8 79 8 3 RX8 TX8 31 := ⟨inX8_push_X8, by decide +kernel, by decide, rfl⟩
theorem flX8_push_17 : FL wsX8_push RX8 17 8 2 RX8 TX8 31 := ⟨inX8_push_X8, by decide +kernel, by decide, rfl⟩
theorem flX8_push_7 : FL wsX8_push RX8 7 8 0 RX8 TX8 31 := ⟨inX8_push_X8, by decide +kernel, by decide, rfl⟩
theorem kmX8_record : KM yX8_record RX8 0 := by unfold KM; decide +kernel
theorem inX8_record_X8 : ∀ w ∈ u_ws RX8 TX8 31, w ∈ wsX8_record := fun _ h => List.mem_cons_of_mem _ (List.mem_append_right _ h)
theorem flX8_record_89 : FL wsX8_record RX8 89 8 5 RX8 TX8 31 := ⟨inX8_record_X8, by decide +kernel, by decide, rfl⟩
theorem kmX8_undo : KM yX8_undo RX8 0 := by unfold KM; decide +kernel
theorem inX8_undo_X8 : ∀ w ∈ u_ws RX8 TX8 31, w ∈ wsX8_undo := fun _ h => List.mem_cons_of_mem _ (List.mem_append_right _ h)
theorem flX8_undo_79 : FL wsX8_undo RX8 79 8 3 RX8 TX8 31 := ⟨inX8_undo_X8, by decide +kernel, by decide, rfl⟩
theorem flX8_undo_7 : FL wsX8_undo RX8 7 8 0 RX8 TX8 31 := ⟨inX8_undo_X8, by decide +kernel, by decide, rfl⟩
theorem flX8_undo_20 : FL wsX8_undo RX8 20 8 4 RX8 TX8 31 := ⟨inX8_undo_X8, by decide +kernel, by decide, rfl⟩
theorem flX8_undo_89 : FL wsX8_undo RX8 89 8 5 RX8 TX8 31 := ⟨inX8_undo_X8, by decide +kernel, by decide, rfl⟩
theorem flX8_undo_17 : FL wsX8_undo RX8 17 8 2 RX8 TX8 31 := ⟨inX8_undo_X8, by decide +kernel, by decide, rfl⟩
theorem kmX8_redo : KM yX8_redo RX8 0 := by unfold KM; decide +kernel
theorem inX8_redo_X8 : ∀ w ∈ u_ws RX8 TX8 31, w ∈ wsX8_redo := fun _ h => List.mem_cons_of_mem _ (List.mem_append_right _ h)
theorem flX8_redo_89 : FL wsX8_redo RX8 89 8 5 RX8 TX8 31 := ⟨inX8_redo_X8, by decide +kernel, by decide, rfl⟩
theorem flX8_redo_20 : FL wsX8_redo RX8 20 8 4 RX8 TX8 31 := ⟨inX8_redo_X8, by decide +kernel, by decide, rfl⟩
theorem flX8_redo_7 : FL wsX8_redo RX8 7 8 0 RX8 TX8 31 := ⟨inX8_redo_X8, by decide +kernel, by decide, rfl⟩
theorem kmX8_isLast : KM yX8_isLast RX8 2 := by unfold KM; decide +kernel
theorem inX8_isLast_X8 : ∀ w ∈ u_ws RX8 TX8 31, w ∈ wsX8_isLast := fun _ h => List.mem_cons_of_mem _ (List.mem_append_right _ h)
theorem flX8_isLast_92 : FL wsX8_isLast RX8 92 8 6 RX8 TX8 31 := ⟨inX8_isLast_X8, by decide +kernel, by decide, rfl⟩
theorem flX8_isLast_23 : FL wsX8_isLast RX8 23 8 7 RX8 TX8 31 := ⟨inX8_isLast_X8, by decide +kernel, by decide, rfl⟩
theorem flX8_isLast_26 : FL wsX8_isLast RX8 26 8 8 RX8 TX8 31 := ⟨inX8_isLast_X8, by decide +kernel, by decide, rfl⟩
theorem kmX8_add : KM yX8_add RX8 2 := by unfold KM; decide +kernel
theorem inX8_add_X8 : ∀ w ∈ u_ws RX8 TX8 31, w ∈ wsX8_add := fun _ h => List.mem_cons_of_mem _ (List.mem_append_right _ h)
theorem flX8_add_23 : FL wsX8_add RX8 23 8 7 RX8 TX8 31 := ⟨inX8_add_X8, by decide +kernel, by decide, rfl⟩
theorem flX8_add_92 : FL wsX8_add RX8 92 8 6 RX8 TX8 31 := ⟨inX8_add_X8, by decide +kernel, by decide, rfl⟩
theorem flX8_add_26 : FL wsX8_add RX8 26 8 8 RX8 TX8 31 := ⟨inX8_add_X8, by decide +kernel, by decide, rfl⟩
theorem kmX8_put : KM yX8_put RX8 2 := by unfold KM; decide +kernel
theorem inX8_put_X8 : ∀ w ∈ u_ws RX8 TX8 31, w ∈ wsX8_put := fun _ h => List.mem_cons_of_mem _ (List.mem_append_right _ h)
theorem flX8_put_92 : FL wsX8_put RX8 92 8 6 RX8 TX8 31 := ⟨inX8_put_X8, by decide +kernel, by decide, rfl⟩
theorem kmX8_clearPoints : KM yX8_clearPoints RX8 0 := by unfold KM; decide +kernel
theorem inX8_clearPoints_X8 : ∀ w ∈ u_ws RX8 TX8 31, w ∈ wsX8_clearPoints := fun _ h => List.mem_cons_of_mem _ (List.mem_append_right _ h)
theorem flX8_clearPoints_92 : FL wsX8_clearPoints RX8 92 8 6 RX8 TX8 31 := ⟨inX8_clearPoints_X8, by decide +kernel, by decide, rfl⟩
theorem kmX8_type : KM yX8_type RX8 1 := by unfold KM; decide +kernel
theorem inX8_type_X8 : ∀ w ∈ u_ws RX8 TX8 31, w ∈ wsX8_type := fun _ h => List.mem_cons_of_mem _ (List.mem_append_right _ h)
theorem flX8_type_107 : FL wsX8_type RX8 107 8 9 RX8 TX8 31 := ⟨inX8_type_X8, by decide +kernel, by decide, rfl⟩
theorem flX8_type_29 : FL wsX8_type RX8 29 8 10 RX8 TX8 31 := ⟨inX8_type_X8, by decide +kernel, by decide, rfl⟩
theorem kmX8_clearText : KM yX8_clearText RX8 0 := by unfold KM; decide +kernel
theorem inX8_clearText_X8 : ∀ w ∈ u_ws RX8 TX8 31, w ∈ wsX8_clearText := fun _ h => List.mem_cons_of_mem _ (List.mem_append_right _ h)
theorem flX8_clearText_107 : FL wsX8_clearText RX8 107 8 9 RX8 TX8 31 := ⟨inX8_clearText_X8, by decide +kernel, by decide, rfl⟩
theorem kmX8_isAt : KM yX8_isAt RX8 2 := by unfold KM; decide +kernel
theorem inX8_isAt_X8 : ∀ w ∈ u_ws RX8 TX8 31, w ∈ wsX8_isAt := fun _ h => List.mem_cons_of_mem _ (List.mem_append_right _ h)
theorem flX8_isAt_110 : FL wsX8_isAt RX8 110 8 11 RX8 TX8 31 := ⟨inX8_isAt_X8, by decide +kernel, by decide, rfl⟩
theorem flX8_isAt_107 : FL wsX8_isAt RX8 107 8 9 RX8 TX8 31 := ⟨inX8_isAt_X8, by decide +kernel, by decide, rfl⟩
theorem flX8_isAt_29 : FL wsX8_isAt RX8 29 8 10 RX8 TX8 31 := ⟨inX8_isAt_X8, by decide +kernel, by decide, rfl⟩
theorem kmX8_number : KM yX8_number RX8 0 := by unfold KM; decide +kernel
theorem inX8_number_X8 : ∀ w ∈ u_ws RX8 TX8 31, w ∈ wsX8_number := fun _ h => List.mem_cons_of_mem _ (List.mem_append_right _ h)
theorem flX8_number_110 : FL wsX8_number RX8 110 8 11 RX8 TX8 31 := ⟨inX8_number_X8, by decide +kernel, by decide, rfl⟩
theorem flX8_number_113 : FL wsX8_number RX8 113 8 12 RX8 TX8 31 := ⟨inX8_number_X8, by decide +kernel, by decide, rfl⟩
theorem flX8_number_29 : FL wsX8_number RX8 29 8 10 RX8 TX8 31 := ⟨inX8_number_X8, by decide +kernel, by decide, rfl⟩
theorem kmX8_readPoint : KM yX8_readPoint RX8 0 := by unfold KM; decide +kernel
theorem inX8_readPoint_X8 : ∀ w ∈ u_ws RX8 TX8 31, w ∈ wsX8_readPoint := fun _ h => List.mem_cons_of_mem _ (List.mem_append_right _ h)
theorem flX8_readPoint_113 : FL wsX8_readPoint RX8 113 8 12 RX8 TX8 31 := ⟨inX8_readPoint_X8, by decide +kernel, by decide, rfl⟩
theorem flX8_readPoint_110 : FL wsX8_readPoint RX8 110 8 11 RX8 TX8 31 := ⟨inX8_readPoint_X8, by decide +kernel, by decide, rfl⟩
theorem flX8_readPoint_33 : FL wsX8_readPoint RX8 33 8 13 RX8 TX8 31 := ⟨inX8_readPoint_X8, by decide +kernel, by decide, rfl⟩
theorem flX8_readPoint_125 : FL wsX8_readPoint RX8 125 8 15 RX8 TX8 31 := ⟨inX8_readPoint_X8, by decide +kernel, by decide, rfl⟩
theorem flX8_readPoint_36 : FL wsX8_readPoint RX8 36 8 14 RX8 TX8 31 := ⟨inX8_readPoint_X8, by decide +kernel, by decide, rfl⟩
theorem kmX8_readPoints : KM yX8_readPoints RX8 0 := by unfold KM; decide +kernel
theorem inX8_readPoints_X8 : ∀ w ∈ u_ws RX8 TX8 31, w ∈ wsX8_readPoints := fun _ h => List.mem_cons_of_mem _ (List.mem_append_right _ h)
theorem flX8_readPoints_110 : FL wsX8_readPoints RX8 110 8 11 RX8 TX8 31 := ⟨inX8_readPoints_X8, by decide +kernel, by decide, rfl⟩
theorem flX8_readPoints_113 : FL wsX8_readPoints RX8 113 8 12 RX8 TX8 31 := ⟨inX8_readPoints_X8, by decide +kernel, by decide, rfl⟩
theorem flX8_readPoints_125 : FL wsX8_readPoints RX8 125 8 15 RX8 TX8 31 := ⟨inX8_readPoints_X8, by decide +kernel, by decide, rfl⟩
theorem flX8_readPoints_107 : FL wsX8_readPoints RX8 107 8 9 RX8 TX8 31 := ⟨inX8_readPoints_X8, by decide +kernel, by decide, rfl⟩
theorem flX8_readPoints_92 : FL wsX8_readPoints RX8 92 8 6 RX8 TX8 31 := ⟨inX8_readPoints_X8, by decide +kernel, by decide, rfl⟩
theorem flX8_readPoints_33 : FL wsX8_readPoints RX8 33 8 13 RX8 TX8 31 := ⟨inX8_readPoints_X8, by decide +kernel, by decide, rfl⟩
theorem flX8_readPoints_36 : FL wsX8_readPoints RX8 36 8 14 RX8 TX8 31 := ⟨inX8_readPoints_X8, by decide +kernel, by decide, rfl⟩
theorem kmX8_begin : KM yX8_begin RX8 0 := by unfold KM; decide +kernel
theorem inX8_begin_X8 : ∀ w ∈ u_ws RX8 TX8 31, w ∈ wsX8_begin := fun _ h => List.mem_cons_of_mem _ (List.mem_append_right _ h)
theorem flX8_begin_39 : FL wsX8_begin RX8 39 8 16 RX8 TX8 31 := ⟨inX8_begin_X8, by decide +kernel, by decide, rfl⟩
theorem kmX8_addStroke : KM yX8_addStroke RX8 1 := by unfold KM; decide +kernel
theorem inX8_addStroke_X8 : ∀ w ∈ u_ws RX8 TX8 31, w ∈ wsX8_addStroke := fun _ h => List.mem_cons_of_mem _ (List.mem_append_right _ h)
theorem flX8_addStroke_39 : FL wsX8_addStroke RX8 39 8 16 RX8 TX8 31 := ⟨inX8_addStroke_X8, by decide +kernel, by decide, rfl⟩
theorem kmX8_addPoint : KM yX8_addPoint RX8 2 := by unfold KM; decide +kernel
theorem inX8_addPoint_X8 : ∀ w ∈ u_ws RX8 TX8 31, w ∈ wsX8_addPoint := fun _ h => List.mem_cons_of_mem _ (List.mem_append_right _ h)
theorem flX8_addPoint_39 : FL wsX8_addPoint RX8 39 8 16 RX8 TX8 31 := ⟨inX8_addPoint_X8, by decide +kernel, by decide, rfl⟩
theorem kmX8_copyStroke : KM yX8_copyStroke RX8 1 := by unfold KM; decide +kernel
theorem inX8_copyStroke_X8 : ∀ w ∈ u_ws RX8 TX8 31, w ∈ wsX8_copyStroke := fun _ h => List.mem_cons_of_mem _ (List.mem_append_right _ h)
theorem flX8_copyStroke_7 : FL wsX8_copyStroke RX8 7 8 0 RX8 TX8 31 := ⟨inX8_copyStroke_X8, by decide +kernel, by decide, rfl⟩
theorem kmX8_become : KM yX8_become RX8 0 := by unfold KM; decide +kernel
theorem inX8_become_X8 : ∀ w ∈ u_ws RX8 TX8 31, w ∈ wsX8_become := fun _ h => List.mem_cons_of_mem _ (List.mem_append_right _ h)
theorem flX8_become_39 : FL wsX8_become RX8 39 8 16 RX8 TX8 31 := ⟨inX8_become_X8, by decide +kernel, by decide, rfl⟩
theorem flX8_become_7 : FL wsX8_become RX8 7 8 0 RX8 TX8 31 := ⟨inX8_become_X8, by decide +kernel, by decide, rfl⟩
theorem kmX8_noStroke : KM yX8_noStroke RX8 1 := by unfold KM; decide +kernel
theorem inX8_noStroke_X8 : ∀ w ∈ u_ws RX8 TX8 31, w ∈ wsX8_noStroke := fun _ h => List.mem_cons_of_mem _ (List.mem_append_right _ h)
theorem kmX8_draw : KM yX8_draw RX8 1 := by unfold KM; decide +kernel
theorem inX8_draw_X8 : ∀ w ∈ u_ws RX8 TX8 31, w ∈ wsX8_draw := fun _ h => List.mem_cons_of_mem _ (List.mem_append_right _ h)
theorem flX8_draw_92 : FL wsX8_draw RX8 92 8 6 RX8 TX8 31 := ⟨inX8_draw_X8, by decide +kernel, by decide, rfl⟩
theorem flX8_draw_23 : FL wsX8_draw RX8 23 8 7 RX8 TX8 31 := ⟨inX8_draw_X8, by decide +kernel, by decide, rfl⟩
theorem flX8_draw_26 : FL wsX8_draw RX8 26 8 8 RX8 TX8 31 := ⟨inX8_draw_X8, by decide +kernel, by decide, rfl⟩
theorem kmX8_square : KM yX8_square RX8 2 := by unfold KM; decide +kernel
theorem kmX8_rub : KM yX8_rub RX8 3 := by unfold KM; decide +kernel
theorem inX8_rub_X8 : ∀ w ∈ u_ws RX8 TX8 31, w ∈ wsX8_rub := fun _ h => List.mem_cons_of_mem _ (List.mem_append_right _ h)
theorem flX8_rub_7 : FL wsX8_rub RX8 7 8 0 RX8 TX8 31 := ⟨inX8_rub_X8, by decide +kernel, by decide, rfl⟩
theorem flX8_rub_39 : FL wsX8_rub RX8 39 8 16 RX8 TX8 31 := ⟨inX8_rub_X8, by decide +kernel, by decide, rfl⟩
theorem kmX8_take : KM yX8_take RX8 1 := by unfold KM; decide +kernel
theorem inX8_take_X8 : ∀ w ∈ u_ws RX8 TX8 31, w ∈ wsX8_take := fun _ h => List.mem_cons_of_mem _ (List.mem_append_right _ h)
theorem flX8_take_167 : FL wsX8_take RX8 167 8 17 RX8 TX8 31 := ⟨inX8_take_X8, by decide +kernel, by decide, rfl⟩
theorem flX8_take_42 : FL wsX8_take RX8 42 8 18 RX8 TX8 31 := ⟨inX8_take_X8, by decide +kernel, by decide, rfl⟩
theorem flX8_take_45 : FL wsX8_take RX8 45 8 19 RX8 TX8 31 := ⟨inX8_take_X8, by decide +kernel, by decide, rfl⟩
theorem kmX8_dropSame : KM yX8_dropSame RX8 0 := by unfold KM; decide +kernel
theorem inX8_dropSame_X8 : ∀ w ∈ u_ws RX8 TX8 31, w ∈ wsX8_dropSame := fun _ h => List.mem_cons_of_mem _ (List.mem_append_right _ h)
theorem flX8_dropSame_167 : FL wsX8_dropSame RX8 167 8 17 RX8 TX8 31 := ⟨inX8_dropSame_X8, by decide +kernel, by decide, rfl⟩
theorem flX8_dropSame_42 : FL wsX8_dropSame RX8 42 8 18 RX8 TX8 31 := ⟨inX8_dropSame_X8, by decide +kernel, by decide, rfl⟩
theorem flX8_dropSame_45 : FL wsX8_dropSame RX8 45 8 19 RX8 TX8 31 := ⟨inX8_dropSame_X8, by decide +kernel, by decide, rfl⟩
theorem kmX8_putBack : KM yX8_putBack RX8 1 := by unfold KM; decide +kernel
theorem inX8_putBack_X8 : ∀ w ∈ u_ws RX8 TX8 31, w ∈ wsX8_putBack := fun _ h => List.mem_cons_of_mem _ (List.mem_append_right _ h)
theorem flX8_putBack_167 : FL wsX8_putBack RX8 167 8 17 RX8 TX8 31 := ⟨inX8_putBack_X8, by decide +kernel, by decide, rfl⟩
theorem flX8_putBack_42 : FL wsX8_putBack RX8 42 8 18 RX8 TX8 31 := ⟨inX8_putBack_X8, by decide +kernel, by decide, rfl⟩
theorem flX8_putBack_45 : FL wsX8_putBack RX8 45 8 19 RX8 TX8 31 := ⟨inX8_putBack_X8, by decide +kernel, by decide, rfl⟩
theorem flX8_putBack_7 : FL wsX8_putBack RX8 7 8 0 RX8 TX8 31 := ⟨inX8_putBack_X8, by decide +kernel, by decide, rfl⟩
theorem kmX8_smoothOnce : KM yX8_smoothOnce RX8 0 := by unfold KM; decide +kernel
theorem inX8_smoothOnce_X8 : ∀ w ∈ u_ws RX8 TX8 31, w ∈ wsX8_smoothOnce := fun _ h => List.mem_cons_of_mem _ (List.mem_append_right _ h)
theorem flX8_smoothOnce_167 : FL wsX8_smoothOnce RX8 167 8 17 RX8 TX8 31 := ⟨inX8_smoothOnce_X8, by decide +kernel, by decide, rfl⟩
theorem flX8_smoothOnce_48 : FL wsX8_smoothOnce RX8 48 8 20 RX8 TX8 31 := ⟨inX8_smoothOnce_X8, by decide +kernel, by decide, rfl⟩
theorem flX8_smoothOnce_42 : FL wsX8_smoothOnce RX8 42 8 18 RX8 TX8 31 := ⟨inX8_smoothOnce_X8, by decide +kernel, by decide, rfl⟩
theorem flX8_smoothOnce_51 : FL wsX8_smoothOnce RX8 51 8 21 RX8 TX8 31 := ⟨inX8_smoothOnce_X8, by decide +kernel, by decide, rfl⟩
theorem flX8_smoothOnce_45 : FL wsX8_smoothOnce RX8 45 8 19 RX8 TX8 31 := ⟨inX8_smoothOnce_X8, by decide +kernel, by decide, rfl⟩
theorem kmX8_smooth : KM yX8_smooth RX8 2 := by unfold KM; decide +kernel
theorem inX8_smooth_X8 : ∀ w ∈ u_ws RX8 TX8 31, w ∈ wsX8_smooth := fun _ h => List.mem_cons_of_mem _ (List.mem_append_right _ h)
theorem kmX8_thin : KM yX8_thin RX8 2 := by unfold KM; decide +kernel
theorem inX8_thin_X8 : ∀ w ∈ u_ws RX8 TX8 31, w ∈ wsX8_thin := fun _ h => List.mem_cons_of_mem _ (List.mem_append_right _ h)
theorem flX8_thin_167 : FL wsX8_thin RX8 167 8 17 RX8 TX8 31 := ⟨inX8_thin_X8, by decide +kernel, by decide, rfl⟩
theorem flX8_thin_42 : FL wsX8_thin RX8 42 8 18 RX8 TX8 31 := ⟨inX8_thin_X8, by decide +kernel, by decide, rfl⟩
theorem flX8_thin_45 : FL wsX8_thin RX8 45 8 19 RX8 TX8 31 := ⟨inX8_thin_X8, by decide +kernel, by decide, rfl⟩
theorem kmX8_join : KM yX8_join RX8 2 := by unfold KM; decide +kernel
theorem inX8_join_X8 : ∀ w ∈ u_ws RX8 TX8 31, w ∈ wsX8_join := fun _ h => List.mem_cons_of_mem _ (List.mem_append_right _ h)
theorem kmX8_shift : KM yX8_shift RX8 3 := by unfold KM; decide +kernel
theorem inX8_shift_X8 : ∀ w ∈ u_ws RX8 TX8 31, w ∈ wsX8_shift := fun _ h => List.mem_cons_of_mem _ (List.mem_append_right _ h)
theorem flX8_shift_167 : FL wsX8_shift RX8 167 8 17 RX8 TX8 31 := ⟨inX8_shift_X8, by decide +kernel, by decide, rfl⟩
theorem flX8_shift_42 : FL wsX8_shift RX8 42 8 18 RX8 TX8 31 := ⟨inX8_shift_X8, by decide +kernel, by decide, rfl⟩
theorem flX8_shift_45 : FL wsX8_shift RX8 45 8 19 RX8 TX8 31 := ⟨inX8_shift_X8, by decide +kernel, by decide, rfl⟩
theorem kmX8_paint : KM yX8_paint RX8 2 := by unfold KM; decide +kernel
theorem inX8_paint_X8 : ∀ w ∈ u_ws RX8 TX8 31, w ∈ wsX8_paint := fun _ h => List.mem_cons_of_mem _ (List.mem_append_right _ h)
theorem flX8_paint_7 : FL wsX8_paint RX8 7 8 0 RX8 TX8 31 := ⟨inX8_paint_X8, by decide +kernel, by decide, rfl⟩
theorem kmX8_remove : KM yX8_remove RX8 1 := by unfold KM; decide +kernel
theorem inX8_remove_X8 : ∀ w ∈ u_ws RX8 TX8 31, w ∈ wsX8_remove := fun _ h => List.mem_cons_of_mem _ (List.mem_append_right _ h)
theorem kmX8_bound : KM yX8_bound RX8 3 := by unfold KM; decide +kernel
theorem inX8_bound_X8 : ∀ w ∈ u_ws RX8 TX8 31, w ∈ wsX8_bound := fun _ h => List.mem_cons_of_mem _ (List.mem_append_right _ h)
theorem kmX8_root : KM yX8_root RX8 1 := by unfold KM; decide +kernel
theorem kmX8_longOf : KM yX8_longOf RX8 1 := by unfold KM; decide +kernel
theorem inX8_longOf_X8 : ∀ w ∈ u_ws RX8 TX8 31, w ∈ wsX8_longOf := fun _ h => List.mem_cons_of_mem _ (List.mem_append_right _ h)
theorem kmX8_shared : KM yX8_shared RX8 3 := by unfold KM; decide +kernel
theorem inX8_shared_X8 : ∀ w ∈ u_ws RX8 TX8 31, w ∈ wsX8_shared := fun _ h => List.mem_cons_of_mem _ (List.mem_append_right _ h)
theorem flX8_shared_57 : FL wsX8_shared RX8 57 8 24 RX8 TX8 31 := ⟨inX8_shared_X8, by decide +kernel, by decide, rfl⟩
theorem flX8_shared_54 : FL wsX8_shared RX8 54 8 23 RX8 TX8 31 := ⟨inX8_shared_X8, by decide +kernel, by decide, rfl⟩
theorem kmX8_mayJoin : KM yX8_mayJoin RX8 3 := by unfold KM; decide +kernel
theorem inX8_mayJoin_X8 : ∀ w ∈ u_ws RX8 TX8 31, w ∈ wsX8_mayJoin := fun _ h => List.mem_cons_of_mem _ (List.mem_append_right _ h)
theorem flX8_mayJoin_57 : FL wsX8_mayJoin RX8 57 8 24 RX8 TX8 31 := ⟨inX8_mayJoin_X8, by decide +kernel, by decide, rfl⟩
theorem flX8_mayJoin_54 : FL wsX8_mayJoin RX8 54 8 23 RX8 TX8 31 := ⟨inX8_mayJoin_X8, by decide +kernel, by decide, rfl⟩
theorem kmX8_findLines : KM yX8_findLines RX8 0 := by unfold KM; decide +kernel
theorem inX8_findLines_X8 : ∀ w ∈ u_ws RX8 TX8 31, w ∈ wsX8_findLines := fun _ h => List.mem_cons_of_mem _ (List.mem_append_right _ h)
theorem flX8_findLines_192 : FL wsX8_findLines RX8 192 8 22 RX8 TX8 31 := ⟨inX8_findLines_X8, by decide +kernel, by decide, rfl⟩
theorem flX8_findLines_54 : FL wsX8_findLines RX8 54 8 23 RX8 TX8 31 := ⟨inX8_findLines_X8, by decide +kernel, by decide, rfl⟩
theorem flX8_findLines_57 : FL wsX8_findLines RX8 57 8 24 RX8 TX8 31 := ⟨inX8_findLines_X8, by decide +kernel, by decide, rfl⟩
theorem flX8_findLines_60 : FL wsX8_findLines RX8 60 8 25 RX8 TX8 31 := ⟨inX8_findLines_X8, by decide +kernel, by decide, rfl⟩
theorem flX8_findLines_63 : FL wsX8_findLines RX8 63 8 26 RX8 TX8 31 := ⟨inX8_findLines_X8, by decide +kernel, by decide, rfl⟩
theorem kmX8_isAbove : KM yX8_isAbove RX8 2 := by unfold KM; decide +kernel
theorem inX8_isAbove_X8 : ∀ w ∈ u_ws RX8 TX8 31, w ∈ wsX8_isAbove := fun _ h => List.mem_cons_of_mem _ (List.mem_append_right _ h)
theorem flX8_isAbove_54 : FL wsX8_isAbove RX8 54 8 23 RX8 TX8 31 := ⟨inX8_isAbove_X8, by decide +kernel, by decide, rfl⟩
theorem flX8_isAbove_57 : FL wsX8_isAbove RX8 57 8 24 RX8 TX8 31 := ⟨inX8_isAbove_X8, by decide +kernel, by decide, rfl⟩
theorem kmX8_lineOf : KM yX8_lineOf RX8 1 := by unfold KM; decide +kernel
theorem inX8_lineOf_X8 : ∀ w ∈ u_ws RX8 TX8 31, w ∈ wsX8_lineOf := fun _ h => List.mem_cons_of_mem _ (List.mem_append_right _ h)
theorem flX8_lineOf_63 : FL wsX8_lineOf RX8 63 8 26 RX8 TX8 31 := ⟨inX8_lineOf_X8, by decide +kernel, by decide, rfl⟩
theorem flX8_lineOf_60 : FL wsX8_lineOf RX8 60 8 25 RX8 TX8 31 := ⟨inX8_lineOf_X8, by decide +kernel, by decide, rfl⟩
theorem kmX8_isBefore : KM yX8_isBefore RX8 2 := by unfold KM; decide +kernel
theorem inX8_isBefore_X8 : ∀ w ∈ u_ws RX8 TX8 31, w ∈ wsX8_isBefore := fun _ h => List.mem_cons_of_mem _ (List.mem_append_right _ h)
theorem kmX8_placeOf : KM yX8_placeOf RX8 1 := by unfold KM; decide +kernel
theorem inX8_placeOf_X8 : ∀ w ∈ u_ws RX8 TX8 31, w ∈ wsX8_placeOf := fun _ h => List.mem_cons_of_mem _ (List.mem_append_right _ h)
theorem kmX8_layOut : KM yX8_layOut RX8 0 := by unfold KM; decide +kernel
theorem inX8_layOut_X8 : ∀ w ∈ u_ws RX8 TX8 31, w ∈ wsX8_layOut := fun _ h => List.mem_cons_of_mem _ (List.mem_append_right _ h)
theorem flX8_layOut_69 : FL wsX8_layOut RX8 69 8 29 RX8 TX8 31 := ⟨inX8_layOut_X8, by decide +kernel, by decide, rfl⟩
theorem flX8_layOut_217 : FL wsX8_layOut RX8 217 8 27 RX8 TX8 31 := ⟨inX8_layOut_X8, by decide +kernel, by decide, rfl⟩
theorem flX8_layOut_13 : FL wsX8_layOut RX8 13 8 1 RX8 TX8 31 := ⟨inX8_layOut_X8, by decide +kernel, by decide, rfl⟩
theorem flX8_layOut_66 : FL wsX8_layOut RX8 66 8 28 RX8 TX8 31 := ⟨inX8_layOut_X8, by decide +kernel, by decide, rfl⟩
theorem kmX8_setGap : KM yX8_setGap RX8 1 := by unfold KM; decide +kernel
theorem inX8_setGap_X8 : ∀ w ∈ u_ws RX8 TX8 31, w ∈ wsX8_setGap := fun _ h => List.mem_cons_of_mem _ (List.mem_append_right _ h)
theorem flX8_setGap_13 : FL wsX8_setGap RX8 13 8 1 RX8 TX8 31 := ⟨inX8_setGap_X8, by decide +kernel, by decide, rfl⟩
theorem kmX8_stroke : KM yX8_stroke RX8 2 := by unfold KM; decide +kernel
theorem inX8_stroke_X8 : ∀ w ∈ u_ws RX8 TX8 31, w ∈ wsX8_stroke := fun _ h => List.mem_cons_of_mem _ (List.mem_append_right _ h)
theorem flX8_stroke_7 : FL wsX8_stroke RX8 7 8 0 RX8 TX8 31 := ⟨inX8_stroke_X8, by decide +kernel, by decide, rfl⟩
theorem flX8_stroke_66 : FL wsX8_stroke RX8 66 8 28 RX8 TX8 31 := ⟨inX8_stroke_X8, by decide +kernel, by decide, rfl⟩
theorem kmX8_point : KM yX8_point RX8 3 := by unfold KM; decide +kernel
theorem inX8_point_X8 : ∀ w ∈ u_ws RX8 TX8 31, w ∈ wsX8_point := fun _ h => List.mem_cons_of_mem _ (List.mem_append_right _ h)
theorem kmX8_read : KM yX8_read RX8 1 := by unfold KM; decide +kernel
theorem inX8_read_X8 : ∀ w ∈ u_ws RX8 TX8 31, w ∈ wsX8_read := fun _ h => List.mem_cons_of_mem _ (List.mem_append_right _ h)
theorem flX8_read_69 : FL wsX8_read RX8 69 8 29 RX8 TX8 31 := ⟨inX8_read_X8, by decide +kernel, by decide, rfl⟩
theorem kmX8_line : KM yX8_line RX8 2 := by unfold KM; decide +kernel
theorem inX8_line_X8 : ∀ w ∈ u_ws RX8 TX8 31, w ∈ wsX8_line := fun _ h => List.mem_cons_of_mem _ (List.mem_append_right _ h)
theorem flX8_line_192 : FL wsX8_line RX8 192 8 22 RX8 TX8 31 := ⟨inX8_line_X8, by decide +kernel, by decide, rfl⟩
theorem flX8_line_63 : FL wsX8_line RX8 63 8 26 RX8 TX8 31 := ⟨inX8_line_X8, by decide +kernel, by decide, rfl⟩
theorem flX8_line_69 : FL wsX8_line RX8 69 8 29 RX8 TX8 31 := ⟨inX8_line_X8, by decide +kernel, by decide, rfl⟩
theorem flX8_line_66 : FL wsX8_line RX8 66 8 28 RX8 TX8 31 := ⟨inX8_line_X8, by decide +kernel, by decide, rfl⟩
theorem flX8_line_54 : FL wsX8_line RX8 54 8 23 RX8 TX8 31 := ⟨inX8_line_X8, by decide +kernel, by decide, rfl⟩
theorem flX8_line_57 : FL wsX8_line RX8 57 8 24 RX8 TX8 31 := ⟨inX8_line_X8, by decide +kernel, by decide, rfl⟩
theorem kmX8_word : KM yX8_word RX8 2 := by unfold KM; decide +kernel
theorem inX8_word_X8 : ∀ w ∈ u_ws RX8 TX8 31, w ∈ wsX8_word := fun _ h => List.mem_cons_of_mem _ (List.mem_append_right _ h)
theorem flX8_word_217 : FL wsX8_word RX8 217 8 27 RX8 TX8 31 := ⟨inX8_word_X8, by decide +kernel, by decide, rfl⟩
theorem flX8_word_66 : FL wsX8_word RX8 66 8 28 RX8 TX8 31 := ⟨inX8_word_X8, by decide +kernel, by decide, rfl⟩
theorem flX8_word_69 : FL wsX8_word RX8 69 8 29 RX8 TX8 31 := ⟨inX8_word_X8, by decide +kernel, by decide, rfl⟩
theorem kmX8_nearest : KM yX8_nearest RX8 2 := by unfold KM; decide +kernel
theorem inX8_nearest_X8 : ∀ w ∈ u_ws RX8 TX8 31, w ∈ wsX8_nearest := fun _ h => List.mem_cons_of_mem _ (List.mem_append_right _ h)
theorem kmX8_ink : KM yX8_ink RX8 1 := by unfold KM; decide +kernel
theorem inX8_ink_X8 : ∀ w ∈ u_ws RX8 TX8 31, w ∈ wsX8_ink := fun _ h => List.mem_cons_of_mem _ (List.mem_append_right _ h)
theorem flX8_ink_72 : FL wsX8_ink RX8 72 8 30 RX8 TX8 31 := ⟨inX8_ink_X8, by decide +kernel, by decide, rfl⟩
theorem flX8_ink_7 : FL wsX8_ink RX8 7 8 0 RX8 TX8 31 := ⟨inX8_ink_X8, by decide +kernel, by decide, rfl⟩
theorem kmX8_inkedCells : KM yX8_inkedCells RX8 0 := by unfold KM; decide +kernel
theorem inX8_inkedCells_X8 : ∀ w ∈ u_ws RX8 TX8 31, w ∈ wsX8_inkedCells := fun _ h => List.mem_cons_of_mem _ (List.mem_append_right _ h)
theorem flX8_inkedCells_72 : FL wsX8_inkedCells RX8 72 8 30 RX8 TX8 31 := ⟨inX8_inkedCells_X8, by decide +kernel, by decide, rfl⟩
theorem kmX8_fullest : KM yX8_fullest RX8 0 := by unfold KM; decide +kernel
theorem inX8_fullest_X8 : ∀ w ∈ u_ws RX8 TX8 31, w ∈ wsX8_fullest := fun _ h => List.mem_cons_of_mem _ (List.mem_append_right _ h)
theorem flX8_fullest_72 : FL wsX8_fullest RX8 72 8 30 RX8 TX8 31 := ⟨inX8_fullest_X8, by decide +kernel, by decide, rfl⟩
theorem kmX8_cell : KM yX8_cell RX8 2 := by unfold KM; decide +kernel
theorem inX8_cell_X8 : ∀ w ∈ u_ws RX8 TX8 31, w ∈ wsX8_cell := fun _ h => List.mem_cons_of_mem _ (List.mem_append_right _ h)
theorem flX8_cell_72 : FL wsX8_cell RX8 72 8 30 RX8 TX8 31 := ⟨inX8_cell_X8, by decide +kernel, by decide, rfl⟩
theorem kmX8_color : KM yX8_color RX8 2 := by unfold KM; decide +kernel
theorem inX8_color_X8 : ∀ w ∈ u_ws RX8 TX8 31, w ∈ wsX8_color := fun _ h => List.mem_cons_of_mem _ (List.mem_append_right _ h)
theorem flX8_color_7 : FL wsX8_color RX8 7 8 0 RX8 TX8 31 := ⟨inX8_color_X8, by decide +kernel, by decide, rfl⟩
theorem kmX8_count : KM yX8_count RX8 1 := by unfold KM; decide +kernel
theorem inX8_count_X8 : ∀ w ∈ u_ws RX8 TX8 31, w ∈ wsX8_count := fun _ h => List.mem_cons_of_mem _ (List.mem_append_right _ h)
theorem flX8_count_192 : FL wsX8_count RX8 192 8 22 RX8 TX8 31 := ⟨inX8_count_X8, by decide +kernel, by decide, rfl⟩
theorem flX8_count_217 : FL wsX8_count RX8 217 8 27 RX8 TX8 31 := ⟨inX8_count_X8, by decide +kernel, by decide, rfl⟩
theorem flX8_count_92 : FL wsX8_count RX8 92 8 6 RX8 TX8 31 := ⟨inX8_count_X8, by decide +kernel, by decide, rfl⟩
theorem flX8_count_79 : FL wsX8_count RX8 79 8 3 RX8 TX8 31 := ⟨inX8_count_X8, by decide +kernel, by decide, rfl⟩
theorem flX8_count_89 : FL wsX8_count RX8 89 8 5 RX8 TX8 31 := ⟨inX8_count_X8, by decide +kernel, by decide, rfl⟩
theorem flX8_count_13 : FL wsX8_count RX8 13 8 1 RX8 TX8 31 := ⟨inX8_count_X8, by decide +kernel, by decide, rfl⟩
theorem kmX0_init : KM yX0_init RX0 0 := by unfold KM; decide +kernel
theorem inX0_init_X0 : ∀ w ∈ u_ws RX0 TX0 5, w ∈ wsX0_init := fun _ h => List.mem_cons_of_mem _ (List.mem_append_right _ h)
theorem flX0_init_11 : FL wsX0_init RX0 11 0 3 RX0 TX0 5 := ⟨inX0_init_X0, by decide +kernel, by decide, rfl⟩
theorem flX0_init_15 : FL wsX0_init RX0 15 0 4 RX0 TX0 5 := ⟨inX0_init_X0, by decide +kernel, by decide, rfl⟩
theorem kmX0_record : KM yX0_record RX0 1 := by unfold KM; decide +kernel
theorem inX0_record_X0 : ∀ w ∈ u_ws RX0 TX0 5, w ∈ wsX0_record := fun _ h => List.mem_cons_of_mem _ (List.mem_append_left _ (List.mem_append_right _ h))
theorem inX0_record_X2 : ∀ w ∈ u_ws RX2 TX2 2, w ∈ wsX0_record := fun _ h => List.mem_cons_of_mem _ (List.mem_append_right _ h)
theorem flX0_record_18 : FL wsX0_record RX0 18 0 2 RX0 TX0 5 := ⟨inX0_record_X0, by decide +kernel, by decide, rfl⟩
theorem flX0_record_22 : FL wsX0_record RX0 22 0 0 RX0 TX0 5 := ⟨inX0_record_X0, by decide +kernel, by decide, rfl⟩
theorem mmX0_record_25 : MM_min wsX0_record RX0 25 := by unfold MM_min; decide +kernel
theorem flX0_record_31 : FL wsX0_record RX0 31 0 1 RX0 TX0 5 := ⟨inX0_record_X0, by decide +kernel, by decide, rfl⟩
theorem flX0_record_11 : FL wsX0_record RX0 11 0 3 RX0 TX0 5 := ⟨inX0_record_X0, by decide +kernel, by decide, rfl⟩
theorem flX0_record_34 : FL wsX0_record RX0 34 2 0 RX2 TX2 2 := ⟨inX0_record_X2, by decide +kernel, by decide, rfl⟩
theorem flX0_record_39 : FL wsX0_record RX0 39 2 1 RX2 TX2 2 := ⟨inX0_record_X2, by decide +kernel, by decide, rfl⟩
theorem flX0_record_15 : FL wsX0_record RX0 15 0 4 RX0 TX0 5 := ⟨inX0_record_X0, by decide +kernel, by decide, rfl⟩
theorem mcX0_record_42 : MC wsX0_record RX0 42 := by unfold MC; decide +kernel
theorem kmX0_stepBack : KM yX0_stepBack RX0 1 := by unfold KM; decide +kernel
theorem inX0_stepBack_X0 : ∀ w ∈ u_ws RX0 TX0 5, w ∈ wsX0_stepBack := fun _ h => List.mem_cons_of_mem _ (List.mem_append_left _ (List.mem_append_right _ h))
theorem inX0_stepBack_X2 : ∀ w ∈ u_ws RX2 TX2 2, w ∈ wsX0_stepBack := fun _ h => List.mem_cons_of_mem _ (List.mem_append_right _ h)
theorem flX0_stepBack_22 : FL wsX0_stepBack RX0 22 0 0 RX0 TX0 5 := ⟨inX0_stepBack_X0, by decide +kernel, by decide, rfl⟩
theorem flX0_stepBack_18 : FL wsX0_stepBack RX0 18 0 2 RX0 TX0 5 := ⟨inX0_stepBack_X0, by decide +kernel, by decide, rfl⟩
theorem flX0_stepBack_31 : FL wsX0_stepBack RX0 31 0 1 RX0 TX0 5 := ⟨inX0_stepBack_X0, by decide +kernel, by decide, rfl⟩
theorem kmX0_stepOn : KM yX0_stepOn RX0 1 := by unfold KM; decide +kernel
theorem inX0_stepOn_X0 : ∀ w ∈ u_ws RX0 TX0 5, w ∈ wsX0_stepOn := fun _ h => List.mem_cons_of_mem _ (List.mem_append_left _ (List.mem_append_right _ h))
theorem inX0_stepOn_X2 : ∀ w ∈ u_ws RX2 TX2 2, w ∈ wsX0_stepOn := fun _ h => List.mem_cons_of_mem _ (List.mem_append_right _ h)
theorem flX0_stepOn_31 : FL wsX0_stepOn RX0 31 0 1 RX0 TX0 5 := ⟨inX0_stepOn_X0, by decide +kernel, by decide, rfl⟩
theorem flX0_stepOn_18 : FL wsX0_stepOn RX0 18 0 2 RX0 TX0 5 := ⟨inX0_stepOn_X0, by decide +kernel, by decide, rfl⟩
theorem flX0_stepOn_22 : FL wsX0_stepOn RX0 22 0 0 RX0 TX0 5 := ⟨inX0_stepOn_X0, by decide +kernel, by decide, rfl⟩
theorem kmX0_show : KM yX0_show RX0 1 := by unfold KM; decide +kernel
theorem inX0_show_X0 : ∀ w ∈ u_ws RX0 TX0 5, w ∈ wsX0_show := fun _ h => List.mem_cons_of_mem _ (List.mem_append_left _ (List.mem_append_right _ h))
theorem inX0_show_X2 : ∀ w ∈ u_ws RX2 TX2 2, w ∈ wsX0_show := fun _ h => List.mem_cons_of_mem _ (List.mem_append_right _ h)
theorem flX0_show_11 : FL wsX0_show RX0 11 0 3 RX0 TX0 5 := ⟨inX0_show_X0, by decide +kernel, by decide, rfl⟩
theorem flX0_show_18 : FL wsX0_show RX0 18 0 2 RX0 TX0 5 := ⟨inX0_show_X0, by decide +kernel, by decide, rfl⟩
theorem flX0_show_34 : FL wsX0_show RX0 34 2 0 RX2 TX2 2 := ⟨inX0_show_X2, by decide +kernel, by decide, rfl⟩
theorem flX0_show_15 : FL wsX0_show RX0 15 0 4 RX0 TX0 5 := ⟨inX0_show_X0, by decide +kernel, by decide, rfl⟩
theorem flX0_show_39 : FL wsX0_show RX0 39 2 1 RX2 TX2 2 := ⟨inX0_show_X2, by decide +kernel, by decide, rfl⟩
theorem mcX0_show_42 : MC wsX0_show RX0 42 := by unfold MC; decide +kernel
theorem kmX1_init : KM yX1_init RX1 0 := by unfold KM; decide +kernel
theorem inX1_init_X1 : ∀ w ∈ u_ws RX1 TX1 8, w ∈ wsX1_init := fun _ h => List.mem_cons_of_mem _ (List.mem_append_right _ h)
theorem flX1_init_9 : FL wsX1_init RX1 9 1 1 RX1 TX1 8 := ⟨inX1_init_X1, by decide +kernel, by decide, rfl⟩
theorem flX1_init_15 : FL wsX1_init RX1 15 1 2 RX1 TX1 8 := ⟨inX1_init_X1, by decide +kernel, by decide, rfl⟩
theorem flX1_init_18 : FL wsX1_init RX1 18 1 3 RX1 TX1 8 := ⟨inX1_init_X1, by decide +kernel, by decide, rfl⟩
theorem flX1_init_21 : FL wsX1_init RX1 21 1 4 RX1 TX1 8 := ⟨inX1_init_X1, by decide +kernel, by decide, rfl⟩
theorem flX1_init_24 : FL wsX1_init RX1 24 1 5 RX1 TX1 8 := ⟨inX1_init_X1, by decide +kernel, by decide, rfl⟩
theorem flX1_init_27 : FL wsX1_init RX1 27 1 6 RX1 TX1 8 := ⟨inX1_init_X1, by decide +kernel, by decide, rfl⟩
theorem flX1_init_30 : FL wsX1_init RX1 30 1 7 RX1 TX1 8 := ⟨inX1_init_X1, by decide +kernel, by decide, rfl⟩
theorem kmX1_group : KM yX1_group RX1 1 := by unfold KM; decide +kernel
theorem inX1_group_X1 : ∀ w ∈ u_ws RX1 TX1 8, w ∈ wsX1_group := fun _ h => List.mem_cons_of_mem _ (List.mem_append_left _ (List.mem_append_right _ h))
theorem inX1_group_X2 : ∀ w ∈ u_ws RX2 TX2 2, w ∈ wsX1_group := fun _ h => List.mem_cons_of_mem _ (List.mem_append_right _ h)
theorem flX1_group_33 : FL wsX1_group RX1 33 1 0 RX1 TX1 8 := ⟨inX1_group_X1, by decide +kernel, by decide, rfl⟩
theorem flX1_group_37 : FL wsX1_group RX1 37 2 0 RX2 TX2 2 := ⟨inX1_group_X2, by decide +kernel, by decide, rfl⟩
theorem flX1_group_24 : FL wsX1_group RX1 24 1 5 RX1 TX1 8 := ⟨inX1_group_X1, by decide +kernel, by decide, rfl⟩
theorem flX1_group_27 : FL wsX1_group RX1 27 1 6 RX1 TX1 8 := ⟨inX1_group_X1, by decide +kernel, by decide, rfl⟩
theorem mmX1_group_53 : MM_min wsX1_group RX1 53 := by unfold MM_min; decide +kernel
theorem mmX1_group_58 : MM_max wsX1_group RX1 58 := by unfold MM_max; decide +kernel
theorem flX1_group_9 : FL wsX1_group RX1 9 1 1 RX1 TX1 8 := ⟨inX1_group_X1, by decide +kernel, by decide, rfl⟩
theorem kmX1_bestFor : KM yX1_bestFor RX1 2 := by unfold KM; decide +kernel
theorem inX1_bestFor_X1 : ∀ w ∈ u_ws RX1 TX1 8, w ∈ wsX1_bestFor := fun _ h => List.mem_cons_of_mem _ (List.mem_append_right _ h)
theorem flX1_bestFor_33 : FL wsX1_bestFor RX1 33 1 0 RX1 TX1 8 := ⟨inX1_bestFor_X1, by decide +kernel, by decide, rfl⟩
theorem flX1_bestFor_24 : FL wsX1_bestFor RX1 24 1 5 RX1 TX1 8 := ⟨inX1_bestFor_X1, by decide +kernel, by decide, rfl⟩
theorem flX1_bestFor_27 : FL wsX1_bestFor RX1 27 1 6 RX1 TX1 8 := ⟨inX1_bestFor_X1, by decide +kernel, by decide, rfl⟩
theorem mmX1_bestFor_53 : MM_min wsX1_bestFor RX1 53 := by unfold MM_min; decide +kernel
theorem mmX1_bestFor_58 : MM_max wsX1_bestFor RX1 58 := by unfold MM_max; decide +kernel
theorem kmX1_rank : KM yX1_rank RX1 1 := by unfold KM; decide +kernel
theorem inX1_rank_X1 : ∀ w ∈ u_ws RX1 TX1 8, w ∈ wsX1_rank := fun _ h => List.mem_cons_of_mem _ (List.mem_append_right _ h)
theorem flX1_rank_33 : FL wsX1_rank RX1 33 1 0 RX1 TX1 8 := ⟨inX1_rank_X1, by decide +kernel, by decide, rfl⟩
theorem flX1_rank_30 : FL wsX1_rank RX1 30 1 7 RX1 TX1 8 := ⟨inX1_rank_X1, by decide +kernel, by decide, rfl⟩
theorem flX1_rank_15 : FL wsX1_rank RX1 15 1 2 RX1 TX1 8 := ⟨inX1_rank_X1, by decide +kernel, by decide, rfl⟩
theorem flX1_rank_24 : FL wsX1_rank RX1 24 1 5 RX1 TX1 8 := ⟨inX1_rank_X1, by decide +kernel, by decide, rfl⟩
theorem flX1_rank_18 : FL wsX1_rank RX1 18 1 3 RX1 TX1 8 := ⟨inX1_rank_X1, by decide +kernel, by decide, rfl⟩
theorem flX1_rank_27 : FL wsX1_rank RX1 27 1 6 RX1 TX1 8 := ⟨inX1_rank_X1, by decide +kernel, by decide, rfl⟩
theorem flX1_rank_21 : FL wsX1_rank RX1 21 1 4 RX1 TX1 8 := ⟨inX1_rank_X1, by decide +kernel, by decide, rfl⟩
theorem flX1_rank_9 : FL wsX1_rank RX1 9 1 1 RX1 TX1 8 := ⟨inX1_rank_X1, by decide +kernel, by decide, rfl⟩
theorem kmX1_isBefore : KM yX1_isBefore RX1 2 := by unfold KM; decide +kernel
theorem inX1_isBefore_X1 : ∀ w ∈ u_ws RX1 TX1 8, w ∈ wsX1_isBefore := fun _ h => List.mem_cons_of_mem _ (List.mem_append_right _ h)
theorem flX1_isBefore_24 : FL wsX1_isBefore RX1 24 1 5 RX1 TX1 8 := ⟨inX1_isBefore_X1, by decide +kernel, by decide, rfl⟩
theorem flX1_isBefore_27 : FL wsX1_isBefore RX1 27 1 6 RX1 TX1 8 := ⟨inX1_isBefore_X1, by decide +kernel, by decide, rfl⟩
theorem kmX2_init : KM yX2_init RX2 0 := by unfold KM; decide +kernel
theorem inX2_init_X2 : ∀ w ∈ u_ws RX2 TX2 2, w ∈ wsX2_init := fun _ h => List.mem_cons_of_mem _ (List.mem_append_right _ h)
theorem flX2_init_9 : FL wsX2_init RX2 9 2 1 RX2 TX2 2 := ⟨inX2_init_X2, by decide +kernel, by decide, rfl⟩
theorem kmX2_empty : KM yX2_empty RX2 0 := by unfold KM; decide +kernel
theorem inX2_empty_X2 : ∀ w ∈ u_ws RX2 TX2 2, w ∈ wsX2_empty := fun _ h => List.mem_cons_of_mem _ (List.mem_append_right _ h)
theorem flX2_empty_15 : FL wsX2_empty RX2 15 2 0 RX2 TX2 2 := ⟨inX2_empty_X2, by decide +kernel, by decide, rfl⟩
theorem kmX2_copy : KM yX2_copy RX2 1 := by unfold KM; decide +kernel
theorem inX2_copy_X2 : ∀ w ∈ u_ws RX2 TX2 2, w ∈ wsX2_copy := fun _ h => List.mem_cons_of_mem _ (List.mem_append_right _ h)
theorem flX2_copy_15 : FL wsX2_copy RX2 15 2 0 RX2 TX2 2 := ⟨inX2_copy_X2, by decide +kernel, by decide, rfl⟩
theorem flX2_copy_9 : FL wsX2_copy RX2 9 2 1 RX2 TX2 2 := ⟨inX2_copy_X2, by decide +kernel, by decide, rfl⟩
theorem mcX2_copy_19 : MC wsX2_copy RX2 19 := by unfold MC; decide +kernel
theorem kmX2_has : KM yX2_has RX2 1 := by unfold KM; decide +kernel
theorem inX2_has_X2 : ∀ w ∈ u_ws RX2 TX2 2, w ∈ wsX2_has := fun _ h => List.mem_cons_of_mem _ (List.mem_append_right _ h)
theorem flX2_has_15 : FL wsX2_has RX2 15 2 0 RX2 TX2 2 := ⟨inX2_has_X2, by decide +kernel, by decide, rfl⟩
theorem kmX2_colorOf : KM yX2_colorOf RX2 1 := by unfold KM; decide +kernel
theorem inX2_colorOf_X2 : ∀ w ∈ u_ws RX2 TX2 2, w ∈ wsX2_colorOf := fun _ h => List.mem_cons_of_mem _ (List.mem_append_right _ h)
theorem flX2_colorOf_9 : FL wsX2_colorOf RX2 9 2 1 RX2 TX2 2 := ⟨inX2_colorOf_X2, by decide +kernel, by decide, rfl⟩
theorem kmX2_size : KM yX2_size RX2 1 := by unfold KM; decide +kernel
theorem inX2_size_X2 : ∀ w ∈ u_ws RX2 TX2 2, w ∈ wsX2_size := fun _ h => List.mem_cons_of_mem _ (List.mem_append_right _ h)
theorem flX2_size_9 : FL wsX2_size RX2 9 2 1 RX2 TX2 2 := ⟨inX2_size_X2, by decide +kernel, by decide, rfl⟩
theorem kmX2_x : KM yX2_x RX2 2 := by unfold KM; decide +kernel
theorem inX2_x_X2 : ∀ w ∈ u_ws RX2 TX2 2, w ∈ wsX2_x := fun _ h => List.mem_cons_of_mem _ (List.mem_append_right _ h)
theorem flX2_x_9 : FL wsX2_x RX2 9 2 1 RX2 TX2 2 := ⟨inX2_x_X2, by decide +kernel, by decide, rfl⟩
theorem kmX2_y : KM yX2_y RX2 2 := by unfold KM; decide +kernel
theorem inX2_y_X2 : ∀ w ∈ u_ws RX2 TX2 2, w ∈ wsX2_y := fun _ h => List.mem_cons_of_mem _ (List.mem_append_right _ h)
theorem flX2_y_9 : FL wsX2_y RX2 9 2 1 RX2 TX2 2 := ⟨inX2_y_X2, by decide +kernel, by decide, rfl⟩
theorem kmX2_setColor : KM yX2_setColor RX2 2 := by unfold KM; decide +kernel
theorem inX2_setColor_X2 : ∀ w ∈ u_ws RX2 TX2 2, w ∈ wsX2_setColor := fun _ h => List.mem_cons_of_mem _ (List.mem_append_right _ h)
theorem flX2_setColor_9 : FL wsX2_setColor RX2 9 2 1 RX2 TX2 2 := ⟨inX2_setColor_X2, by decide +kernel, by decide, rfl⟩
theorem kmX2_set : KM yX2_set RX2 3 := by unfold KM; decide +kernel
theorem inX2_set_X2 : ∀ w ∈ u_ws RX2 TX2 2, w ∈ wsX2_set := fun _ h => List.mem_cons_of_mem _ (List.mem_append_left _ (List.mem_append_right _ h))
theorem inX2_set_X5 : ∀ w ∈ u_ws RX5 TX5 3, w ∈ wsX2_set := fun _ h => List.mem_cons_of_mem _ (List.mem_append_right _ h)
theorem flX2_set_9 : FL wsX2_set RX2 9 2 1 RX2 TX2 2 := ⟨inX2_set_X2, by decide +kernel, by decide, rfl⟩
theorem flX2_set_25 : FL wsX2_set RX2 25 5 0 RX5 TX5 3 := ⟨inX2_set_X5, by decide +kernel, by decide, rfl⟩
theorem flX2_set_30 : FL wsX2_set RX2 30 5 1 RX5 TX5 3 := ⟨inX2_set_X5, by decide +kernel, by decide, rfl⟩
theorem mcX2_set_19 : MC wsX2_set RX2 19 := by unfold MC; decide +kernel
theorem flX2_set_33 : FL wsX2_set RX2 33 5 2 RX5 TX5 3 := ⟨inX2_set_X5, by decide +kernel, by decide, rfl⟩
theorem kmX2_append : KM yX2_append RX2 2 := by unfold KM; decide +kernel
theorem inX2_append_X2 : ∀ w ∈ u_ws RX2 TX2 2, w ∈ wsX2_append := fun _ h => List.mem_cons_of_mem _ (List.mem_append_left _ (List.mem_append_right _ h))
theorem inX2_append_X5 : ∀ w ∈ u_ws RX5 TX5 3, w ∈ wsX2_append := fun _ h => List.mem_cons_of_mem _ (List.mem_append_right _ h)
theorem flX2_append_15 : FL wsX2_append RX2 15 2 0 RX2 TX2 2 := ⟨inX2_append_X2, by decide +kernel, by decide, rfl⟩
theorem kmX2_drop : KM yX2_drop RX2 1 := by unfold KM; decide +kernel
theorem inX2_drop_X2 : ∀ w ∈ u_ws RX2 TX2 2, w ∈ wsX2_drop := fun _ h => List.mem_cons_of_mem _ (List.mem_append_right _ h)
theorem flX2_drop_15 : FL wsX2_drop RX2 15 2 0 RX2 TX2 2 := ⟨inX2_drop_X2, by decide +kernel, by decide, rfl⟩
theorem flX2_drop_9 : FL wsX2_drop RX2 9 2 1 RX2 TX2 2 := ⟨inX2_drop_X2, by decide +kernel, by decide, rfl⟩
theorem mcX2_drop_19 : MC wsX2_drop RX2 19 := by unfold MC; decide +kernel
theorem kmX2_isSame : KM yX2_isSame RX2 2 := by unfold KM; decide +kernel
theorem inX2_isSame_X5 : ∀ w ∈ u_ws RX5 TX5 3, w ∈ wsX2_isSame := fun _ h => List.mem_cons_of_mem _ (List.mem_append_left _ (List.mem_append_right _ h))
theorem inX2_isSame_X2 : ∀ w ∈ u_ws RX2 TX2 2, w ∈ wsX2_isSame := fun _ h => List.mem_cons_of_mem _ (List.mem_append_right _ h)
theorem flX2_isSame_25 : FL wsX2_isSame RX2 25 5 0 RX5 TX5 3 := ⟨inX2_isSame_X5, by decide +kernel, by decide, rfl⟩
theorem flX2_isSame_30 : FL wsX2_isSame RX2 30 5 1 RX5 TX5 3 := ⟨inX2_isSame_X5, by decide +kernel, by decide, rfl⟩
theorem flX2_isSame_33 : FL wsX2_isSame RX2 33 5 2 RX5 TX5 3 := ⟨inX2_isSame_X5, by decide +kernel, by decide, rfl⟩
theorem kmX2_left : KM yX2_left RX2 1 := by unfold KM; decide +kernel
theorem inX2_left_X2 : ∀ w ∈ u_ws RX2 TX2 2, w ∈ wsX2_left := fun _ h => List.mem_cons_of_mem _ (List.mem_append_right _ h)
theorem kmX2_right : KM yX2_right RX2 1 := by unfold KM; decide +kernel
theorem inX2_right_X2 : ∀ w ∈ u_ws RX2 TX2 2, w ∈ wsX2_right := fun _ h => List.mem_cons_of_mem _ (List.mem_append_right _ h)
theorem kmX2_top : KM yX2_top RX2 1 := by unfold KM; decide +kernel
theorem inX2_top_X2 : ∀ w ∈ u_ws RX2 TX2 2, w ∈ wsX2_top := fun _ h => List.mem_cons_of_mem _ (List.mem_append_right _ h)
theorem kmX2_bottom : KM yX2_bottom RX2 1 := by unfold KM; decide +kernel
theorem inX2_bottom_X2 : ∀ w ∈ u_ws RX2 TX2 2, w ∈ wsX2_bottom := fun _ h => List.mem_cons_of_mem _ (List.mem_append_right _ h)
theorem kmX2_leastFrom : KM yX2_leastFrom RX2 2 := by unfold KM; decide +kernel
theorem inX2_leastFrom_X2 : ∀ w ∈ u_ws RX2 TX2 2, w ∈ wsX2_leastFrom := fun _ h => List.mem_cons_of_mem _ (List.mem_append_right _ h)
theorem flX2_leastFrom_9 : FL wsX2_leastFrom RX2 9 2 1 RX2 TX2 2 := ⟨inX2_leastFrom_X2, by decide +kernel, by decide, rfl⟩
theorem mmX2_leastFrom_60 : MM_min wsX2_leastFrom RX2 60 := by unfold MM_min; decide +kernel
theorem kmX2_greatestFrom : KM yX2_greatestFrom RX2 2 := by unfold KM; decide +kernel
theorem inX2_greatestFrom_X2 : ∀ w ∈ u_ws RX2 TX2 2, w ∈ wsX2_greatestFrom := fun _ h => List.mem_cons_of_mem _ (List.mem_append_right _ h)
theorem flX2_greatestFrom_9 : FL wsX2_greatestFrom RX2 9 2 1 RX2 TX2 2 := ⟨inX2_greatestFrom_X2, by decide +kernel, by decide, rfl⟩
theorem mmX2_greatestFrom_65 : MM_max wsX2_greatestFrom RX2 65 := by unfold MM_max; decide +kernel
theorem kmX2_length : KM yX2_length RX2 1 := by unfold KM; decide +kernel
theorem inX2_length_X2 : ∀ w ∈ u_ws RX2 TX2 2, w ∈ wsX2_length := fun _ h => List.mem_cons_of_mem _ (List.mem_append_right _ h)
theorem mnX2_length_68 : Cond.methodLinkNest RX2 68 yX7_square RX7 ∈ nwAll ∧ Cond.static yX7_square ∈ wsX2_length ∧ Cond.initialized yX7_square.cls ∈ wsX2_length := by decide +kernel
theorem mnX2_length_71 : Cond.methodLinkNest RX2 71 yX7_root RX7 ∈ nwAll ∧ Cond.static yX7_root ∈ wsX2_length ∧ Cond.initialized yX7_root.cls ∈ wsX2_length := by decide +kernel
theorem kmX2_isOf : KM yX2_isOf RX2 2 := by unfold KM; decide +kernel
theorem inX2_isOf_X2 : ∀ w ∈ u_ws RX2 TX2 2, w ∈ wsX2_isOf := fun _ h => List.mem_cons_of_mem _ (List.mem_append_right _ h)
theorem kmX2_strokesOf : KM yX2_strokesOf RX2 1 := by unfold KM; decide +kernel
theorem inX2_strokesOf_X2 : ∀ w ∈ u_ws RX2 TX2 2, w ∈ wsX2_strokesOf := fun _ h => List.mem_cons_of_mem _ (List.mem_append_right _ h)
theorem flX2_strokesOf_15 : FL wsX2_strokesOf RX2 15 2 0 RX2 TX2 2 := ⟨inX2_strokesOf_X2, by decide +kernel, by decide, rfl⟩
theorem kmX2_pointsOf : KM yX2_pointsOf RX2 1 := by unfold KM; decide +kernel
theorem inX2_pointsOf_X2 : ∀ w ∈ u_ws RX2 TX2 2, w ∈ wsX2_pointsOf := fun _ h => List.mem_cons_of_mem _ (List.mem_append_right _ h)
theorem flX2_pointsOf_15 : FL wsX2_pointsOf RX2 15 2 0 RX2 TX2 2 := ⟨inX2_pointsOf_X2, by decide +kernel, by decide, rfl⟩
theorem kmX2_lengthsOf : KM yX2_lengthsOf RX2 1 := by unfold KM; decide +kernel
theorem inX2_lengthsOf_X2 : ∀ w ∈ u_ws RX2 TX2 2, w ∈ wsX2_lengthsOf := fun _ h => List.mem_cons_of_mem _ (List.mem_append_right _ h)
theorem flX2_lengthsOf_15 : FL wsX2_lengthsOf RX2 15 2 0 RX2 TX2 2 := ⟨inX2_lengthsOf_X2, by decide +kernel, by decide, rfl⟩
theorem kmX3_init : KM yX3_init RX3 0 := by unfold KM; decide +kernel
theorem inX3_init_X3 : ∀ w ∈ u_ws RX3 TX3 4, w ∈ wsX3_init := fun _ h => List.mem_cons_of_mem _ (List.mem_append_right _ h)
theorem flX3_init_9 : FL wsX3_init RX3 9 3 2 RX3 TX3 4 := ⟨inX3_init_X3, by decide +kernel, by decide, rfl⟩
theorem flX3_init_13 : FL wsX3_init RX3 13 3 3 RX3 TX3 4 := ⟨inX3_init_X3, by decide +kernel, by decide, rfl⟩
theorem kmX3_take : KM yX3_take RX3 2 := by unfold KM; decide +kernel
theorem inX3_take_X3 : ∀ w ∈ u_ws RX3 TX3 4, w ∈ wsX3_take := fun _ h => List.mem_cons_of_mem _ (List.mem_append_left _ (List.mem_append_right _ h))
theorem inX3_take_X2 : ∀ w ∈ u_ws RX2 TX2 2, w ∈ wsX3_take := fun _ h => List.mem_cons_of_mem _ (List.mem_append_right _ h)
theorem flX3_take_16 : FL wsX3_take RX3 16 3 0 RX3 TX3 4 := ⟨inX3_take_X3, by decide +kernel, by decide, rfl⟩
theorem flX3_take_20 : FL wsX3_take RX3 20 3 1 RX3 TX3 4 := ⟨inX3_take_X3, by decide +kernel, by decide, rfl⟩
theorem flX3_take_13 : FL wsX3_take RX3 13 3 3 RX3 TX3 4 := ⟨inX3_take_X3, by decide +kernel, by decide, rfl⟩
theorem flX3_take_23 : FL wsX3_take RX3 23 2 0 RX2 TX2 2 := ⟨inX3_take_X2, by decide +kernel, by decide, rfl⟩
theorem mnX3_take_43 : Cond.methodLinkNest RX3 43 yX7_cellOf RX7 ∈ nwAll ∧ Cond.static yX7_cellOf ∈ wsX3_take ∧ Cond.initialized yX7_cellOf.cls ∈ wsX3_take := by decide +kernel
theorem kmX3_add : KM yX3_add RX3 1 := by unfold KM; decide +kernel
theorem inX3_add_X3 : ∀ w ∈ u_ws RX3 TX3 4, w ∈ wsX3_add := fun _ h => List.mem_cons_of_mem _ (List.mem_append_right _ h)
theorem flX3_add_13 : FL wsX3_add RX3 13 3 3 RX3 TX3 4 := ⟨inX3_add_X3, by decide +kernel, by decide, rfl⟩
theorem flX3_add_9 : FL wsX3_add RX3 9 3 2 RX3 TX3 4 := ⟨inX3_add_X3, by decide +kernel, by decide, rfl⟩
theorem flX3_add_16 : FL wsX3_add RX3 16 3 0 RX3 TX3 4 := ⟨inX3_add_X3, by decide +kernel, by decide, rfl⟩
theorem flX3_add_20 : FL wsX3_add RX3 20 3 1 RX3 TX3 4 := ⟨inX3_add_X3, by decide +kernel, by decide, rfl⟩
theorem mmX3_add_52 : MM_max wsX3_add RX3 52 := by unfold MM_max; decide +kernel
theorem kmX4_init : KM yX4_init RX4 0 := by unfold KM; decide +kernel
theorem inX4_init_X4 : ∀ w ∈ u_ws RX4 TX4 2, w ∈ wsX4_init := fun _ h => List.mem_cons_of_mem _ (List.mem_append_right _ h)
theorem flX4_init_9 : FL wsX4_init RX4 9 4 1 RX4 TX4 2 := ⟨inX4_init_X4, by decide +kernel, by decide, rfl⟩
theorem kmX4_empty : KM yX4_empty RX4 0 := by unfold KM; decide +kernel
theorem inX4_empty_X4 : ∀ w ∈ u_ws RX4 TX4 2, w ∈ wsX4_empty := fun _ h => List.mem_cons_of_mem _ (List.mem_append_right _ h)
theorem flX4_empty_15 : FL wsX4_empty RX4 15 4 0 RX4 TX4 2 := ⟨inX4_empty_X4, by decide +kernel, by decide, rfl⟩
theorem kmX4_append : KM yX4_append RX4 1 := by unfold KM; decide +kernel
theorem inX4_append_X4 : ∀ w ∈ u_ws RX4 TX4 2, w ∈ wsX4_append := fun _ h => List.mem_cons_of_mem _ (List.mem_append_right _ h)
theorem flX4_append_15 : FL wsX4_append RX4 15 4 0 RX4 TX4 2 := ⟨inX4_append_X4, by decide +kernel, by decide, rfl⟩
theorem flX4_append_9 : FL wsX4_append RX4 9 4 1 RX4 TX4 2 := ⟨inX4_append_X4, by decide +kernel, by decide, rfl⟩
theorem kmX4_parse : KM yX4_parse RX4 1 := by unfold KM; decide +kernel
theorem inX4_parse_X4 : ∀ w ∈ u_ws RX4 TX4 2, w ∈ wsX4_parse := fun _ h => List.mem_cons_of_mem _ (List.mem_append_left _ (List.mem_append_right _ h))
theorem inX4_parse_X5 : ∀ w ∈ u_ws RX5 TX5 3, w ∈ wsX4_parse := fun _ h => List.mem_cons_of_mem _ (List.mem_append_right _ h)
theorem flX4_parse_15 : FL wsX4_parse RX4 15 4 0 RX4 TX4 2 := ⟨inX4_parse_X4, by decide +kernel, by decide, rfl⟩
theorem flX4_parse_9 : FL wsX4_parse RX4 9 4 1 RX4 TX4 2 := ⟨inX4_parse_X4, by decide +kernel, by decide, rfl⟩
theorem kmX4_isDigit : KM yX4_isDigit RX4 1 := by unfold KM; decide +kernel
theorem kmX5_init : KM yX5_init RX5 0 := by unfold KM; decide +kernel
theorem inX5_init_X5 : ∀ w ∈ u_ws RX5 TX5 3, w ∈ wsX5_init := fun _ h => List.mem_cons_of_mem _ (List.mem_append_right _ h)
theorem flX5_init_9 : FL wsX5_init RX5 9 5 1 RX5 TX5 3 := ⟨inX5_init_X5, by decide +kernel, by decide, rfl⟩
theorem flX5_init_15 : FL wsX5_init RX5 15 5 2 RX5 TX5 3 := ⟨inX5_init_X5, by decide +kernel, by decide, rfl⟩
theorem kmX5_empty : KM yX5_empty RX5 0 := by unfold KM; decide +kernel
theorem inX5_empty_X5 : ∀ w ∈ u_ws RX5 TX5 3, w ∈ wsX5_empty := fun _ h => List.mem_cons_of_mem _ (List.mem_append_right _ h)
theorem flX5_empty_18 : FL wsX5_empty RX5 18 5 0 RX5 TX5 3 := ⟨inX5_empty_X5, by decide +kernel, by decide, rfl⟩
theorem kmX5_isLast : KM yX5_isLast RX5 2 := by unfold KM; decide +kernel
theorem inX5_isLast_X5 : ∀ w ∈ u_ws RX5 TX5 3, w ∈ wsX5_isLast := fun _ h => List.mem_cons_of_mem _ (List.mem_append_right _ h)
theorem flX5_isLast_18 : FL wsX5_isLast RX5 18 5 0 RX5 TX5 3 := ⟨inX5_isLast_X5, by decide +kernel, by decide, rfl⟩
theorem flX5_isLast_9 : FL wsX5_isLast RX5 9 5 1 RX5 TX5 3 := ⟨inX5_isLast_X5, by decide +kernel, by decide, rfl⟩
theorem flX5_isLast_15 : FL wsX5_isLast RX5 15 5 2 RX5 TX5 3 := ⟨inX5_isLast_X5, by decide +kernel, by decide, rfl⟩
theorem kmX5_append : KM yX5_append RX5 2 := by unfold KM; decide +kernel
theorem inX5_append_X5 : ∀ w ∈ u_ws RX5 TX5 3, w ∈ wsX5_append := fun _ h => List.mem_cons_of_mem _ (List.mem_append_right _ h)
theorem flX5_append_18 : FL wsX5_append RX5 18 5 0 RX5 TX5 3 := ⟨inX5_append_X5, by decide +kernel, by decide, rfl⟩
theorem flX5_append_9 : FL wsX5_append RX5 9 5 1 RX5 TX5 3 := ⟨inX5_append_X5, by decide +kernel, by decide, rfl⟩
theorem flX5_append_15 : FL wsX5_append RX5 15 5 2 RX5 TX5 3 := ⟨inX5_append_X5, by decide +kernel, by decide, rfl⟩
theorem kmX5_copy : KM yX5_copy RX5 1 := by unfold KM; decide +kernel
theorem inX5_copy_X5 : ∀ w ∈ u_ws RX5 TX5 3, w ∈ wsX5_copy := fun _ h => List.mem_cons_of_mem _ (List.mem_append_right _ h)
theorem flX5_copy_18 : FL wsX5_copy RX5 18 5 0 RX5 TX5 3 := ⟨inX5_copy_X5, by decide +kernel, by decide, rfl⟩
theorem flX5_copy_9 : FL wsX5_copy RX5 9 5 1 RX5 TX5 3 := ⟨inX5_copy_X5, by decide +kernel, by decide, rfl⟩
theorem mcX5_copy_26 : MC wsX5_copy RX5 26 := by unfold MC; decide +kernel
theorem flX5_copy_15 : FL wsX5_copy RX5 15 5 2 RX5 TX5 3 := ⟨inX5_copy_X5, by decide +kernel, by decide, rfl⟩
theorem kmX5_take : KM yX5_take RX5 2 := by unfold KM; decide +kernel
theorem inX5_take_X5 : ∀ w ∈ u_ws RX5 TX5 3, w ∈ wsX5_take := fun _ h => List.mem_cons_of_mem _ (List.mem_append_left _ (List.mem_append_right _ h))
theorem inX5_take_X2 : ∀ w ∈ u_ws RX2 TX2 2, w ∈ wsX5_take := fun _ h => List.mem_cons_of_mem _ (List.mem_append_right _ h)
theorem flX5_take_18 : FL wsX5_take RX5 18 5 0 RX5 TX5 3 := ⟨inX5_take_X5, by decide +kernel, by decide, rfl⟩
theorem kmX5_smoothOnce : KM yX5_smoothOnce RX5 0 := by unfold KM; decide +kernel
theorem inX5_smoothOnce_X5 : ∀ w ∈ u_ws RX5 TX5 3, w ∈ wsX5_smoothOnce := fun _ h => List.mem_cons_of_mem _ (List.mem_append_right _ h)
theorem flX5_smoothOnce_9 : FL wsX5_smoothOnce RX5 9 5 1 RX5 TX5 3 := ⟨inX5_smoothOnce_X5, by decide +kernel, by decide, rfl⟩
theorem flX5_smoothOnce_15 : FL wsX5_smoothOnce RX5 15 5 2 RX5 TX5 3 := ⟨inX5_smoothOnce_X5, by decide +kernel, by decide, rfl⟩
theorem flX5_smoothOnce_18 : FL wsX5_smoothOnce RX5 18 5 0 RX5 TX5 3 := ⟨inX5_smoothOnce_X5, by decide +kernel, by decide, rfl⟩
theorem kmX5_dropRepeats : KM yX5_dropRepeats RX5 0 := by unfold KM; decide +kernel
theorem inX5_dropRepeats_X5 : ∀ w ∈ u_ws RX5 TX5 3, w ∈ wsX5_dropRepeats := fun _ h => List.mem_cons_of_mem _ (List.mem_append_right _ h)
theorem flX5_dropRepeats_18 : FL wsX5_dropRepeats RX5 18 5 0 RX5 TX5 3 := ⟨inX5_dropRepeats_X5, by decide +kernel, by decide, rfl⟩
theorem flX5_dropRepeats_9 : FL wsX5_dropRepeats RX5 9 5 1 RX5 TX5 3 := ⟨inX5_dropRepeats_X5, by decide +kernel, by decide, rfl⟩
theorem flX5_dropRepeats_15 : FL wsX5_dropRepeats RX5 15 5 2 RX5 TX5 3 := ⟨inX5_dropRepeats_X5, by decide +kernel, by decide, rfl⟩
theorem kmX5_dropNear : KM yX5_dropNear RX5 1 := by unfold KM; decide +kernel
theorem inX5_dropNear_X5 : ∀ w ∈ u_ws RX5 TX5 3, w ∈ wsX5_dropNear := fun _ h => List.mem_cons_of_mem _ (List.mem_append_right _ h)
theorem flX5_dropNear_18 : FL wsX5_dropNear RX5 18 5 0 RX5 TX5 3 := ⟨inX5_dropNear_X5, by decide +kernel, by decide, rfl⟩
theorem flX5_dropNear_9 : FL wsX5_dropNear RX5 9 5 1 RX5 TX5 3 := ⟨inX5_dropNear_X5, by decide +kernel, by decide, rfl⟩
theorem flX5_dropNear_15 : FL wsX5_dropNear RX5 15 5 2 RX5 TX5 3 := ⟨inX5_dropNear_X5, by decide +kernel, by decide, rfl⟩
theorem mnX5_dropNear_48 : Cond.methodLinkNest RX5 48 yX7_square RX7 ∈ nwAll ∧ Cond.static yX7_square ∈ wsX5_dropNear ∧ Cond.initialized yX7_square.cls ∈ wsX5_dropNear := by decide +kernel
theorem kmX6_init : KM yX6_init RX6 0 := by unfold KM; decide +kernel
theorem inX6_init_X6 : ∀ w ∈ u_ws RX6 TX6 12, w ∈ wsX6_init := fun _ h => List.mem_cons_of_mem _ (List.mem_append_right _ h)
theorem flX6_init_9 : FL wsX6_init RX6 9 6 1 RX6 TX6 12 := ⟨inX6_init_X6, by decide +kernel, by decide, rfl⟩
theorem flX6_init_15 : FL wsX6_init RX6 15 6 2 RX6 TX6 12 := ⟨inX6_init_X6, by decide +kernel, by decide, rfl⟩
theorem flX6_init_18 : FL wsX6_init RX6 18 6 3 RX6 TX6 12 := ⟨inX6_init_X6, by decide +kernel, by decide, rfl⟩
theorem flX6_init_21 : FL wsX6_init RX6 21 6 4 RX6 TX6 12 := ⟨inX6_init_X6, by decide +kernel, by decide, rfl⟩
theorem flX6_init_24 : FL wsX6_init RX6 24 6 5 RX6 TX6 12 := ⟨inX6_init_X6, by decide +kernel, by decide, rfl⟩
theorem flX6_init_27 : FL wsX6_init RX6 27 6 6 RX6 TX6 12 := ⟨inX6_init_X6, by decide +kernel, by decide, rfl⟩
theorem flX6_init_30 : FL wsX6_init RX6 30 6 7 RX6 TX6 12 := ⟨inX6_init_X6, by decide +kernel, by decide, rfl⟩
theorem flX6_init_33 : FL wsX6_init RX6 33 6 8 RX6 TX6 12 := ⟨inX6_init_X6, by decide +kernel, by decide, rfl⟩
theorem flX6_init_36 : FL wsX6_init RX6 36 6 9 RX6 TX6 12 := ⟨inX6_init_X6, by decide +kernel, by decide, rfl⟩
theorem flX6_init_39 : FL wsX6_init RX6 39 6 10 RX6 TX6 12 := ⟨inX6_init_X6, by decide +kernel, by decide, rfl⟩
theorem flX6_init_42 : FL wsX6_init RX6 42 6 11 RX6 TX6 12 := ⟨inX6_init_X6, by decide +kernel, by decide, rfl⟩
theorem kmX6_group : KM yX6_group RX6 3 := by unfold KM; decide +kernel
theorem inX6_group_X6 : ∀ w ∈ u_ws RX6 TX6 12, w ∈ wsX6_group := fun _ h => List.mem_cons_of_mem _ (List.mem_append_left _ (List.mem_append_left _ (List.mem_append_right _ h)))
theorem inX6_group_X2 : ∀ w ∈ u_ws RX2 TX2 2, w ∈ wsX6_group := fun _ h => List.mem_cons_of_mem _ (List.mem_append_left _ (List.mem_append_right _ h))
theorem inX6_group_X1 : ∀ w ∈ u_ws RX1 TX1 8, w ∈ wsX6_group := fun _ h => List.mem_cons_of_mem _ (List.mem_append_right _ h)
theorem flX6_group_49 : FL wsX6_group RX6 49 6 0 RX6 TX6 12 := ⟨inX6_group_X6, by decide +kernel, by decide, rfl⟩
theorem flX6_group_53 : FL wsX6_group RX6 53 2 0 RX2 TX2 2 := ⟨inX6_group_X2, by decide +kernel, by decide, rfl⟩
theorem flX6_group_9 : FL wsX6_group RX6 9 6 1 RX6 TX6 12 := ⟨inX6_group_X6, by decide +kernel, by decide, rfl⟩
theorem flX6_group_58 : FL wsX6_group RX6 58 1 1 RX1 TX1 8 := ⟨inX6_group_X1, by decide +kernel, by decide, rfl⟩
theorem flX6_group_36 : FL wsX6_group RX6 36 6 9 RX6 TX6 12 := ⟨inX6_group_X6, by decide +kernel, by decide, rfl⟩
theorem flX6_group_39 : FL wsX6_group RX6 39 6 10 RX6 TX6 12 := ⟨inX6_group_X6, by decide +kernel, by decide, rfl⟩
theorem flX6_group_42 : FL wsX6_group RX6 42 6 11 RX6 TX6 12 := ⟨inX6_group_X6, by decide +kernel, by decide, rfl⟩
theorem flX6_group_30 : FL wsX6_group RX6 30 6 7 RX6 TX6 12 := ⟨inX6_group_X6, by decide +kernel, by decide, rfl⟩
theorem flX6_group_21 : FL wsX6_group RX6 21 6 4 RX6 TX6 12 := ⟨inX6_group_X6, by decide +kernel, by decide, rfl⟩
theorem flX6_group_24 : FL wsX6_group RX6 24 6 5 RX6 TX6 12 := ⟨inX6_group_X6, by decide +kernel, by decide, rfl⟩
theorem flX6_group_27 : FL wsX6_group RX6 27 6 6 RX6 TX6 12 := ⟨inX6_group_X6, by decide +kernel, by decide, rfl⟩
theorem flX6_group_33 : FL wsX6_group RX6 33 6 8 RX6 TX6 12 := ⟨inX6_group_X6, by decide +kernel, by decide, rfl⟩
theorem flX6_group_18 : FL wsX6_group RX6 18 6 3 RX6 TX6 12 := ⟨inX6_group_X6, by decide +kernel, by decide, rfl⟩
theorem mmX6_group_67 : MM_max wsX6_group RX6 67 := by unfold MM_max; decide +kernel
theorem kmX6_setOrder : KM yX6_setOrder RX6 2 := by unfold KM; decide +kernel
theorem inX6_setOrder_X2 : ∀ w ∈ u_ws RX2 TX2 2, w ∈ wsX6_setOrder := fun _ h => List.mem_cons_of_mem _ (List.mem_append_left _ (List.mem_append_left _ (List.mem_append_right _ h)))
theorem inX6_setOrder_X6 : ∀ w ∈ u_ws RX6 TX6 12, w ∈ wsX6_setOrder := fun _ h => List.mem_cons_of_mem _ (List.mem_append_left _ (List.mem_append_right _ h))
theorem inX6_setOrder_X1 : ∀ w ∈ u_ws RX1 TX1 8, w ∈ wsX6_setOrder := fun _ h => List.mem_cons_of_mem _ (List.mem_append_right _ h)
theorem flX6_setOrder_53 : FL wsX6_setOrder RX6 53 2 0 RX2 TX2 2 := ⟨inX6_setOrder_X2, by decide +kernel, by decide, rfl⟩
theorem flX6_setOrder_42 : FL wsX6_setOrder RX6 42 6 11 RX6 TX6 12 := ⟨inX6_setOrder_X6, by decide +kernel, by decide, rfl⟩
theorem flX6_setOrder_15 : FL wsX6_setOrder RX6 15 6 2 RX6 TX6 12 := ⟨inX6_setOrder_X6, by decide +kernel, by decide, rfl⟩
theorem flX6_setOrder_9 : FL wsX6_setOrder RX6 9 6 1 RX6 TX6 12 := ⟨inX6_setOrder_X6, by decide +kernel, by decide, rfl⟩
theorem kmX6_isBefore : KM yX6_isBefore RX6 3 := by unfold KM; decide +kernel
theorem inX6_isBefore_X1 : ∀ w ∈ u_ws RX1 TX1 8, w ∈ wsX6_isBefore := fun _ h => List.mem_cons_of_mem _ (List.mem_append_left _ (List.mem_append_right _ h))
theorem inX6_isBefore_X6 : ∀ w ∈ u_ws RX6 TX6 12, w ∈ wsX6_isBefore := fun _ h => List.mem_cons_of_mem _ (List.mem_append_right _ h)
theorem flX6_isBefore_58 : FL wsX6_isBefore RX6 58 1 1 RX1 TX1 8 := ⟨inX6_isBefore_X1, by decide +kernel, by decide, rfl⟩
theorem flX6_isBefore_42 : FL wsX6_isBefore RX6 42 6 11 RX6 TX6 12 := ⟨inX6_isBefore_X6, by decide +kernel, by decide, rfl⟩
end LINKS
end
section
/-! the instructions of X7's methods, by program -/
def tbX7_init : List (Nat × Instr × Nat) := [(0, .aload_n 0, 1), (1, .invokespecial 3, 3), (4, .aload_n 0, 1), (5, .new 9, 3), (8, .dup, 1), (9, .invokespecial 11, 3), (12, .putfield 12, 3), (15, .aload_n 0, 1), (16, .new 16, 3), (19, .dup, 1), (20, .invokespecial 18, 3), (23, .putfield 19, 3), (26, .aload_n 0, 1), (27, .new 23, 3), (30, .dup, 1), (31, .invokespecial 25, 3), (34, .putfield 26, 3), (37, .aload_n 0, 1), (38, .new 23, 3), (41, .dup, 1), (42, .invokespecial 25, 3), (45, .putfield 30, 3), (48, .aload_n 0, 1), (49, .new 9, 3), (52, .dup, 1), (53, .invokespecial 11, 3), (56, .putfield 33, 3), (59, .aload_n 0, 1), (60, .new 36, 3), (63, .dup, 1), (64, .invokespecial 38, 3), (67, .putfield 39, 3), (70, .aload_n 0, 1), (71, .new 43, 3), (74, .dup, 1), (75, .invokespecial 45, 3), (78, .putfield 46, 3), (81, .aload_n 0, 1), (82, .new 50, 3), (85, .dup, 1), (86, .invokespecial 52, 3), (89, .putfield 53, 3), (92, .aload_n 0, 1), (93, .new 57, 3), (96, .dup, 1), (97, .invokespecial 59, 3), (100, .putfield 60, 3), (103, .aload_n 0, 1), (104, .bipush 20, 2), (106, .putfield 64, 3), (109, .return_, 1)]
set_option maxRecDepth 100000 in
theorem dtX7_init : allD cX7_init tbX7_init = true := by decide +kernel
theorem dX7_init_0 : decode cX7_init 0 = .ok (.aload_n 0, 1) := allD_get dtX7_init 0 rfl
theorem dX7_init_1 : decode cX7_init 1 = .ok (.invokespecial 3, 3) := allD_get dtX7_init 1 rfl
theorem dX7_init_4 : decode cX7_init 4 = .ok (.aload_n 0, 1) := allD_get dtX7_init 2 rfl
theorem dX7_init_5 : decode cX7_init 5 = .ok (.new 9, 3) := allD_get dtX7_init 3 rfl
theorem dX7_init_8 : decode cX7_init 8 = .ok (.dup, 1) := allD_get dtX7_init 4 rfl
theorem dX7_init_9 : decode cX7_init 9 = .ok (.invokespecial 11, 3) := allD_get dtX7_init 5 rfl
theorem dX7_init_12 : decode cX7_init 12 = .ok (.putfield 12, 3) := allD_get dtX7_init 6 rfl
theorem dX7_init_15 : decode cX7_init 15 = .ok (.aload_n 0, 1) := allD_get dtX7_init 7 rfl
theorem dX7_init_16 : decode cX7_init 16 = .ok (.new 16, 3) := allD_get dtX7_init 8 rfl
theorem dX7_init_19 : decode cX7_init 19 = .ok (.dup, 1) := allD_get dtX7_init 9 rfl
theorem dX7_init_20 : decode cX7_init 20 = .ok (.invokespecial 18, 3) := allD_get dtX7_init 10 rfl
theorem dX7_init_23 : decode cX7_init 23 = .ok (.putfield 19, 3) := allD_get dtX7_init 11 rfl
theorem dX7_init_26 : decode cX7_init 26 = .ok (.aload_n 0, 1) := allD_get dtX7_init 12 rfl
theorem dX7_init_27 : decode cX7_init 27 = .ok (.new 23, 3) := allD_get dtX7_init 13 rfl
theorem dX7_init_30 : decode cX7_init 30 = .ok (.dup, 1) := allD_get dtX7_init 14 rfl
theorem dX7_init_31 : decode cX7_init 31 = .ok (.invokespecial 25, 3) := allD_get dtX7_init 15 rfl
theorem dX7_init_34 : decode cX7_init 34 = .ok (.putfield 26, 3) := allD_get dtX7_init 16 rfl
theorem dX7_init_37 : decode cX7_init 37 = .ok (.aload_n 0, 1) := allD_get dtX7_init 17 rfl
theorem dX7_init_38 : decode cX7_init 38 = .ok (.new 23, 3) := allD_get dtX7_init 18 rfl
theorem dX7_init_41 : decode cX7_init 41 = .ok (.dup, 1) := allD_get dtX7_init 19 rfl
theorem dX7_init_42 : decode cX7_init 42 = .ok (.invokespecial 25, 3) := allD_get dtX7_init 20 rfl
theorem dX7_init_45 : decode cX7_init 45 = .ok (.putfield 30, 3) := allD_get dtX7_init 21 rfl
theorem dX7_init_48 : decode cX7_init 48 = .ok (.aload_n 0, 1) := allD_get dtX7_init 22 rfl
theorem dX7_init_49 : decode cX7_init 49 = .ok (.new 9, 3) := allD_get dtX7_init 23 rfl
theorem dX7_init_52 : decode cX7_init 52 = .ok (.dup, 1) := allD_get dtX7_init 24 rfl
theorem dX7_init_53 : decode cX7_init 53 = .ok (.invokespecial 11, 3) := allD_get dtX7_init 25 rfl
theorem dX7_init_56 : decode cX7_init 56 = .ok (.putfield 33, 3) := allD_get dtX7_init 26 rfl
theorem dX7_init_59 : decode cX7_init 59 = .ok (.aload_n 0, 1) := allD_get dtX7_init 27 rfl
theorem dX7_init_60 : decode cX7_init 60 = .ok (.new 36, 3) := allD_get dtX7_init 28 rfl
theorem dX7_init_63 : decode cX7_init 63 = .ok (.dup, 1) := allD_get dtX7_init 29 rfl
theorem dX7_init_64 : decode cX7_init 64 = .ok (.invokespecial 38, 3) := allD_get dtX7_init 30 rfl
theorem dX7_init_67 : decode cX7_init 67 = .ok (.putfield 39, 3) := allD_get dtX7_init 31 rfl
theorem dX7_init_70 : decode cX7_init 70 = .ok (.aload_n 0, 1) := allD_get dtX7_init 32 rfl
theorem dX7_init_71 : decode cX7_init 71 = .ok (.new 43, 3) := allD_get dtX7_init 33 rfl
theorem dX7_init_74 : decode cX7_init 74 = .ok (.dup, 1) := allD_get dtX7_init 34 rfl
theorem dX7_init_75 : decode cX7_init 75 = .ok (.invokespecial 45, 3) := allD_get dtX7_init 35 rfl
theorem dX7_init_78 : decode cX7_init 78 = .ok (.putfield 46, 3) := allD_get dtX7_init 36 rfl
theorem dX7_init_81 : decode cX7_init 81 = .ok (.aload_n 0, 1) := allD_get dtX7_init 37 rfl
theorem dX7_init_82 : decode cX7_init 82 = .ok (.new 50, 3) := allD_get dtX7_init 38 rfl
theorem dX7_init_85 : decode cX7_init 85 = .ok (.dup, 1) := allD_get dtX7_init 39 rfl
theorem dX7_init_86 : decode cX7_init 86 = .ok (.invokespecial 52, 3) := allD_get dtX7_init 40 rfl
theorem dX7_init_89 : decode cX7_init 89 = .ok (.putfield 53, 3) := allD_get dtX7_init 41 rfl
theorem dX7_init_92 : decode cX7_init 92 = .ok (.aload_n 0, 1) := allD_get dtX7_init 42 rfl
theorem dX7_init_93 : decode cX7_init 93 = .ok (.new 57, 3) := allD_get dtX7_init 43 rfl
theorem dX7_init_96 : decode cX7_init 96 = .ok (.dup, 1) := allD_get dtX7_init 44 rfl
theorem dX7_init_97 : decode cX7_init 97 = .ok (.invokespecial 59, 3) := allD_get dtX7_init 45 rfl
theorem dX7_init_100 : decode cX7_init 100 = .ok (.putfield 60, 3) := allD_get dtX7_init 46 rfl
theorem dX7_init_103 : decode cX7_init 103 = .ok (.aload_n 0, 1) := allD_get dtX7_init 47 rfl
theorem dX7_init_104 : decode cX7_init 104 = .ok (.bipush 20, 2) := allD_get dtX7_init 48 rfl
theorem dX7_init_106 : decode cX7_init 106 = .ok (.putfield 64, 3) := allD_get dtX7_init 49 rfl
theorem dX7_init_109 : decode cX7_init 109 = .ok (.return_, 1) := allD_get dtX7_init 50 rfl
def tbX7_put : List (Nat × Instr × Nat) := [(0, .iload_n 1, 1), (1, .invokestatic 68, 3), (4, .ifCond .eq 10, 3), (7, .iload_n 2, 1), (8, .invokestatic 68, 3), (11, .ifCond .ne 6, 3), (14, .bipush (-2), 2), (16, .ireturn, 1), (17, .aload_n 0, 1), (18, .getfield 12, 3), (21, .getfield 72, 3), (24, .bipush 24, 2), (26, .if_icmp .lt 6, 3), (29, .bipush (-3), 2), (31, .ireturn, 1), (32, .aload_n 0, 1), (33, .getfield 12, 3), (36, .iload_n 1, 1), (37, .iload_n 2, 1), (38, .invokevirtual 75, 3), (41, .aload_n 0, 1), (42, .getfield 12, 3), (45, .getfield 72, 3), (48, .ireturn, 1)]
set_option maxRecDepth 100000 in
theorem dtX7_put : allD cX7_put tbX7_put = true := by decide +kernel
theorem dX7_put_0 : decode cX7_put 0 = .ok (.iload_n 1, 1) := allD_get dtX7_put 0 rfl
theorem dX7_put_1 : decode cX7_put 1 = .ok (.invokestatic 68, 3) := allD_get dtX7_put 1 rfl
theorem dX7_put_4 : decode cX7_put 4 = .ok (.ifCond .eq 10, 3) := allD_get dtX7_put 2 rfl
theorem dX7_put_7 : decode cX7_put 7 = .ok (.iload_n 2, 1) := allD_get dtX7_put 3 rfl
theorem dX7_put_8 : decode cX7_put 8 = .ok (.invokestatic 68, 3) := allD_get dtX7_put 4 rfl
theorem dX7_put_11 : decode cX7_put 11 = .ok (.ifCond .ne 6, 3) := allD_get dtX7_put 5 rfl
theorem dX7_put_14 : decode cX7_put 14 = .ok (.bipush (-2), 2) := allD_get dtX7_put 6 rfl
theorem dX7_put_16 : decode cX7_put 16 = .ok (.ireturn, 1) := allD_get dtX7_put 7 rfl
theorem dX7_put_17 : decode cX7_put 17 = .ok (.aload_n 0, 1) := allD_get dtX7_put 8 rfl
theorem dX7_put_18 : decode cX7_put 18 = .ok (.getfield 12, 3) := allD_get dtX7_put 9 rfl
theorem dX7_put_21 : decode cX7_put 21 = .ok (.getfield 72, 3) := allD_get dtX7_put 10 rfl
theorem dX7_put_24 : decode cX7_put 24 = .ok (.bipush 24, 2) := allD_get dtX7_put 11 rfl
theorem dX7_put_26 : decode cX7_put 26 = .ok (.if_icmp .lt 6, 3) := allD_get dtX7_put 12 rfl
theorem dX7_put_29 : decode cX7_put 29 = .ok (.bipush (-3), 2) := allD_get dtX7_put 13 rfl
theorem dX7_put_31 : decode cX7_put 31 = .ok (.ireturn, 1) := allD_get dtX7_put 14 rfl
theorem dX7_put_32 : decode cX7_put 32 = .ok (.aload_n 0, 1) := allD_get dtX7_put 15 rfl
theorem dX7_put_33 : decode cX7_put 33 = .ok (.getfield 12, 3) := allD_get dtX7_put 16 rfl
theorem dX7_put_36 : decode cX7_put 36 = .ok (.iload_n 1, 1) := allD_get dtX7_put 17 rfl
theorem dX7_put_37 : decode cX7_put 37 = .ok (.iload_n 2, 1) := allD_get dtX7_put 18 rfl
theorem dX7_put_38 : decode cX7_put 38 = .ok (.invokevirtual 75, 3) := allD_get dtX7_put 19 rfl
theorem dX7_put_41 : decode cX7_put 41 = .ok (.aload_n 0, 1) := allD_get dtX7_put 20 rfl
theorem dX7_put_42 : decode cX7_put 42 = .ok (.getfield 12, 3) := allD_get dtX7_put 21 rfl
theorem dX7_put_45 : decode cX7_put 45 = .ok (.getfield 72, 3) := allD_get dtX7_put 22 rfl
theorem dX7_put_48 : decode cX7_put 48 = .ok (.ireturn, 1) := allD_get dtX7_put 23 rfl
def tbX7_clearPoints : List (Nat × Instr × Nat) := [(0, .aload_n 0, 1), (1, .getfield 12, 3), (4, .getfield 72, 3), (7, .istore_n 1, 1), (8, .aload_n 0, 1), (9, .getfield 12, 3), (12, .invokevirtual 79, 3), (15, .iload_n 1, 1), (16, .ireturn, 1)]
set_option maxRecDepth 100000 in
theorem dtX7_clearPoints : allD cX7_clearPoints tbX7_clearPoints = true := by decide +kernel
theorem dX7_clearPoints_0 : decode cX7_clearPoints 0 = .ok (.aload_n 0, 1) := allD_get dtX7_clearPoints 0 rfl
theorem dX7_clearPoints_1 : decode cX7_clearPoints 1 = .ok (.getfield 12, 3) := allD_get dtX7_clearPoints 1 rfl
theorem dX7_clearPoints_4 : decode cX7_clearPoints 4 = .ok (.getfield 72, 3) := allD_get dtX7_clearPoints 2 rfl
theorem dX7_clearPoints_7 : decode cX7_clearPoints 7 = .ok (.istore_n 1, 1) := allD_get dtX7_clearPoints 3 rfl
theorem dX7_clearPoints_8 : decode cX7_clearPoints 8 = .ok (.aload_n 0, 1) := allD_get dtX7_clearPoints 4 rfl
theorem dX7_clearPoints_9 : decode cX7_clearPoints 9 = .ok (.getfield 12, 3) := allD_get dtX7_clearPoints 5 rfl
theorem dX7_clearPoints_12 : decode cX7_clearPoints 12 = .ok (.invokevirtual 79, 3) := allD_get dtX7_clearPoints 6 rfl
theorem dX7_clearPoints_15 : decode cX7_clearPoints 15 = .ok (.iload_n 1, 1) := allD_get dtX7_clearPoints 7 rfl
theorem dX7_clearPoints_16 : decode cX7_clearPoints 16 = .ok (.ireturn, 1) := allD_get dtX7_clearPoints 8 rfl
def tbX7_type : List (Nat × Instr × Nat) := [(0, .aload_n 0, 1), (1, .getfield 19, 3), (4, .getfield 82, 3), (7, .bipush 100, 2), (9, .if_icmp .lt 6, 3), (12, .bipush (-3), 2), (14, .ireturn, 1), (15, .aload_n 0, 1), (16, .getfield 19, 3), (19, .iload_n 1, 1), (20, .invokevirtual 85, 3), (23, .aload_n 0, 1), (24, .getfield 19, 3), (27, .getfield 82, 3), (30, .ireturn, 1)]
set_option maxRecDepth 100000 in
theorem dtX7_type : allD cX7_type tbX7_type = true := by decide +kernel
theorem dX7_type_0 : decode cX7_type 0 = .ok (.aload_n 0, 1) := allD_get dtX7_type 0 rfl
theorem dX7_type_1 : decode cX7_type 1 = .ok (.getfield 19, 3) := allD_get dtX7_type 1 rfl
theorem dX7_type_4 : decode cX7_type 4 = .ok (.getfield 82, 3) := allD_get dtX7_type 2 rfl
theorem dX7_type_7 : decode cX7_type 7 = .ok (.bipush 100, 2) := allD_get dtX7_type 3 rfl
theorem dX7_type_9 : decode cX7_type 9 = .ok (.if_icmp .lt 6, 3) := allD_get dtX7_type 4 rfl
theorem dX7_type_12 : decode cX7_type 12 = .ok (.bipush (-3), 2) := allD_get dtX7_type 5 rfl
theorem dX7_type_14 : decode cX7_type 14 = .ok (.ireturn, 1) := allD_get dtX7_type 6 rfl
theorem dX7_type_15 : decode cX7_type 15 = .ok (.aload_n 0, 1) := allD_get dtX7_type 7 rfl
theorem dX7_type_16 : decode cX7_type 16 = .ok (.getfield 19, 3) := allD_get dtX7_type 8 rfl
theorem dX7_type_19 : decode cX7_type 19 = .ok (.iload_n 1, 1) := allD_get dtX7_type 9 rfl
theorem dX7_type_20 : decode cX7_type 20 = .ok (.invokevirtual 85, 3) := allD_get dtX7_type 10 rfl
theorem dX7_type_23 : decode cX7_type 23 = .ok (.aload_n 0, 1) := allD_get dtX7_type 11 rfl
theorem dX7_type_24 : decode cX7_type 24 = .ok (.getfield 19, 3) := allD_get dtX7_type 12 rfl
theorem dX7_type_27 : decode cX7_type 27 = .ok (.getfield 82, 3) := allD_get dtX7_type 13 rfl
theorem dX7_type_30 : decode cX7_type 30 = .ok (.ireturn, 1) := allD_get dtX7_type 14 rfl
def tbX7_clearText : List (Nat × Instr × Nat) := [(0, .aload_n 0, 1), (1, .getfield 19, 3), (4, .getfield 82, 3), (7, .istore_n 1, 1), (8, .aload_n 0, 1), (9, .getfield 19, 3), (12, .invokevirtual 88, 3), (15, .iload_n 1, 1), (16, .ireturn, 1)]
set_option maxRecDepth 100000 in
theorem dtX7_clearText : allD cX7_clearText tbX7_clearText = true := by decide +kernel
theorem dX7_clearText_0 : decode cX7_clearText 0 = .ok (.aload_n 0, 1) := allD_get dtX7_clearText 0 rfl
theorem dX7_clearText_1 : decode cX7_clearText 1 = .ok (.getfield 19, 3) := allD_get dtX7_clearText 1 rfl
theorem dX7_clearText_4 : decode cX7_clearText 4 = .ok (.getfield 82, 3) := allD_get dtX7_clearText 2 rfl
theorem dX7_clearText_7 : decode cX7_clearText 7 = .ok (.istore_n 1, 1) := allD_get dtX7_clearText 3 rfl
theorem dX7_clearText_8 : decode cX7_clearText 8 = .ok (.aload_n 0, 1) := allD_get dtX7_clearText 4 rfl
theorem dX7_clearText_9 : decode cX7_clearText 9 = .ok (.getfield 19, 3) := allD_get dtX7_clearText 5 rfl
theorem dX7_clearText_12 : decode cX7_clearText 12 = .ok (.invokevirtual 88, 3) := allD_get dtX7_clearText 6 rfl
theorem dX7_clearText_15 : decode cX7_clearText 15 = .ok (.iload_n 1, 1) := allD_get dtX7_clearText 7 rfl
theorem dX7_clearText_16 : decode cX7_clearText 16 = .ok (.ireturn, 1) := allD_get dtX7_clearText 8 rfl
def tbX7_readPoints : List (Nat × Instr × Nat) := [(0, .aload_n 0, 1), (1, .getfield 19, 3), (4, .aload_n 0, 1), (5, .getfield 33, 3), (8, .invokevirtual 89, 3), (11, .istore_n 1, 1), (12, .iload_n 1, 1), (13, .iconst (-1), 1), (14, .if_icmp .eq 8, 3), (17, .bipush (-100), 2), (19, .iload_n 1, 1), (20, .isub, 1), (21, .ireturn, 1), (22, .aload_n 0, 1), (23, .getfield 12, 3), (26, .aload_n 0, 1), (27, .getfield 33, 3), (30, .invokevirtual 93, 3), (33, .aload_n 0, 1), (34, .getfield 12, 3), (37, .getfield 72, 3), (40, .ireturn, 1)]
set_option maxRecDepth 100000 in
theorem dtX7_readPoints : allD cX7_readPoints tbX7_readPoints = true := by decide +kernel
theorem dX7_readPoints_0 : decode cX7_readPoints 0 = .ok (.aload_n 0, 1) := allD_get dtX7_readPoints 0 rfl
theorem dX7_readPoints_1 : decode cX7_readPoints 1 = .ok (.getfield 19, 3) := allD_get dtX7_readPoints 1 rfl
theorem dX7_readPoints_4 : decode cX7_readPoints 4 = .ok (.aload_n 0, 1) := allD_get dtX7_readPoints 2 rfl
theorem dX7_readPoints_5 : decode cX7_readPoints 5 = .ok (.getfield 33, 3) := allD_get dtX7_readPoints 3 rfl
theorem dX7_readPoints_8 : decode cX7_readPoints 8 = .ok (.invokevirtual 89, 3) := allD_get dtX7_readPoints 4 rfl
theorem dX7_readPoints_11 : decode cX7_readPoints 11 = .ok (.istore_n 1, 1) := allD_get dtX7_readPoints 5 rfl
theorem dX7_readPoints_12 : decode cX7_readPoints 12 = .ok (.iload_n 1, 1) := allD_get dtX7_readPoints 6 rfl
theorem dX7_readPoints_13 : decode cX7_readPoints 13 = .ok (.iconst (-1), 1) := allD_get dtX7_readPoints 7 rfl
theorem dX7_readPoints_14 : decode cX7_readPoints 14 = .ok (.if_icmp .eq 8, 3) := allD_get dtX7_readPoints 8 rfl
theorem dX7_readPoints_17 : decode cX7_readPoints 17 = .ok (.bipush (-100), 2) := allD_get dtX7_readPoints 9 rfl
theorem dX7_readPoints_19 : decode cX7_readPoints 19 = .ok (.iload_n 1, 1) := allD_get dtX7_readPoints 10 rfl
theorem dX7_readPoints_20 : decode cX7_readPoints 20 = .ok (.isub, 1) := allD_get dtX7_readPoints 11 rfl
theorem dX7_readPoints_21 : decode cX7_readPoints 21 = .ok (.ireturn, 1) := allD_get dtX7_readPoints 12 rfl
theorem dX7_readPoints_22 : decode cX7_readPoints 22 = .ok (.aload_n 0, 1) := allD_get dtX7_readPoints 13 rfl
theorem dX7_readPoints_23 : decode cX7_readPoints 23 = .ok (.getfield 12, 3) := allD_get dtX7_readPoints 14 rfl
theorem dX7_readPoints_26 : decode cX7_readPoints 26 = .ok (.aload_n 0, 1) := allD_get dtX7_readPoints 15 rfl
theorem dX7_readPoints_27 : decode cX7_readPoints 27 = .ok (.getfield 33, 3) := allD_get dtX7_readPoints 16 rfl
theorem dX7_readPoints_30 : decode cX7_readPoints 30 = .ok (.invokevirtual 93, 3) := allD_get dtX7_readPoints 17 rfl
theorem dX7_readPoints_33 : decode cX7_readPoints 33 = .ok (.aload_n 0, 1) := allD_get dtX7_readPoints 18 rfl
theorem dX7_readPoints_34 : decode cX7_readPoints 34 = .ok (.getfield 12, 3) := allD_get dtX7_readPoints 19 rfl
theorem dX7_readPoints_37 : decode cX7_readPoints 37 = .ok (.getfield 72, 3) := allD_get dtX7_readPoints 20 rfl
theorem dX7_readPoints_40 : decode cX7_readPoints 40 = .ok (.ireturn, 1) := allD_get dtX7_readPoints 21 rfl
def tbX7_draw : List (Nat × Instr × Nat) := [(0, .iload_n 1, 1), (1, .invokestatic 97, 3), (4, .ifCond .ne 6, 3), (7, .bipush (-2), 2), (9, .ireturn, 1), (10, .aload_n 0, 1), (11, .getfield 12, 3), (14, .getfield 72, 3), (17, .ifCond .ne 6, 3), (20, .bipush (-4), 2), (22, .ireturn, 1), (23, .aload_n 0, 1), (24, .getfield 26, 3), (27, .iload_n 1, 1), (28, .aload_n 0, 1), (29, .getfield 12, 3), (32, .invokevirtual 100, 3), (35, .ifCond .ne 6, 3), (38, .bipush (-3), 2), (40, .ireturn, 1), (41, .aload_n 0, 1), (42, .getfield 12, 3), (45, .invokevirtual 79, 3), (48, .aload_n 0, 1), (49, .getfield 39, 3), (52, .aload_n 0, 1), (53, .getfield 26, 3), (56, .invokevirtual 103, 3), (59, .aload_n 0, 1), (60, .getfield 26, 3), (63, .getfield 107, 3), (66, .iconst 1, 1), (67, .isub, 1), (68, .ireturn, 1)]
set_option maxRecDepth 100000 in
theorem dtX7_draw : allD cX7_draw tbX7_draw = true := by decide +kernel
theorem dX7_draw_0 : decode cX7_draw 0 = .ok (.iload_n 1, 1) := allD_get dtX7_draw 0 rfl
theorem dX7_draw_1 : decode cX7_draw 1 = .ok (.invokestatic 97, 3) := allD_get dtX7_draw 1 rfl
theorem dX7_draw_4 : decode cX7_draw 4 = .ok (.ifCond .ne 6, 3) := allD_get dtX7_draw 2 rfl
theorem dX7_draw_7 : decode cX7_draw 7 = .ok (.bipush (-2), 2) := allD_get dtX7_draw 3 rfl
theorem dX7_draw_9 : decode cX7_draw 9 = .ok (.ireturn, 1) := allD_get dtX7_draw 4 rfl
theorem dX7_draw_10 : decode cX7_draw 10 = .ok (.aload_n 0, 1) := allD_get dtX7_draw 5 rfl
theorem dX7_draw_11 : decode cX7_draw 11 = .ok (.getfield 12, 3) := allD_get dtX7_draw 6 rfl
theorem dX7_draw_14 : decode cX7_draw 14 = .ok (.getfield 72, 3) := allD_get dtX7_draw 7 rfl
theorem dX7_draw_17 : decode cX7_draw 17 = .ok (.ifCond .ne 6, 3) := allD_get dtX7_draw 8 rfl
theorem dX7_draw_20 : decode cX7_draw 20 = .ok (.bipush (-4), 2) := allD_get dtX7_draw 9 rfl
theorem dX7_draw_22 : decode cX7_draw 22 = .ok (.ireturn, 1) := allD_get dtX7_draw 10 rfl
theorem dX7_draw_23 : decode cX7_draw 23 = .ok (.aload_n 0, 1) := allD_get dtX7_draw 11 rfl
theorem dX7_draw_24 : decode cX7_draw 24 = .ok (.getfield 26, 3) := allD_get dtX7_draw 12 rfl
theorem dX7_draw_27 : decode cX7_draw 27 = .ok (.iload_n 1, 1) := allD_get dtX7_draw 13 rfl
theorem dX7_draw_28 : decode cX7_draw 28 = .ok (.aload_n 0, 1) := allD_get dtX7_draw 14 rfl
theorem dX7_draw_29 : decode cX7_draw 29 = .ok (.getfield 12, 3) := allD_get dtX7_draw 15 rfl
theorem dX7_draw_32 : decode cX7_draw 32 = .ok (.invokevirtual 100, 3) := allD_get dtX7_draw 16 rfl
theorem dX7_draw_35 : decode cX7_draw 35 = .ok (.ifCond .ne 6, 3) := allD_get dtX7_draw 17 rfl
theorem dX7_draw_38 : decode cX7_draw 38 = .ok (.bipush (-3), 2) := allD_get dtX7_draw 18 rfl
theorem dX7_draw_40 : decode cX7_draw 40 = .ok (.ireturn, 1) := allD_get dtX7_draw 19 rfl
theorem dX7_draw_41 : decode cX7_draw 41 = .ok (.aload_n 0, 1) := allD_get dtX7_draw 20 rfl
theorem dX7_draw_42 : decode cX7_draw 42 = .ok (.getfield 12, 3) := allD_get dtX7_draw 21 rfl
theorem dX7_draw_45 : decode cX7_draw 45 = .ok (.invokevirtual 79, 3) := allD_get dtX7_draw 22 rfl
theorem dX7_draw_48 : decode cX7_draw 48 = .ok (.aload_n 0, 1) := allD_get dtX7_draw 23 rfl
theorem dX7_draw_49 : decode cX7_draw 49 = .ok (.getfield 39, 3) := allD_get dtX7_draw 24 rfl
theorem dX7_draw_52 : decode cX7_draw 52 = .ok (.aload_n 0, 1) := allD_get dtX7_draw 25 rfl
theorem dX7_draw_53 : decode cX7_draw 53 = .ok (.getfield 26, 3) := allD_get dtX7_draw 26 rfl
theorem dX7_draw_56 : decode cX7_draw 56 = .ok (.invokevirtual 103, 3) := allD_get dtX7_draw 27 rfl
theorem dX7_draw_59 : decode cX7_draw 59 = .ok (.aload_n 0, 1) := allD_get dtX7_draw 28 rfl
theorem dX7_draw_60 : decode cX7_draw 60 = .ok (.getfield 26, 3) := allD_get dtX7_draw 29 rfl
theorem dX7_draw_63 : decode cX7_draw 63 = .ok (.getfield 107, 3) := allD_get dtX7_draw 30 rfl
theorem dX7_draw_66 : decode cX7_draw 66 = .ok (.iconst 1, 1) := allD_get dtX7_draw 31 rfl
theorem dX7_draw_67 : decode cX7_draw 67 = .ok (.isub, 1) := allD_get dtX7_draw 32 rfl
theorem dX7_draw_68 : decode cX7_draw 68 = .ok (.ireturn, 1) := allD_get dtX7_draw 33 rfl
def tbX7_rub : List (Nat × Instr × Nat) := [(0, .iload_n 1, 1), (1, .invokestatic 68, 3), (4, .ifCond .eq 21, 3), (7, .iload_n 2, 1), (8, .invokestatic 68, 3), (11, .ifCond .eq 14, 3), (14, .iload_n 3, 1), (15, .iconst 0, 1), (16, .sipush 500, 3), (19, .invokestatic 110, 3), (22, .ifCond .ne 6, 3), (25, .bipush (-2), 2), (27, .ireturn, 1), (28, .aload_n 0, 1), (29, .getfield 30, 3), (32, .invokevirtual 114, 3), (35, .iconst 1, 1), (36, .istore 4, 2), (38, .iconst 0, 1), (39, .istore 5, 2), (41, .iconst 0, 1), (42, .istore 6, 2), (44, .iload 6, 2), (46, .aload_n 0, 1), (47, .getfield 26, 3), (50, .getfield 107, 3), (53, .if_icmp .ge 155, 3), (56, .aload_n 0, 1), (57, .getfield 33, 3), (60, .invokevirtual 79, 3), (63, .iconst 0, 1), (64, .istore 7, 2), (66, .iload 7, 2), (68, .aload_n 0, 1), (69, .getfield 26, 3), (72, .iload 6, 2), (74, .invokevirtual 115, 3), (77, .if_icmp .ge 97, 3), (80, .aload_n 0, 1), (81, .getfield 26, 3), (84, .iload 6, 2), (86, .iload 7, 2), (88, .invokevirtual 118, 3), (91, .istore 8, 2), (93, .aload_n 0, 1), (94, .getfield 26, 3), (97, .iload 6, 2), (99, .iload 7, 2), (101, .invokevirtual 122, 3), (104, .istore 9, 2), (106, .iload 8, 2), (108, .iload_n 1, 1), (109, .isub, 1), (110, .iload 9, 2), (112, .iload_n 2, 1), (113, .isub, 1), (114, .invokestatic 125, 3), (117, .iload_n 3, 1), (118, .iload_n 3, 1), (119, .imul, 1), (120, .if_icmp .gt 37, 3), (123, .iinc 5 1, 3), (126, .aload_n 0, 1), (127, .aload_n 0, 1), (128, .getfield 26, 3), (131, .iload 6, 2), (133, .invokevirtual 128, 3), (136, .invokevirtual 131, 3), (139, .ifCond .eq 12, 3), (142, .iload 4, 2), (144, .ifCond .eq 7, 3), (147, .iconst 1, 1), (148, .goto 4, 3), (151, .iconst 0, 1), (152, .istore 4, 2), (154, .goto 14, 3), (157, .aload_n 0, 1), (158, .getfield 33, 3), (161, .iload 8, 2), (163, .iload 9, 2), (165, .invokevirtual 75, 3), (168, .iinc 7 1, 3), (171, .goto (-105), 3), (174, .aload_n 0, 1), (175, .aload_n 0, 1), (176, .getfield 26, 3), (179, .iload 6, 2), (181, .invokevirtual 128, 3), (184, .invokevirtual 131, 3), (187, .ifCond .eq 12, 3), (190, .iload 4, 2), (192, .ifCond .eq 7, 3), (195, .iconst 1, 1), (196, .goto 4, 3), (199, .iconst 0, 1), (200, .istore 4, 2), (202, .iinc 6 1, 3), (205, .goto (-161), 3), (208, .iload 4, 2), (210, .ifCond .ne 6, 3), (213, .bipush (-3), 2), (215, .ireturn, 1), (216, .iload 5, 2), (218, .ifCond .ne 6, 3), (221, .bipush (-5), 2), (223, .ireturn, 1), (224, .aload_n 0, 1), (225, .getfield 26, 3), (228, .aload_n 0, 1), (229, .getfield 30, 3), (232, .invokevirtual 134, 3), (235, .aload_n 0, 1), (236, .getfield 39, 3), (239, .aload_n 0, 1), (240, .getfield 26, 3), (243, .invokevirtual 103, 3), (246, .iload 5, 2), (248, .ireturn, 1)]
set_option maxRecDepth 100000 in
theorem dtX7_rub : allD cX7_rub tbX7_rub = true := by decide +kernel
theorem dX7_rub_0 : decode cX7_rub 0 = .ok (.iload_n 1, 1) := allD_get dtX7_rub 0 rfl
theorem dX7_rub_1 : decode cX7_rub 1 = .ok (.invokestatic 68, 3) := allD_get dtX7_rub 1 rfl
theorem dX7_rub_4 : decode cX7_rub 4 = .ok (.ifCond .eq 21, 3) := allD_get dtX7_rub 2 rfl
theorem dX7_rub_7 : decode cX7_rub 7 = .ok (.iload_n 2, 1) := allD_get dtX7_rub 3 rfl
theorem dX7_rub_8 : decode cX7_rub 8 = .ok (.invokestatic 68, 3) := allD_get dtX7_rub 4 rfl
theorem dX7_rub_11 : decode cX7_rub 11 = .ok (.ifCond .eq 14, 3) := allD_get dtX7_rub 5 rfl
theorem dX7_rub_14 : decode cX7_rub 14 = .ok (.iload_n 3, 1) := allD_get dtX7_rub 6 rfl
theorem dX7_rub_15 : decode cX7_rub 15 = .ok (.iconst 0, 1) := allD_get dtX7_rub 7 rfl
theorem dX7_rub_16 : decode cX7_rub 16 = .ok (.sipush 500, 3) := allD_get dtX7_rub 8 rfl
theorem dX7_rub_19 : decode cX7_rub 19 = .ok (.invokestatic 110, 3) := allD_get dtX7_rub 9 rfl
theorem dX7_rub_22 : decode cX7_rub 22 = .ok (.ifCond .ne 6, 3) := allD_get dtX7_rub 10 rfl
theorem dX7_rub_25 : decode cX7_rub 25 = .ok (.bipush (-2), 2) := allD_get dtX7_rub 11 rfl
theorem dX7_rub_27 : decode cX7_rub 27 = .ok (.ireturn, 1) := allD_get dtX7_rub 12 rfl
theorem dX7_rub_28 : decode cX7_rub 28 = .ok (.aload_n 0, 1) := allD_get dtX7_rub 13 rfl
theorem dX7_rub_29 : decode cX7_rub 29 = .ok (.getfield 30, 3) := allD_get dtX7_rub 14 rfl
theorem dX7_rub_32 : decode cX7_rub 32 = .ok (.invokevirtual 114, 3) := allD_get dtX7_rub 15 rfl
theorem dX7_rub_35 : decode cX7_rub 35 = .ok (.iconst 1, 1) := allD_get dtX7_rub 16 rfl
theorem dX7_rub_36 : decode cX7_rub 36 = .ok (.istore 4, 2) := allD_get dtX7_rub 17 rfl
theorem dX7_rub_38 : decode cX7_rub 38 = .ok (.iconst 0, 1) := allD_get dtX7_rub 18 rfl
theorem dX7_rub_39 : decode cX7_rub 39 = .ok (.istore 5, 2) := allD_get dtX7_rub 19 rfl
theorem dX7_rub_41 : decode cX7_rub 41 = .ok (.iconst 0, 1) := allD_get dtX7_rub 20 rfl
theorem dX7_rub_42 : decode cX7_rub 42 = .ok (.istore 6, 2) := allD_get dtX7_rub 21 rfl
theorem dX7_rub_44 : decode cX7_rub 44 = .ok (.iload 6, 2) := allD_get dtX7_rub 22 rfl
theorem dX7_rub_46 : decode cX7_rub 46 = .ok (.aload_n 0, 1) := allD_get dtX7_rub 23 rfl
theorem dX7_rub_47 : decode cX7_rub 47 = .ok (.getfield 26, 3) := allD_get dtX7_rub 24 rfl
theorem dX7_rub_50 : decode cX7_rub 50 = .ok (.getfield 107, 3) := allD_get dtX7_rub 25 rfl
theorem dX7_rub_53 : decode cX7_rub 53 = .ok (.if_icmp .ge 155, 3) := allD_get dtX7_rub 26 rfl
theorem dX7_rub_56 : decode cX7_rub 56 = .ok (.aload_n 0, 1) := allD_get dtX7_rub 27 rfl
theorem dX7_rub_57 : decode cX7_rub 57 = .ok (.getfield 33, 3) := allD_get dtX7_rub 28 rfl
theorem dX7_rub_60 : decode cX7_rub 60 = .ok (.invokevirtual 79, 3) := allD_get dtX7_rub 29 rfl
theorem dX7_rub_63 : decode cX7_rub 63 = .ok (.iconst 0, 1) := allD_get dtX7_rub 30 rfl
theorem dX7_rub_64 : decode cX7_rub 64 = .ok (.istore 7, 2) := allD_get dtX7_rub 31 rfl
theorem dX7_rub_66 : decode cX7_rub 66 = .ok (.iload 7, 2) := allD_get dtX7_rub 32 rfl
theorem dX7_rub_68 : decode cX7_rub 68 = .ok (.aload_n 0, 1) := allD_get dtX7_rub 33 rfl
theorem dX7_rub_69 : decode cX7_rub 69 = .ok (.getfield 26, 3) := allD_get dtX7_rub 34 rfl
theorem dX7_rub_72 : decode cX7_rub 72 = .ok (.iload 6, 2) := allD_get dtX7_rub 35 rfl
theorem dX7_rub_74 : decode cX7_rub 74 = .ok (.invokevirtual 115, 3) := allD_get dtX7_rub 36 rfl
theorem dX7_rub_77 : decode cX7_rub 77 = .ok (.if_icmp .ge 97, 3) := allD_get dtX7_rub 37 rfl
theorem dX7_rub_80 : decode cX7_rub 80 = .ok (.aload_n 0, 1) := allD_get dtX7_rub 38 rfl
theorem dX7_rub_81 : decode cX7_rub 81 = .ok (.getfield 26, 3) := allD_get dtX7_rub 39 rfl
theorem dX7_rub_84 : decode cX7_rub 84 = .ok (.iload 6, 2) := allD_get dtX7_rub 40 rfl
theorem dX7_rub_86 : decode cX7_rub 86 = .ok (.iload 7, 2) := allD_get dtX7_rub 41 rfl
theorem dX7_rub_88 : decode cX7_rub 88 = .ok (.invokevirtual 118, 3) := allD_get dtX7_rub 42 rfl
theorem dX7_rub_91 : decode cX7_rub 91 = .ok (.istore 8, 2) := allD_get dtX7_rub 43 rfl
theorem dX7_rub_93 : decode cX7_rub 93 = .ok (.aload_n 0, 1) := allD_get dtX7_rub 44 rfl
theorem dX7_rub_94 : decode cX7_rub 94 = .ok (.getfield 26, 3) := allD_get dtX7_rub 45 rfl
theorem dX7_rub_97 : decode cX7_rub 97 = .ok (.iload 6, 2) := allD_get dtX7_rub 46 rfl
theorem dX7_rub_99 : decode cX7_rub 99 = .ok (.iload 7, 2) := allD_get dtX7_rub 47 rfl
theorem dX7_rub_101 : decode cX7_rub 101 = .ok (.invokevirtual 122, 3) := allD_get dtX7_rub 48 rfl
theorem dX7_rub_104 : decode cX7_rub 104 = .ok (.istore 9, 2) := allD_get dtX7_rub 49 rfl
theorem dX7_rub_106 : decode cX7_rub 106 = .ok (.iload 8, 2) := allD_get dtX7_rub 50 rfl
theorem dX7_rub_108 : decode cX7_rub 108 = .ok (.iload_n 1, 1) := allD_get dtX7_rub 51 rfl
theorem dX7_rub_109 : decode cX7_rub 109 = .ok (.isub, 1) := allD_get dtX7_rub 52 rfl
theorem dX7_rub_110 : decode cX7_rub 110 = .ok (.iload 9, 2) := allD_get dtX7_rub 53 rfl
theorem dX7_rub_112 : decode cX7_rub 112 = .ok (.iload_n 2, 1) := allD_get dtX7_rub 54 rfl
theorem dX7_rub_113 : decode cX7_rub 113 = .ok (.isub, 1) := allD_get dtX7_rub 55 rfl
theorem dX7_rub_114 : decode cX7_rub 114 = .ok (.invokestatic 125, 3) := allD_get dtX7_rub 56 rfl
theorem dX7_rub_117 : decode cX7_rub 117 = .ok (.iload_n 3, 1) := allD_get dtX7_rub 57 rfl
theorem dX7_rub_118 : decode cX7_rub 118 = .ok (.iload_n 3, 1) := allD_get dtX7_rub 58 rfl
theorem dX7_rub_119 : decode cX7_rub 119 = .ok (.imul, 1) := allD_get dtX7_rub 59 rfl
theorem dX7_rub_120 : decode cX7_rub 120 = .ok (.if_icmp .gt 37, 3) := allD_get dtX7_rub 60 rfl
theorem dX7_rub_123 : decode cX7_rub 123 = .ok (.iinc 5 1, 3) := allD_get dtX7_rub 61 rfl
theorem dX7_rub_126 : decode cX7_rub 126 = .ok (.aload_n 0, 1) := allD_get dtX7_rub 62 rfl
theorem dX7_rub_127 : decode cX7_rub 127 = .ok (.aload_n 0, 1) := allD_get dtX7_rub 63 rfl
theorem dX7_rub_128 : decode cX7_rub 128 = .ok (.getfield 26, 3) := allD_get dtX7_rub 64 rfl
theorem dX7_rub_131 : decode cX7_rub 131 = .ok (.iload 6, 2) := allD_get dtX7_rub 65 rfl
theorem dX7_rub_133 : decode cX7_rub 133 = .ok (.invokevirtual 128, 3) := allD_get dtX7_rub 66 rfl
theorem dX7_rub_136 : decode cX7_rub 136 = .ok (.invokevirtual 131, 3) := allD_get dtX7_rub 67 rfl
theorem dX7_rub_139 : decode cX7_rub 139 = .ok (.ifCond .eq 12, 3) := allD_get dtX7_rub 68 rfl
theorem dX7_rub_142 : decode cX7_rub 142 = .ok (.iload 4, 2) := allD_get dtX7_rub 69 rfl
theorem dX7_rub_144 : decode cX7_rub 144 = .ok (.ifCond .eq 7, 3) := allD_get dtX7_rub 70 rfl
theorem dX7_rub_147 : decode cX7_rub 147 = .ok (.iconst 1, 1) := allD_get dtX7_rub 71 rfl
theorem dX7_rub_148 : decode cX7_rub 148 = .ok (.goto 4, 3) := allD_get dtX7_rub 72 rfl
theorem dX7_rub_151 : decode cX7_rub 151 = .ok (.iconst 0, 1) := allD_get dtX7_rub 73 rfl
theorem dX7_rub_152 : decode cX7_rub 152 = .ok (.istore 4, 2) := allD_get dtX7_rub 74 rfl
theorem dX7_rub_154 : decode cX7_rub 154 = .ok (.goto 14, 3) := allD_get dtX7_rub 75 rfl
theorem dX7_rub_157 : decode cX7_rub 157 = .ok (.aload_n 0, 1) := allD_get dtX7_rub 76 rfl
theorem dX7_rub_158 : decode cX7_rub 158 = .ok (.getfield 33, 3) := allD_get dtX7_rub 77 rfl
theorem dX7_rub_161 : decode cX7_rub 161 = .ok (.iload 8, 2) := allD_get dtX7_rub 78 rfl
theorem dX7_rub_163 : decode cX7_rub 163 = .ok (.iload 9, 2) := allD_get dtX7_rub 79 rfl
theorem dX7_rub_165 : decode cX7_rub 165 = .ok (.invokevirtual 75, 3) := allD_get dtX7_rub 80 rfl
theorem dX7_rub_168 : decode cX7_rub 168 = .ok (.iinc 7 1, 3) := allD_get dtX7_rub 81 rfl
theorem dX7_rub_171 : decode cX7_rub 171 = .ok (.goto (-105), 3) := allD_get dtX7_rub 82 rfl
theorem dX7_rub_174 : decode cX7_rub 174 = .ok (.aload_n 0, 1) := allD_get dtX7_rub 83 rfl
theorem dX7_rub_175 : decode cX7_rub 175 = .ok (.aload_n 0, 1) := allD_get dtX7_rub 84 rfl
theorem dX7_rub_176 : decode cX7_rub 176 = .ok (.getfield 26, 3) := allD_get dtX7_rub 85 rfl
theorem dX7_rub_179 : decode cX7_rub 179 = .ok (.iload 6, 2) := allD_get dtX7_rub 86 rfl
theorem dX7_rub_181 : decode cX7_rub 181 = .ok (.invokevirtual 128, 3) := allD_get dtX7_rub 87 rfl
theorem dX7_rub_184 : decode cX7_rub 184 = .ok (.invokevirtual 131, 3) := allD_get dtX7_rub 88 rfl
theorem dX7_rub_187 : decode cX7_rub 187 = .ok (.ifCond .eq 12, 3) := allD_get dtX7_rub 89 rfl
theorem dX7_rub_190 : decode cX7_rub 190 = .ok (.iload 4, 2) := allD_get dtX7_rub 90 rfl
theorem dX7_rub_192 : decode cX7_rub 192 = .ok (.ifCond .eq 7, 3) := allD_get dtX7_rub 91 rfl
theorem dX7_rub_195 : decode cX7_rub 195 = .ok (.iconst 1, 1) := allD_get dtX7_rub 92 rfl
theorem dX7_rub_196 : decode cX7_rub 196 = .ok (.goto 4, 3) := allD_get dtX7_rub 93 rfl
theorem dX7_rub_199 : decode cX7_rub 199 = .ok (.iconst 0, 1) := allD_get dtX7_rub 94 rfl
theorem dX7_rub_200 : decode cX7_rub 200 = .ok (.istore 4, 2) := allD_get dtX7_rub 95 rfl
theorem dX7_rub_202 : decode cX7_rub 202 = .ok (.iinc 6 1, 3) := allD_get dtX7_rub 96 rfl
theorem dX7_rub_205 : decode cX7_rub 205 = .ok (.goto (-161), 3) := allD_get dtX7_rub 97 rfl
theorem dX7_rub_208 : decode cX7_rub 208 = .ok (.iload 4, 2) := allD_get dtX7_rub 98 rfl
theorem dX7_rub_210 : decode cX7_rub 210 = .ok (.ifCond .ne 6, 3) := allD_get dtX7_rub 99 rfl
theorem dX7_rub_213 : decode cX7_rub 213 = .ok (.bipush (-3), 2) := allD_get dtX7_rub 100 rfl
theorem dX7_rub_215 : decode cX7_rub 215 = .ok (.ireturn, 1) := allD_get dtX7_rub 101 rfl
theorem dX7_rub_216 : decode cX7_rub 216 = .ok (.iload 5, 2) := allD_get dtX7_rub 102 rfl
theorem dX7_rub_218 : decode cX7_rub 218 = .ok (.ifCond .ne 6, 3) := allD_get dtX7_rub 103 rfl
theorem dX7_rub_221 : decode cX7_rub 221 = .ok (.bipush (-5), 2) := allD_get dtX7_rub 104 rfl
theorem dX7_rub_223 : decode cX7_rub 223 = .ok (.ireturn, 1) := allD_get dtX7_rub 105 rfl
theorem dX7_rub_224 : decode cX7_rub 224 = .ok (.aload_n 0, 1) := allD_get dtX7_rub 106 rfl
theorem dX7_rub_225 : decode cX7_rub 225 = .ok (.getfield 26, 3) := allD_get dtX7_rub 107 rfl
theorem dX7_rub_228 : decode cX7_rub 228 = .ok (.aload_n 0, 1) := allD_get dtX7_rub 108 rfl
theorem dX7_rub_229 : decode cX7_rub 229 = .ok (.getfield 30, 3) := allD_get dtX7_rub 109 rfl
theorem dX7_rub_232 : decode cX7_rub 232 = .ok (.invokevirtual 134, 3) := allD_get dtX7_rub 110 rfl
theorem dX7_rub_235 : decode cX7_rub 235 = .ok (.aload_n 0, 1) := allD_get dtX7_rub 111 rfl
theorem dX7_rub_236 : decode cX7_rub 236 = .ok (.getfield 39, 3) := allD_get dtX7_rub 112 rfl
theorem dX7_rub_239 : decode cX7_rub 239 = .ok (.aload_n 0, 1) := allD_get dtX7_rub 113 rfl
theorem dX7_rub_240 : decode cX7_rub 240 = .ok (.getfield 26, 3) := allD_get dtX7_rub 114 rfl
theorem dX7_rub_243 : decode cX7_rub 243 = .ok (.invokevirtual 103, 3) := allD_get dtX7_rub 115 rfl
theorem dX7_rub_246 : decode cX7_rub 246 = .ok (.iload 5, 2) := allD_get dtX7_rub 116 rfl
theorem dX7_rub_248 : decode cX7_rub 248 = .ok (.ireturn, 1) := allD_get dtX7_rub 117 rfl
def tbX7_smooth : List (Nat × Instr × Nat) := [(0, .aload_n 0, 1), (1, .getfield 26, 3), (4, .iload_n 1, 1), (5, .invokevirtual 136, 3), (8, .ifCond .ne 5, 3), (11, .iconst (-1), 1), (12, .ireturn, 1), (13, .iload_n 2, 1), (14, .iconst 1, 1), (15, .bipush 8, 2), (17, .invokestatic 110, 3), (20, .ifCond .ne 6, 3), (23, .bipush (-2), 2), (25, .ireturn, 1), (26, .aload_n 0, 1), (27, .getfield 33, 3), (30, .aload_n 0, 1), (31, .getfield 26, 3), (34, .iload_n 1, 1), (35, .invokevirtual 139, 3), (38, .iconst 0, 1), (39, .istore_n 3, 1), (40, .iload_n 3, 1), (41, .iload_n 2, 1), (42, .if_icmp .ge 16, 3), (45, .aload_n 0, 1), (46, .getfield 33, 3), (49, .invokevirtual 143, 3), (52, .iinc 3 1, 3), (55, .goto (-15), 3), (58, .aload_n 0, 1), (59, .getfield 33, 3), (62, .invokevirtual 146, 3), (65, .aload_n 0, 1), (66, .iload_n 1, 1), (67, .invokevirtual 149, 3), (70, .ireturn, 1)]
set_option maxRecDepth 100000 in
theorem dtX7_smooth : allD cX7_smooth tbX7_smooth = true := by decide +kernel
theorem dX7_smooth_0 : decode cX7_smooth 0 = .ok (.aload_n 0, 1) := allD_get dtX7_smooth 0 rfl
theorem dX7_smooth_1 : decode cX7_smooth 1 = .ok (.getfield 26, 3) := allD_get dtX7_smooth 1 rfl
theorem dX7_smooth_4 : decode cX7_smooth 4 = .ok (.iload_n 1, 1) := allD_get dtX7_smooth 2 rfl
theorem dX7_smooth_5 : decode cX7_smooth 5 = .ok (.invokevirtual 136, 3) := allD_get dtX7_smooth 3 rfl
theorem dX7_smooth_8 : decode cX7_smooth 8 = .ok (.ifCond .ne 5, 3) := allD_get dtX7_smooth 4 rfl
theorem dX7_smooth_11 : decode cX7_smooth 11 = .ok (.iconst (-1), 1) := allD_get dtX7_smooth 5 rfl
theorem dX7_smooth_12 : decode cX7_smooth 12 = .ok (.ireturn, 1) := allD_get dtX7_smooth 6 rfl
theorem dX7_smooth_13 : decode cX7_smooth 13 = .ok (.iload_n 2, 1) := allD_get dtX7_smooth 7 rfl
theorem dX7_smooth_14 : decode cX7_smooth 14 = .ok (.iconst 1, 1) := allD_get dtX7_smooth 8 rfl
theorem dX7_smooth_15 : decode cX7_smooth 15 = .ok (.bipush 8, 2) := allD_get dtX7_smooth 9 rfl
theorem dX7_smooth_17 : decode cX7_smooth 17 = .ok (.invokestatic 110, 3) := allD_get dtX7_smooth 10 rfl
theorem dX7_smooth_20 : decode cX7_smooth 20 = .ok (.ifCond .ne 6, 3) := allD_get dtX7_smooth 11 rfl
theorem dX7_smooth_23 : decode cX7_smooth 23 = .ok (.bipush (-2), 2) := allD_get dtX7_smooth 12 rfl
theorem dX7_smooth_25 : decode cX7_smooth 25 = .ok (.ireturn, 1) := allD_get dtX7_smooth 13 rfl
theorem dX7_smooth_26 : decode cX7_smooth 26 = .ok (.aload_n 0, 1) := allD_get dtX7_smooth 14 rfl
theorem dX7_smooth_27 : decode cX7_smooth 27 = .ok (.getfield 33, 3) := allD_get dtX7_smooth 15 rfl
theorem dX7_smooth_30 : decode cX7_smooth 30 = .ok (.aload_n 0, 1) := allD_get dtX7_smooth 16 rfl
theorem dX7_smooth_31 : decode cX7_smooth 31 = .ok (.getfield 26, 3) := allD_get dtX7_smooth 17 rfl
theorem dX7_smooth_34 : decode cX7_smooth 34 = .ok (.iload_n 1, 1) := allD_get dtX7_smooth 18 rfl
theorem dX7_smooth_35 : decode cX7_smooth 35 = .ok (.invokevirtual 139, 3) := allD_get dtX7_smooth 19 rfl
theorem dX7_smooth_38 : decode cX7_smooth 38 = .ok (.iconst 0, 1) := allD_get dtX7_smooth 20 rfl
theorem dX7_smooth_39 : decode cX7_smooth 39 = .ok (.istore_n 3, 1) := allD_get dtX7_smooth 21 rfl
theorem dX7_smooth_40 : decode cX7_smooth 40 = .ok (.iload_n 3, 1) := allD_get dtX7_smooth 22 rfl
theorem dX7_smooth_41 : decode cX7_smooth 41 = .ok (.iload_n 2, 1) := allD_get dtX7_smooth 23 rfl
theorem dX7_smooth_42 : decode cX7_smooth 42 = .ok (.if_icmp .ge 16, 3) := allD_get dtX7_smooth 24 rfl
theorem dX7_smooth_45 : decode cX7_smooth 45 = .ok (.aload_n 0, 1) := allD_get dtX7_smooth 25 rfl
theorem dX7_smooth_46 : decode cX7_smooth 46 = .ok (.getfield 33, 3) := allD_get dtX7_smooth 26 rfl
theorem dX7_smooth_49 : decode cX7_smooth 49 = .ok (.invokevirtual 143, 3) := allD_get dtX7_smooth 27 rfl
theorem dX7_smooth_52 : decode cX7_smooth 52 = .ok (.iinc 3 1, 3) := allD_get dtX7_smooth 28 rfl
theorem dX7_smooth_55 : decode cX7_smooth 55 = .ok (.goto (-15), 3) := allD_get dtX7_smooth 29 rfl
theorem dX7_smooth_58 : decode cX7_smooth 58 = .ok (.aload_n 0, 1) := allD_get dtX7_smooth 30 rfl
theorem dX7_smooth_59 : decode cX7_smooth 59 = .ok (.getfield 33, 3) := allD_get dtX7_smooth 31 rfl
theorem dX7_smooth_62 : decode cX7_smooth 62 = .ok (.invokevirtual 146, 3) := allD_get dtX7_smooth 32 rfl
theorem dX7_smooth_65 : decode cX7_smooth 65 = .ok (.aload_n 0, 1) := allD_get dtX7_smooth 33 rfl
theorem dX7_smooth_66 : decode cX7_smooth 66 = .ok (.iload_n 1, 1) := allD_get dtX7_smooth 34 rfl
theorem dX7_smooth_67 : decode cX7_smooth 67 = .ok (.invokevirtual 149, 3) := allD_get dtX7_smooth 35 rfl
theorem dX7_smooth_70 : decode cX7_smooth 70 = .ok (.ireturn, 1) := allD_get dtX7_smooth 36 rfl
def tbX7_thin : List (Nat × Instr × Nat) := [(0, .aload_n 0, 1), (1, .getfield 26, 3), (4, .iload_n 1, 1), (5, .invokevirtual 136, 3), (8, .ifCond .ne 5, 3), (11, .iconst (-1), 1), (12, .ireturn, 1), (13, .iload_n 2, 1), (14, .iconst 1, 1), (15, .sipush 500, 3), (18, .invokestatic 110, 3), (21, .ifCond .ne 6, 3), (24, .bipush (-2), 2), (26, .ireturn, 1), (27, .aload_n 0, 1), (28, .getfield 33, 3), (31, .aload_n 0, 1), (32, .getfield 26, 3), (35, .iload_n 1, 1), (36, .invokevirtual 139, 3), (39, .aload_n 0, 1), (40, .getfield 33, 3), (43, .iload_n 2, 1), (44, .invokevirtual 152, 3), (47, .aload_n 0, 1), (48, .iload_n 1, 1), (49, .invokevirtual 149, 3), (52, .ireturn, 1)]
set_option maxRecDepth 100000 in
theorem dtX7_thin : allD cX7_thin tbX7_thin = true := by decide +kernel
theorem dX7_thin_0 : decode cX7_thin 0 = .ok (.aload_n 0, 1) := allD_get dtX7_thin 0 rfl
theorem dX7_thin_1 : decode cX7_thin 1 = .ok (.getfield 26, 3) := allD_get dtX7_thin 1 rfl
theorem dX7_thin_4 : decode cX7_thin 4 = .ok (.iload_n 1, 1) := allD_get dtX7_thin 2 rfl
theorem dX7_thin_5 : decode cX7_thin 5 = .ok (.invokevirtual 136, 3) := allD_get dtX7_thin 3 rfl
theorem dX7_thin_8 : decode cX7_thin 8 = .ok (.ifCond .ne 5, 3) := allD_get dtX7_thin 4 rfl
theorem dX7_thin_11 : decode cX7_thin 11 = .ok (.iconst (-1), 1) := allD_get dtX7_thin 5 rfl
theorem dX7_thin_12 : decode cX7_thin 12 = .ok (.ireturn, 1) := allD_get dtX7_thin 6 rfl
theorem dX7_thin_13 : decode cX7_thin 13 = .ok (.iload_n 2, 1) := allD_get dtX7_thin 7 rfl
theorem dX7_thin_14 : decode cX7_thin 14 = .ok (.iconst 1, 1) := allD_get dtX7_thin 8 rfl
theorem dX7_thin_15 : decode cX7_thin 15 = .ok (.sipush 500, 3) := allD_get dtX7_thin 9 rfl
theorem dX7_thin_18 : decode cX7_thin 18 = .ok (.invokestatic 110, 3) := allD_get dtX7_thin 10 rfl
theorem dX7_thin_21 : decode cX7_thin 21 = .ok (.ifCond .ne 6, 3) := allD_get dtX7_thin 11 rfl
theorem dX7_thin_24 : decode cX7_thin 24 = .ok (.bipush (-2), 2) := allD_get dtX7_thin 12 rfl
theorem dX7_thin_26 : decode cX7_thin 26 = .ok (.ireturn, 1) := allD_get dtX7_thin 13 rfl
theorem dX7_thin_27 : decode cX7_thin 27 = .ok (.aload_n 0, 1) := allD_get dtX7_thin 14 rfl
theorem dX7_thin_28 : decode cX7_thin 28 = .ok (.getfield 33, 3) := allD_get dtX7_thin 15 rfl
theorem dX7_thin_31 : decode cX7_thin 31 = .ok (.aload_n 0, 1) := allD_get dtX7_thin 16 rfl
theorem dX7_thin_32 : decode cX7_thin 32 = .ok (.getfield 26, 3) := allD_get dtX7_thin 17 rfl
theorem dX7_thin_35 : decode cX7_thin 35 = .ok (.iload_n 1, 1) := allD_get dtX7_thin 18 rfl
theorem dX7_thin_36 : decode cX7_thin 36 = .ok (.invokevirtual 139, 3) := allD_get dtX7_thin 19 rfl
theorem dX7_thin_39 : decode cX7_thin 39 = .ok (.aload_n 0, 1) := allD_get dtX7_thin 20 rfl
theorem dX7_thin_40 : decode cX7_thin 40 = .ok (.getfield 33, 3) := allD_get dtX7_thin 21 rfl
theorem dX7_thin_43 : decode cX7_thin 43 = .ok (.iload_n 2, 1) := allD_get dtX7_thin 22 rfl
theorem dX7_thin_44 : decode cX7_thin 44 = .ok (.invokevirtual 152, 3) := allD_get dtX7_thin 23 rfl
theorem dX7_thin_47 : decode cX7_thin 47 = .ok (.aload_n 0, 1) := allD_get dtX7_thin 24 rfl
theorem dX7_thin_48 : decode cX7_thin 48 = .ok (.iload_n 1, 1) := allD_get dtX7_thin 25 rfl
theorem dX7_thin_49 : decode cX7_thin 49 = .ok (.invokevirtual 149, 3) := allD_get dtX7_thin 26 rfl
theorem dX7_thin_52 : decode cX7_thin 52 = .ok (.ireturn, 1) := allD_get dtX7_thin 27 rfl
def tbX7_join : List (Nat × Instr × Nat) := [(0, .aload_n 0, 1), (1, .getfield 26, 3), (4, .iload_n 1, 1), (5, .invokevirtual 136, 3), (8, .ifCond .eq 14, 3), (11, .aload_n 0, 1), (12, .getfield 26, 3), (15, .iload_n 2, 1), (16, .invokevirtual 136, 3), (19, .ifCond .ne 5, 3), (22, .iconst (-1), 1), (23, .ireturn, 1), (24, .iload_n 1, 1), (25, .iload_n 2, 1), (26, .if_icmp .ne 6, 3), (29, .bipush (-2), 2), (31, .ireturn, 1), (32, .aload_n 0, 1), (33, .getfield 33, 3), (36, .aload_n 0, 1), (37, .getfield 26, 3), (40, .iload_n 1, 1), (41, .invokevirtual 139, 3), (44, .aload_n 0, 1), (45, .getfield 33, 3), (48, .aload_n 0, 1), (49, .getfield 26, 3), (52, .iload_n 2, 1), (53, .iconst 0, 1), (54, .invokevirtual 118, 3), (57, .aload_n 0, 1), (58, .getfield 26, 3), (61, .iload_n 2, 1), (62, .iconst 0, 1), (63, .invokevirtual 122, 3), (66, .invokevirtual 156, 3), (69, .ifCond .eq 7, 3), (72, .iconst 1, 1), (73, .goto 4, 3), (76, .iconst 0, 1), (77, .istore_n 3, 1), (78, .aload_n 0, 1), (79, .getfield 26, 3), (82, .iload_n 2, 1), (83, .invokevirtual 115, 3), (86, .iload_n 3, 1), (87, .isub, 1), (88, .istore 4, 2), (90, .aload_n 0, 1), (91, .getfield 33, 3), (94, .getfield 72, 3), (97, .iload 4, 2), (99, .iadd, 1), (100, .bipush 24, 2), (102, .if_icmp .le 6, 3), (105, .bipush (-3), 2), (107, .ireturn, 1), (108, .iload_n 3, 1), (109, .istore 5, 2), (111, .iload 5, 2), (113, .aload_n 0, 1), (114, .getfield 26, 3), (117, .iload_n 2, 1), (118, .invokevirtual 115, 3), (121, .if_icmp .ge 36, 3), (124, .aload_n 0, 1), (125, .getfield 33, 3), (128, .aload_n 0, 1), (129, .getfield 26, 3), (132, .iload_n 2, 1), (133, .iload 5, 2), (135, .invokevirtual 118, 3), (138, .aload_n 0, 1), (139, .getfield 26, 3), (142, .iload_n 2, 1), (143, .iload 5, 2), (145, .invokevirtual 122, 3), (148, .invokevirtual 75, 3), (151, .iinc 5 1, 3), (154, .goto (-43), 3), (157, .aload_n 0, 1), (158, .getfield 26, 3), (161, .iload_n 1, 1), (162, .aload_n 0, 1), (163, .getfield 26, 3), (166, .iload_n 1, 1), (167, .invokevirtual 128, 3), (170, .aload_n 0, 1), (171, .getfield 33, 3), (174, .invokevirtual 160, 3), (177, .aload_n 0, 1), (178, .getfield 26, 3), (181, .iload_n 2, 1), (182, .invokevirtual 164, 3), (185, .aload_n 0, 1), (186, .getfield 39, 3), (189, .aload_n 0, 1), (190, .getfield 26, 3), (193, .invokevirtual 103, 3), (196, .iload_n 2, 1), (197, .iload_n 1, 1), (198, .if_icmp .ge 9, 3), (201, .iload_n 1, 1), (202, .iconst 1, 1), (203, .isub, 1), (204, .goto 4, 3), (207, .iload_n 1, 1), (208, .ireturn, 1)]
set_option maxRecDepth 100000 in
theorem dtX7_join : allD cX7_join tbX7_join = true := by decide +kernel
theorem dX7_join_0 : decode cX7_join 0 = .ok (.aload_n 0, 1) := allD_get dtX7_join 0 rfl
theorem dX7_join_1 : decode cX7_join 1 = .ok (.getfield 26, 3) := allD_get dtX7_join 1 rfl
theorem dX7_join_4 : decode cX7_join 4 = .ok (.iload_n 1, 1) := allD_get dtX7_join 2 rfl
theorem dX7_join_5 : decode cX7_join 5 = .ok (.invokevirtual 136, 3) := allD_get dtX7_join 3 rfl
theorem dX7_join_8 : decode cX7_join 8 = .ok (.ifCond .eq 14, 3) := allD_get dtX7_join 4 rfl
theorem dX7_join_11 : decode cX7_join 11 = .ok (.aload_n 0, 1) := allD_get dtX7_join 5 rfl
theorem dX7_join_12 : decode cX7_join 12 = .ok (.getfield 26, 3) := allD_get dtX7_join 6 rfl
theorem dX7_join_15 : decode cX7_join 15 = .ok (.iload_n 2, 1) := allD_get dtX7_join 7 rfl
theorem dX7_join_16 : decode cX7_join 16 = .ok (.invokevirtual 136, 3) := allD_get dtX7_join 8 rfl
theorem dX7_join_19 : decode cX7_join 19 = .ok (.ifCond .ne 5, 3) := allD_get dtX7_join 9 rfl
theorem dX7_join_22 : decode cX7_join 22 = .ok (.iconst (-1), 1) := allD_get dtX7_join 10 rfl
theorem dX7_join_23 : decode cX7_join 23 = .ok (.ireturn, 1) := allD_get dtX7_join 11 rfl
theorem dX7_join_24 : decode cX7_join 24 = .ok (.iload_n 1, 1) := allD_get dtX7_join 12 rfl
theorem dX7_join_25 : decode cX7_join 25 = .ok (.iload_n 2, 1) := allD_get dtX7_join 13 rfl
theorem dX7_join_26 : decode cX7_join 26 = .ok (.if_icmp .ne 6, 3) := allD_get dtX7_join 14 rfl
theorem dX7_join_29 : decode cX7_join 29 = .ok (.bipush (-2), 2) := allD_get dtX7_join 15 rfl
theorem dX7_join_31 : decode cX7_join 31 = .ok (.ireturn, 1) := allD_get dtX7_join 16 rfl
theorem dX7_join_32 : decode cX7_join 32 = .ok (.aload_n 0, 1) := allD_get dtX7_join 17 rfl
theorem dX7_join_33 : decode cX7_join 33 = .ok (.getfield 33, 3) := allD_get dtX7_join 18 rfl
theorem dX7_join_36 : decode cX7_join 36 = .ok (.aload_n 0, 1) := allD_get dtX7_join 19 rfl
theorem dX7_join_37 : decode cX7_join 37 = .ok (.getfield 26, 3) := allD_get dtX7_join 20 rfl
theorem dX7_join_40 : decode cX7_join 40 = .ok (.iload_n 1, 1) := allD_get dtX7_join 21 rfl
theorem dX7_join_41 : decode cX7_join 41 = .ok (.invokevirtual 139, 3) := allD_get dtX7_join 22 rfl
theorem dX7_join_44 : decode cX7_join 44 = .ok (.aload_n 0, 1) := allD_get dtX7_join 23 rfl
theorem dX7_join_45 : decode cX7_join 45 = .ok (.getfield 33, 3) := allD_get dtX7_join 24 rfl
theorem dX7_join_48 : decode cX7_join 48 = .ok (.aload_n 0, 1) := allD_get dtX7_join 25 rfl
theorem dX7_join_49 : decode cX7_join 49 = .ok (.getfield 26, 3) := allD_get dtX7_join 26 rfl
theorem dX7_join_52 : decode cX7_join 52 = .ok (.iload_n 2, 1) := allD_get dtX7_join 27 rfl
theorem dX7_join_53 : decode cX7_join 53 = .ok (.iconst 0, 1) := allD_get dtX7_join 28 rfl
theorem dX7_join_54 : decode cX7_join 54 = .ok (.invokevirtual 118, 3) := allD_get dtX7_join 29 rfl
theorem dX7_join_57 : decode cX7_join 57 = .ok (.aload_n 0, 1) := allD_get dtX7_join 30 rfl
theorem dX7_join_58 : decode cX7_join 58 = .ok (.getfield 26, 3) := allD_get dtX7_join 31 rfl
theorem dX7_join_61 : decode cX7_join 61 = .ok (.iload_n 2, 1) := allD_get dtX7_join 32 rfl
theorem dX7_join_62 : decode cX7_join 62 = .ok (.iconst 0, 1) := allD_get dtX7_join 33 rfl
theorem dX7_join_63 : decode cX7_join 63 = .ok (.invokevirtual 122, 3) := allD_get dtX7_join 34 rfl
theorem dX7_join_66 : decode cX7_join 66 = .ok (.invokevirtual 156, 3) := allD_get dtX7_join 35 rfl
theorem dX7_join_69 : decode cX7_join 69 = .ok (.ifCond .eq 7, 3) := allD_get dtX7_join 36 rfl
theorem dX7_join_72 : decode cX7_join 72 = .ok (.iconst 1, 1) := allD_get dtX7_join 37 rfl
theorem dX7_join_73 : decode cX7_join 73 = .ok (.goto 4, 3) := allD_get dtX7_join 38 rfl
theorem dX7_join_76 : decode cX7_join 76 = .ok (.iconst 0, 1) := allD_get dtX7_join 39 rfl
theorem dX7_join_77 : decode cX7_join 77 = .ok (.istore_n 3, 1) := allD_get dtX7_join 40 rfl
theorem dX7_join_78 : decode cX7_join 78 = .ok (.aload_n 0, 1) := allD_get dtX7_join 41 rfl
theorem dX7_join_79 : decode cX7_join 79 = .ok (.getfield 26, 3) := allD_get dtX7_join 42 rfl
theorem dX7_join_82 : decode cX7_join 82 = .ok (.iload_n 2, 1) := allD_get dtX7_join 43 rfl
theorem dX7_join_83 : decode cX7_join 83 = .ok (.invokevirtual 115, 3) := allD_get dtX7_join 44 rfl
theorem dX7_join_86 : decode cX7_join 86 = .ok (.iload_n 3, 1) := allD_get dtX7_join 45 rfl
theorem dX7_join_87 : decode cX7_join 87 = .ok (.isub, 1) := allD_get dtX7_join 46 rfl
theorem dX7_join_88 : decode cX7_join 88 = .ok (.istore 4, 2) := allD_get dtX7_join 47 rfl
theorem dX7_join_90 : decode cX7_join 90 = .ok (.aload_n 0, 1) := allD_get dtX7_join 48 rfl
theorem dX7_join_91 : decode cX7_join 91 = .ok (.getfield 33, 3) := allD_get dtX7_join 49 rfl
theorem dX7_join_94 : decode cX7_join 94 = .ok (.getfield 72, 3) := allD_get dtX7_join 50 rfl
theorem dX7_join_97 : decode cX7_join 97 = .ok (.iload 4, 2) := allD_get dtX7_join 51 rfl
theorem dX7_join_99 : decode cX7_join 99 = .ok (.iadd, 1) := allD_get dtX7_join 52 rfl
theorem dX7_join_100 : decode cX7_join 100 = .ok (.bipush 24, 2) := allD_get dtX7_join 53 rfl
theorem dX7_join_102 : decode cX7_join 102 = .ok (.if_icmp .le 6, 3) := allD_get dtX7_join 54 rfl
theorem dX7_join_105 : decode cX7_join 105 = .ok (.bipush (-3), 2) := allD_get dtX7_join 55 rfl
theorem dX7_join_107 : decode cX7_join 107 = .ok (.ireturn, 1) := allD_get dtX7_join 56 rfl
theorem dX7_join_108 : decode cX7_join 108 = .ok (.iload_n 3, 1) := allD_get dtX7_join 57 rfl
theorem dX7_join_109 : decode cX7_join 109 = .ok (.istore 5, 2) := allD_get dtX7_join 58 rfl
theorem dX7_join_111 : decode cX7_join 111 = .ok (.iload 5, 2) := allD_get dtX7_join 59 rfl
theorem dX7_join_113 : decode cX7_join 113 = .ok (.aload_n 0, 1) := allD_get dtX7_join 60 rfl
theorem dX7_join_114 : decode cX7_join 114 = .ok (.getfield 26, 3) := allD_get dtX7_join 61 rfl
theorem dX7_join_117 : decode cX7_join 117 = .ok (.iload_n 2, 1) := allD_get dtX7_join 62 rfl
theorem dX7_join_118 : decode cX7_join 118 = .ok (.invokevirtual 115, 3) := allD_get dtX7_join 63 rfl
theorem dX7_join_121 : decode cX7_join 121 = .ok (.if_icmp .ge 36, 3) := allD_get dtX7_join 64 rfl
theorem dX7_join_124 : decode cX7_join 124 = .ok (.aload_n 0, 1) := allD_get dtX7_join 65 rfl
theorem dX7_join_125 : decode cX7_join 125 = .ok (.getfield 33, 3) := allD_get dtX7_join 66 rfl
theorem dX7_join_128 : decode cX7_join 128 = .ok (.aload_n 0, 1) := allD_get dtX7_join 67 rfl
theorem dX7_join_129 : decode cX7_join 129 = .ok (.getfield 26, 3) := allD_get dtX7_join 68 rfl
theorem dX7_join_132 : decode cX7_join 132 = .ok (.iload_n 2, 1) := allD_get dtX7_join 69 rfl
theorem dX7_join_133 : decode cX7_join 133 = .ok (.iload 5, 2) := allD_get dtX7_join 70 rfl
theorem dX7_join_135 : decode cX7_join 135 = .ok (.invokevirtual 118, 3) := allD_get dtX7_join 71 rfl
theorem dX7_join_138 : decode cX7_join 138 = .ok (.aload_n 0, 1) := allD_get dtX7_join 72 rfl
theorem dX7_join_139 : decode cX7_join 139 = .ok (.getfield 26, 3) := allD_get dtX7_join 73 rfl
theorem dX7_join_142 : decode cX7_join 142 = .ok (.iload_n 2, 1) := allD_get dtX7_join 74 rfl
theorem dX7_join_143 : decode cX7_join 143 = .ok (.iload 5, 2) := allD_get dtX7_join 75 rfl
theorem dX7_join_145 : decode cX7_join 145 = .ok (.invokevirtual 122, 3) := allD_get dtX7_join 76 rfl
theorem dX7_join_148 : decode cX7_join 148 = .ok (.invokevirtual 75, 3) := allD_get dtX7_join 77 rfl
theorem dX7_join_151 : decode cX7_join 151 = .ok (.iinc 5 1, 3) := allD_get dtX7_join 78 rfl
theorem dX7_join_154 : decode cX7_join 154 = .ok (.goto (-43), 3) := allD_get dtX7_join 79 rfl
theorem dX7_join_157 : decode cX7_join 157 = .ok (.aload_n 0, 1) := allD_get dtX7_join 80 rfl
theorem dX7_join_158 : decode cX7_join 158 = .ok (.getfield 26, 3) := allD_get dtX7_join 81 rfl
theorem dX7_join_161 : decode cX7_join 161 = .ok (.iload_n 1, 1) := allD_get dtX7_join 82 rfl
theorem dX7_join_162 : decode cX7_join 162 = .ok (.aload_n 0, 1) := allD_get dtX7_join 83 rfl
theorem dX7_join_163 : decode cX7_join 163 = .ok (.getfield 26, 3) := allD_get dtX7_join 84 rfl
theorem dX7_join_166 : decode cX7_join 166 = .ok (.iload_n 1, 1) := allD_get dtX7_join 85 rfl
theorem dX7_join_167 : decode cX7_join 167 = .ok (.invokevirtual 128, 3) := allD_get dtX7_join 86 rfl
theorem dX7_join_170 : decode cX7_join 170 = .ok (.aload_n 0, 1) := allD_get dtX7_join 87 rfl
theorem dX7_join_171 : decode cX7_join 171 = .ok (.getfield 33, 3) := allD_get dtX7_join 88 rfl
theorem dX7_join_174 : decode cX7_join 174 = .ok (.invokevirtual 160, 3) := allD_get dtX7_join 89 rfl
theorem dX7_join_177 : decode cX7_join 177 = .ok (.aload_n 0, 1) := allD_get dtX7_join 90 rfl
theorem dX7_join_178 : decode cX7_join 178 = .ok (.getfield 26, 3) := allD_get dtX7_join 91 rfl
theorem dX7_join_181 : decode cX7_join 181 = .ok (.iload_n 2, 1) := allD_get dtX7_join 92 rfl
theorem dX7_join_182 : decode cX7_join 182 = .ok (.invokevirtual 164, 3) := allD_get dtX7_join 93 rfl
theorem dX7_join_185 : decode cX7_join 185 = .ok (.aload_n 0, 1) := allD_get dtX7_join 94 rfl
theorem dX7_join_186 : decode cX7_join 186 = .ok (.getfield 39, 3) := allD_get dtX7_join 95 rfl
theorem dX7_join_189 : decode cX7_join 189 = .ok (.aload_n 0, 1) := allD_get dtX7_join 96 rfl
theorem dX7_join_190 : decode cX7_join 190 = .ok (.getfield 26, 3) := allD_get dtX7_join 97 rfl
theorem dX7_join_193 : decode cX7_join 193 = .ok (.invokevirtual 103, 3) := allD_get dtX7_join 98 rfl
theorem dX7_join_196 : decode cX7_join 196 = .ok (.iload_n 2, 1) := allD_get dtX7_join 99 rfl
theorem dX7_join_197 : decode cX7_join 197 = .ok (.iload_n 1, 1) := allD_get dtX7_join 100 rfl
theorem dX7_join_198 : decode cX7_join 198 = .ok (.if_icmp .ge 9, 3) := allD_get dtX7_join 101 rfl
theorem dX7_join_201 : decode cX7_join 201 = .ok (.iload_n 1, 1) := allD_get dtX7_join 102 rfl
theorem dX7_join_202 : decode cX7_join 202 = .ok (.iconst 1, 1) := allD_get dtX7_join 103 rfl
theorem dX7_join_203 : decode cX7_join 203 = .ok (.isub, 1) := allD_get dtX7_join 104 rfl
theorem dX7_join_204 : decode cX7_join 204 = .ok (.goto 4, 3) := allD_get dtX7_join 105 rfl
theorem dX7_join_207 : decode cX7_join 207 = .ok (.iload_n 1, 1) := allD_get dtX7_join 106 rfl
theorem dX7_join_208 : decode cX7_join 208 = .ok (.ireturn, 1) := allD_get dtX7_join 107 rfl
def tbX7_shift : List (Nat × Instr × Nat) := [(0, .aload_n 0, 1), (1, .getfield 26, 3), (4, .iload_n 1, 1), (5, .invokevirtual 136, 3), (8, .ifCond .ne 5, 3), (11, .iconst (-1), 1), (12, .ireturn, 1), (13, .iload_n 2, 1), (14, .sipush (-1000), 3), (17, .sipush 1000, 3), (20, .invokestatic 110, 3), (23, .ifCond .eq 16, 3), (26, .iload_n 3, 1), (27, .sipush (-1000), 3), (30, .sipush 1000, 3), (33, .invokestatic 110, 3), (36, .ifCond .ne 6, 3), (39, .bipush (-2), 2), (41, .ireturn, 1), (42, .aload_n 0, 1), (43, .getfield 26, 3), (46, .iload_n 1, 1), (47, .invokevirtual 167, 3), (50, .iload_n 2, 1), (51, .iadd, 1), (52, .invokestatic 68, 3), (55, .ifCond .eq 51, 3), (58, .aload_n 0, 1), (59, .getfield 26, 3), (62, .iload_n 1, 1), (63, .invokevirtual 170, 3), (66, .iload_n 2, 1), (67, .iadd, 1), (68, .invokestatic 68, 3), (71, .ifCond .eq 35, 3), (74, .aload_n 0, 1), (75, .getfield 26, 3), (78, .iload_n 1, 1), (79, .invokevirtual 173, 3), (82, .iload_n 3, 1), (83, .iadd, 1), (84, .invokestatic 68, 3), (87, .ifCond .eq 19, 3), (90, .aload_n 0, 1), (91, .getfield 26, 3), (94, .iload_n 1, 1), (95, .invokevirtual 176, 3), (98, .iload_n 3, 1), (99, .iadd, 1), (100, .invokestatic 68, 3), (103, .ifCond .ne 6, 3), (106, .bipush (-4), 2), (108, .ireturn, 1), (109, .iload_n 2, 1), (110, .ifCond .ne 10, 3), (113, .iload_n 3, 1), (114, .ifCond .ne 6, 3), (117, .bipush (-5), 2), (119, .ireturn, 1), (120, .aload_n 0, 1), (121, .getfield 33, 3), (124, .invokevirtual 79, 3), (127, .iconst 0, 1), (128, .istore 4, 2), (130, .iload 4, 2), (132, .aload_n 0, 1), (133, .getfield 26, 3), (136, .iload_n 1, 1), (137, .invokevirtual 115, 3), (140, .if_icmp .ge 40, 3), (143, .aload_n 0, 1), (144, .getfield 33, 3), (147, .aload_n 0, 1), (148, .getfield 26, 3), (151, .iload_n 1, 1), (152, .iload 4, 2), (154, .invokevirtual 118, 3), (157, .iload_n 2, 1), (158, .iadd, 1), (159, .aload_n 0, 1), (160, .getfield 26, 3), (163, .iload_n 1, 1), (164, .iload 4, 2), (166, .invokevirtual 122, 3), (169, .iload_n 3, 1), (170, .iadd, 1), (171, .invokevirtual 75, 3), (174, .iinc 4 1, 3), (177, .goto (-47), 3), (180, .aload_n 0, 1), (181, .iload_n 1, 1), (182, .invokevirtual 149, 3), (185, .ireturn, 1)]
set_option maxRecDepth 100000 in
theorem dtX7_shift : allD cX7_shift tbX7_shift = true := by decide +kernel
theorem dX7_shift_0 : decode cX7_shift 0 = .ok (.aload_n 0, 1) := allD_get dtX7_shift 0 rfl
theorem dX7_shift_1 : decode cX7_shift 1 = .ok (.getfield 26, 3) := allD_get dtX7_shift 1 rfl
theorem dX7_shift_4 : decode cX7_shift 4 = .ok (.iload_n 1, 1) := allD_get dtX7_shift 2 rfl
theorem dX7_shift_5 : decode cX7_shift 5 = .ok (.invokevirtual 136, 3) := allD_get dtX7_shift 3 rfl
theorem dX7_shift_8 : decode cX7_shift 8 = .ok (.ifCond .ne 5, 3) := allD_get dtX7_shift 4 rfl
theorem dX7_shift_11 : decode cX7_shift 11 = .ok (.iconst (-1), 1) := allD_get dtX7_shift 5 rfl
theorem dX7_shift_12 : decode cX7_shift 12 = .ok (.ireturn, 1) := allD_get dtX7_shift 6 rfl
theorem dX7_shift_13 : decode cX7_shift 13 = .ok (.iload_n 2, 1) := allD_get dtX7_shift 7 rfl
theorem dX7_shift_14 : decode cX7_shift 14 = .ok (.sipush (-1000), 3) := allD_get dtX7_shift 8 rfl
theorem dX7_shift_17 : decode cX7_shift 17 = .ok (.sipush 1000, 3) := allD_get dtX7_shift 9 rfl
theorem dX7_shift_20 : decode cX7_shift 20 = .ok (.invokestatic 110, 3) := allD_get dtX7_shift 10 rfl
theorem dX7_shift_23 : decode cX7_shift 23 = .ok (.ifCond .eq 16, 3) := allD_get dtX7_shift 11 rfl
theorem dX7_shift_26 : decode cX7_shift 26 = .ok (.iload_n 3, 1) := allD_get dtX7_shift 12 rfl
theorem dX7_shift_27 : decode cX7_shift 27 = .ok (.sipush (-1000), 3) := allD_get dtX7_shift 13 rfl
theorem dX7_shift_30 : decode cX7_shift 30 = .ok (.sipush 1000, 3) := allD_get dtX7_shift 14 rfl
theorem dX7_shift_33 : decode cX7_shift 33 = .ok (.invokestatic 110, 3) := allD_get dtX7_shift 15 rfl
theorem dX7_shift_36 : decode cX7_shift 36 = .ok (.ifCond .ne 6, 3) := allD_get dtX7_shift 16 rfl
theorem dX7_shift_39 : decode cX7_shift 39 = .ok (.bipush (-2), 2) := allD_get dtX7_shift 17 rfl
theorem dX7_shift_41 : decode cX7_shift 41 = .ok (.ireturn, 1) := allD_get dtX7_shift 18 rfl
theorem dX7_shift_42 : decode cX7_shift 42 = .ok (.aload_n 0, 1) := allD_get dtX7_shift 19 rfl
theorem dX7_shift_43 : decode cX7_shift 43 = .ok (.getfield 26, 3) := allD_get dtX7_shift 20 rfl
theorem dX7_shift_46 : decode cX7_shift 46 = .ok (.iload_n 1, 1) := allD_get dtX7_shift 21 rfl
theorem dX7_shift_47 : decode cX7_shift 47 = .ok (.invokevirtual 167, 3) := allD_get dtX7_shift 22 rfl
theorem dX7_shift_50 : decode cX7_shift 50 = .ok (.iload_n 2, 1) := allD_get dtX7_shift 23 rfl
theorem dX7_shift_51 : decode cX7_shift 51 = .ok (.iadd, 1) := allD_get dtX7_shift 24 rfl
theorem dX7_shift_52 : decode cX7_shift 52 = .ok (.invokestatic 68, 3) := allD_get dtX7_shift 25 rfl
theorem dX7_shift_55 : decode cX7_shift 55 = .ok (.ifCond .eq 51, 3) := allD_get dtX7_shift 26 rfl
theorem dX7_shift_58 : decode cX7_shift 58 = .ok (.aload_n 0, 1) := allD_get dtX7_shift 27 rfl
theorem dX7_shift_59 : decode cX7_shift 59 = .ok (.getfield 26, 3) := allD_get dtX7_shift 28 rfl
theorem dX7_shift_62 : decode cX7_shift 62 = .ok (.iload_n 1, 1) := allD_get dtX7_shift 29 rfl
theorem dX7_shift_63 : decode cX7_shift 63 = .ok (.invokevirtual 170, 3) := allD_get dtX7_shift 30 rfl
theorem dX7_shift_66 : decode cX7_shift 66 = .ok (.iload_n 2, 1) := allD_get dtX7_shift 31 rfl
theorem dX7_shift_67 : decode cX7_shift 67 = .ok (.iadd, 1) := allD_get dtX7_shift 32 rfl
theorem dX7_shift_68 : decode cX7_shift 68 = .ok (.invokestatic 68, 3) := allD_get dtX7_shift 33 rfl
theorem dX7_shift_71 : decode cX7_shift 71 = .ok (.ifCond .eq 35, 3) := allD_get dtX7_shift 34 rfl
theorem dX7_shift_74 : decode cX7_shift 74 = .ok (.aload_n 0, 1) := allD_get dtX7_shift 35 rfl
theorem dX7_shift_75 : decode cX7_shift 75 = .ok (.getfield 26, 3) := allD_get dtX7_shift 36 rfl
theorem dX7_shift_78 : decode cX7_shift 78 = .ok (.iload_n 1, 1) := allD_get dtX7_shift 37 rfl
theorem dX7_shift_79 : decode cX7_shift 79 = .ok (.invokevirtual 173, 3) := allD_get dtX7_shift 38 rfl
theorem dX7_shift_82 : decode cX7_shift 82 = .ok (.iload_n 3, 1) := allD_get dtX7_shift 39 rfl
theorem dX7_shift_83 : decode cX7_shift 83 = .ok (.iadd, 1) := allD_get dtX7_shift 40 rfl
theorem dX7_shift_84 : decode cX7_shift 84 = .ok (.invokestatic 68, 3) := allD_get dtX7_shift 41 rfl
theorem dX7_shift_87 : decode cX7_shift 87 = .ok (.ifCond .eq 19, 3) := allD_get dtX7_shift 42 rfl
theorem dX7_shift_90 : decode cX7_shift 90 = .ok (.aload_n 0, 1) := allD_get dtX7_shift 43 rfl
theorem dX7_shift_91 : decode cX7_shift 91 = .ok (.getfield 26, 3) := allD_get dtX7_shift 44 rfl
theorem dX7_shift_94 : decode cX7_shift 94 = .ok (.iload_n 1, 1) := allD_get dtX7_shift 45 rfl
theorem dX7_shift_95 : decode cX7_shift 95 = .ok (.invokevirtual 176, 3) := allD_get dtX7_shift 46 rfl
theorem dX7_shift_98 : decode cX7_shift 98 = .ok (.iload_n 3, 1) := allD_get dtX7_shift 47 rfl
theorem dX7_shift_99 : decode cX7_shift 99 = .ok (.iadd, 1) := allD_get dtX7_shift 48 rfl
theorem dX7_shift_100 : decode cX7_shift 100 = .ok (.invokestatic 68, 3) := allD_get dtX7_shift 49 rfl
theorem dX7_shift_103 : decode cX7_shift 103 = .ok (.ifCond .ne 6, 3) := allD_get dtX7_shift 50 rfl
theorem dX7_shift_106 : decode cX7_shift 106 = .ok (.bipush (-4), 2) := allD_get dtX7_shift 51 rfl
theorem dX7_shift_108 : decode cX7_shift 108 = .ok (.ireturn, 1) := allD_get dtX7_shift 52 rfl
theorem dX7_shift_109 : decode cX7_shift 109 = .ok (.iload_n 2, 1) := allD_get dtX7_shift 53 rfl
theorem dX7_shift_110 : decode cX7_shift 110 = .ok (.ifCond .ne 10, 3) := allD_get dtX7_shift 54 rfl
theorem dX7_shift_113 : decode cX7_shift 113 = .ok (.iload_n 3, 1) := allD_get dtX7_shift 55 rfl
theorem dX7_shift_114 : decode cX7_shift 114 = .ok (.ifCond .ne 6, 3) := allD_get dtX7_shift 56 rfl
theorem dX7_shift_117 : decode cX7_shift 117 = .ok (.bipush (-5), 2) := allD_get dtX7_shift 57 rfl
theorem dX7_shift_119 : decode cX7_shift 119 = .ok (.ireturn, 1) := allD_get dtX7_shift 58 rfl
theorem dX7_shift_120 : decode cX7_shift 120 = .ok (.aload_n 0, 1) := allD_get dtX7_shift 59 rfl
theorem dX7_shift_121 : decode cX7_shift 121 = .ok (.getfield 33, 3) := allD_get dtX7_shift 60 rfl
theorem dX7_shift_124 : decode cX7_shift 124 = .ok (.invokevirtual 79, 3) := allD_get dtX7_shift 61 rfl
theorem dX7_shift_127 : decode cX7_shift 127 = .ok (.iconst 0, 1) := allD_get dtX7_shift 62 rfl
theorem dX7_shift_128 : decode cX7_shift 128 = .ok (.istore 4, 2) := allD_get dtX7_shift 63 rfl
theorem dX7_shift_130 : decode cX7_shift 130 = .ok (.iload 4, 2) := allD_get dtX7_shift 64 rfl
theorem dX7_shift_132 : decode cX7_shift 132 = .ok (.aload_n 0, 1) := allD_get dtX7_shift 65 rfl
theorem dX7_shift_133 : decode cX7_shift 133 = .ok (.getfield 26, 3) := allD_get dtX7_shift 66 rfl
theorem dX7_shift_136 : decode cX7_shift 136 = .ok (.iload_n 1, 1) := allD_get dtX7_shift 67 rfl
theorem dX7_shift_137 : decode cX7_shift 137 = .ok (.invokevirtual 115, 3) := allD_get dtX7_shift 68 rfl
theorem dX7_shift_140 : decode cX7_shift 140 = .ok (.if_icmp .ge 40, 3) := allD_get dtX7_shift 69 rfl
theorem dX7_shift_143 : decode cX7_shift 143 = .ok (.aload_n 0, 1) := allD_get dtX7_shift 70 rfl
theorem dX7_shift_144 : decode cX7_shift 144 = .ok (.getfield 33, 3) := allD_get dtX7_shift 71 rfl
theorem dX7_shift_147 : decode cX7_shift 147 = .ok (.aload_n 0, 1) := allD_get dtX7_shift 72 rfl
theorem dX7_shift_148 : decode cX7_shift 148 = .ok (.getfield 26, 3) := allD_get dtX7_shift 73 rfl
theorem dX7_shift_151 : decode cX7_shift 151 = .ok (.iload_n 1, 1) := allD_get dtX7_shift 74 rfl
theorem dX7_shift_152 : decode cX7_shift 152 = .ok (.iload 4, 2) := allD_get dtX7_shift 75 rfl
theorem dX7_shift_154 : decode cX7_shift 154 = .ok (.invokevirtual 118, 3) := allD_get dtX7_shift 76 rfl
theorem dX7_shift_157 : decode cX7_shift 157 = .ok (.iload_n 2, 1) := allD_get dtX7_shift 77 rfl
theorem dX7_shift_158 : decode cX7_shift 158 = .ok (.iadd, 1) := allD_get dtX7_shift 78 rfl
theorem dX7_shift_159 : decode cX7_shift 159 = .ok (.aload_n 0, 1) := allD_get dtX7_shift 79 rfl
theorem dX7_shift_160 : decode cX7_shift 160 = .ok (.getfield 26, 3) := allD_get dtX7_shift 80 rfl
theorem dX7_shift_163 : decode cX7_shift 163 = .ok (.iload_n 1, 1) := allD_get dtX7_shift 81 rfl
theorem dX7_shift_164 : decode cX7_shift 164 = .ok (.iload 4, 2) := allD_get dtX7_shift 82 rfl
theorem dX7_shift_166 : decode cX7_shift 166 = .ok (.invokevirtual 122, 3) := allD_get dtX7_shift 83 rfl
theorem dX7_shift_169 : decode cX7_shift 169 = .ok (.iload_n 3, 1) := allD_get dtX7_shift 84 rfl
theorem dX7_shift_170 : decode cX7_shift 170 = .ok (.iadd, 1) := allD_get dtX7_shift 85 rfl
theorem dX7_shift_171 : decode cX7_shift 171 = .ok (.invokevirtual 75, 3) := allD_get dtX7_shift 86 rfl
theorem dX7_shift_174 : decode cX7_shift 174 = .ok (.iinc 4 1, 3) := allD_get dtX7_shift 87 rfl
theorem dX7_shift_177 : decode cX7_shift 177 = .ok (.goto (-47), 3) := allD_get dtX7_shift 88 rfl
theorem dX7_shift_180 : decode cX7_shift 180 = .ok (.aload_n 0, 1) := allD_get dtX7_shift 89 rfl
theorem dX7_shift_181 : decode cX7_shift 181 = .ok (.iload_n 1, 1) := allD_get dtX7_shift 90 rfl
theorem dX7_shift_182 : decode cX7_shift 182 = .ok (.invokevirtual 149, 3) := allD_get dtX7_shift 91 rfl
theorem dX7_shift_185 : decode cX7_shift 185 = .ok (.ireturn, 1) := allD_get dtX7_shift 92 rfl
def tbX7_paint : List (Nat × Instr × Nat) := [(0, .aload_n 0, 1), (1, .getfield 26, 3), (4, .iload_n 1, 1), (5, .invokevirtual 136, 3), (8, .ifCond .ne 5, 3), (11, .iconst (-1), 1), (12, .ireturn, 1), (13, .iload_n 2, 1), (14, .invokestatic 97, 3), (17, .ifCond .ne 6, 3), (20, .bipush (-2), 2), (22, .ireturn, 1), (23, .aload_n 0, 1), (24, .getfield 26, 3), (27, .iload_n 1, 1), (28, .invokevirtual 128, 3), (31, .istore_n 3, 1), (32, .iload_n 3, 1), (33, .iload_n 2, 1), (34, .if_icmp .ne 6, 3), (37, .bipush (-5), 2), (39, .ireturn, 1), (40, .aload_n 0, 1), (41, .getfield 26, 3), (44, .iload_n 1, 1), (45, .iload_n 2, 1), (46, .invokevirtual 179, 3), (49, .aload_n 0, 1), (50, .getfield 39, 3), (53, .aload_n 0, 1), (54, .getfield 26, 3), (57, .invokevirtual 103, 3), (60, .iload_n 3, 1), (61, .ireturn, 1)]
set_option maxRecDepth 100000 in
theorem dtX7_paint : allD cX7_paint tbX7_paint = true := by decide +kernel
theorem dX7_paint_0 : decode cX7_paint 0 = .ok (.aload_n 0, 1) := allD_get dtX7_paint 0 rfl
theorem dX7_paint_1 : decode cX7_paint 1 = .ok (.getfield 26, 3) := allD_get dtX7_paint 1 rfl
theorem dX7_paint_4 : decode cX7_paint 4 = .ok (.iload_n 1, 1) := allD_get dtX7_paint 2 rfl
theorem dX7_paint_5 : decode cX7_paint 5 = .ok (.invokevirtual 136, 3) := allD_get dtX7_paint 3 rfl
theorem dX7_paint_8 : decode cX7_paint 8 = .ok (.ifCond .ne 5, 3) := allD_get dtX7_paint 4 rfl
theorem dX7_paint_11 : decode cX7_paint 11 = .ok (.iconst (-1), 1) := allD_get dtX7_paint 5 rfl
theorem dX7_paint_12 : decode cX7_paint 12 = .ok (.ireturn, 1) := allD_get dtX7_paint 6 rfl
theorem dX7_paint_13 : decode cX7_paint 13 = .ok (.iload_n 2, 1) := allD_get dtX7_paint 7 rfl
theorem dX7_paint_14 : decode cX7_paint 14 = .ok (.invokestatic 97, 3) := allD_get dtX7_paint 8 rfl
theorem dX7_paint_17 : decode cX7_paint 17 = .ok (.ifCond .ne 6, 3) := allD_get dtX7_paint 9 rfl
theorem dX7_paint_20 : decode cX7_paint 20 = .ok (.bipush (-2), 2) := allD_get dtX7_paint 10 rfl
theorem dX7_paint_22 : decode cX7_paint 22 = .ok (.ireturn, 1) := allD_get dtX7_paint 11 rfl
theorem dX7_paint_23 : decode cX7_paint 23 = .ok (.aload_n 0, 1) := allD_get dtX7_paint 12 rfl
theorem dX7_paint_24 : decode cX7_paint 24 = .ok (.getfield 26, 3) := allD_get dtX7_paint 13 rfl
theorem dX7_paint_27 : decode cX7_paint 27 = .ok (.iload_n 1, 1) := allD_get dtX7_paint 14 rfl
theorem dX7_paint_28 : decode cX7_paint 28 = .ok (.invokevirtual 128, 3) := allD_get dtX7_paint 15 rfl
theorem dX7_paint_31 : decode cX7_paint 31 = .ok (.istore_n 3, 1) := allD_get dtX7_paint 16 rfl
theorem dX7_paint_32 : decode cX7_paint 32 = .ok (.iload_n 3, 1) := allD_get dtX7_paint 17 rfl
theorem dX7_paint_33 : decode cX7_paint 33 = .ok (.iload_n 2, 1) := allD_get dtX7_paint 18 rfl
theorem dX7_paint_34 : decode cX7_paint 34 = .ok (.if_icmp .ne 6, 3) := allD_get dtX7_paint 19 rfl
theorem dX7_paint_37 : decode cX7_paint 37 = .ok (.bipush (-5), 2) := allD_get dtX7_paint 20 rfl
theorem dX7_paint_39 : decode cX7_paint 39 = .ok (.ireturn, 1) := allD_get dtX7_paint 21 rfl
theorem dX7_paint_40 : decode cX7_paint 40 = .ok (.aload_n 0, 1) := allD_get dtX7_paint 22 rfl
theorem dX7_paint_41 : decode cX7_paint 41 = .ok (.getfield 26, 3) := allD_get dtX7_paint 23 rfl
theorem dX7_paint_44 : decode cX7_paint 44 = .ok (.iload_n 1, 1) := allD_get dtX7_paint 24 rfl
theorem dX7_paint_45 : decode cX7_paint 45 = .ok (.iload_n 2, 1) := allD_get dtX7_paint 25 rfl
theorem dX7_paint_46 : decode cX7_paint 46 = .ok (.invokevirtual 179, 3) := allD_get dtX7_paint 26 rfl
theorem dX7_paint_49 : decode cX7_paint 49 = .ok (.aload_n 0, 1) := allD_get dtX7_paint 27 rfl
theorem dX7_paint_50 : decode cX7_paint 50 = .ok (.getfield 39, 3) := allD_get dtX7_paint 28 rfl
theorem dX7_paint_53 : decode cX7_paint 53 = .ok (.aload_n 0, 1) := allD_get dtX7_paint 29 rfl
theorem dX7_paint_54 : decode cX7_paint 54 = .ok (.getfield 26, 3) := allD_get dtX7_paint 30 rfl
theorem dX7_paint_57 : decode cX7_paint 57 = .ok (.invokevirtual 103, 3) := allD_get dtX7_paint 31 rfl
theorem dX7_paint_60 : decode cX7_paint 60 = .ok (.iload_n 3, 1) := allD_get dtX7_paint 32 rfl
theorem dX7_paint_61 : decode cX7_paint 61 = .ok (.ireturn, 1) := allD_get dtX7_paint 33 rfl
def tbX7_remove : List (Nat × Instr × Nat) := [(0, .aload_n 0, 1), (1, .getfield 26, 3), (4, .iload_n 1, 1), (5, .invokevirtual 136, 3), (8, .ifCond .ne 5, 3), (11, .iconst (-1), 1), (12, .ireturn, 1), (13, .aload_n 0, 1), (14, .getfield 26, 3), (17, .iload_n 1, 1), (18, .invokevirtual 164, 3), (21, .aload_n 0, 1), (22, .getfield 39, 3), (25, .aload_n 0, 1), (26, .getfield 26, 3), (29, .invokevirtual 103, 3), (32, .aload_n 0, 1), (33, .getfield 26, 3), (36, .getfield 107, 3), (39, .ireturn, 1)]
set_option maxRecDepth 100000 in
theorem dtX7_remove : allD cX7_remove tbX7_remove = true := by decide +kernel
theorem dX7_remove_0 : decode cX7_remove 0 = .ok (.aload_n 0, 1) := allD_get dtX7_remove 0 rfl
theorem dX7_remove_1 : decode cX7_remove 1 = .ok (.getfield 26, 3) := allD_get dtX7_remove 1 rfl
theorem dX7_remove_4 : decode cX7_remove 4 = .ok (.iload_n 1, 1) := allD_get dtX7_remove 2 rfl
theorem dX7_remove_5 : decode cX7_remove 5 = .ok (.invokevirtual 136, 3) := allD_get dtX7_remove 3 rfl
theorem dX7_remove_8 : decode cX7_remove 8 = .ok (.ifCond .ne 5, 3) := allD_get dtX7_remove 4 rfl
theorem dX7_remove_11 : decode cX7_remove 11 = .ok (.iconst (-1), 1) := allD_get dtX7_remove 5 rfl
theorem dX7_remove_12 : decode cX7_remove 12 = .ok (.ireturn, 1) := allD_get dtX7_remove 6 rfl
theorem dX7_remove_13 : decode cX7_remove 13 = .ok (.aload_n 0, 1) := allD_get dtX7_remove 7 rfl
theorem dX7_remove_14 : decode cX7_remove 14 = .ok (.getfield 26, 3) := allD_get dtX7_remove 8 rfl
theorem dX7_remove_17 : decode cX7_remove 17 = .ok (.iload_n 1, 1) := allD_get dtX7_remove 9 rfl
theorem dX7_remove_18 : decode cX7_remove 18 = .ok (.invokevirtual 164, 3) := allD_get dtX7_remove 10 rfl
theorem dX7_remove_21 : decode cX7_remove 21 = .ok (.aload_n 0, 1) := allD_get dtX7_remove 11 rfl
theorem dX7_remove_22 : decode cX7_remove 22 = .ok (.getfield 39, 3) := allD_get dtX7_remove 12 rfl
theorem dX7_remove_25 : decode cX7_remove 25 = .ok (.aload_n 0, 1) := allD_get dtX7_remove 13 rfl
theorem dX7_remove_26 : decode cX7_remove 26 = .ok (.getfield 26, 3) := allD_get dtX7_remove 14 rfl
theorem dX7_remove_29 : decode cX7_remove 29 = .ok (.invokevirtual 103, 3) := allD_get dtX7_remove 15 rfl
theorem dX7_remove_32 : decode cX7_remove 32 = .ok (.aload_n 0, 1) := allD_get dtX7_remove 16 rfl
theorem dX7_remove_33 : decode cX7_remove 33 = .ok (.getfield 26, 3) := allD_get dtX7_remove 17 rfl
theorem dX7_remove_36 : decode cX7_remove 36 = .ok (.getfield 107, 3) := allD_get dtX7_remove 18 rfl
theorem dX7_remove_39 : decode cX7_remove 39 = .ok (.ireturn, 1) := allD_get dtX7_remove 19 rfl
def tbX7_undo : List (Nat × Instr × Nat) := [(0, .aload_n 0, 1), (1, .getfield 39, 3), (4, .getfield 182, 3), (7, .ifCond .ne 6, 3), (10, .bipush (-5), 2), (12, .ireturn, 1), (13, .aload_n 0, 1), (14, .getfield 39, 3), (17, .aload_n 0, 1), (18, .getfield 26, 3), (21, .invokevirtual 185, 3), (24, .aload_n 0, 1), (25, .getfield 39, 3), (28, .getfield 182, 3), (31, .ireturn, 1)]
set_option maxRecDepth 100000 in
theorem dtX7_undo : allD cX7_undo tbX7_undo = true := by decide +kernel
theorem dX7_undo_0 : decode cX7_undo 0 = .ok (.aload_n 0, 1) := allD_get dtX7_undo 0 rfl
theorem dX7_undo_1 : decode cX7_undo 1 = .ok (.getfield 39, 3) := allD_get dtX7_undo 1 rfl
theorem dX7_undo_4 : decode cX7_undo 4 = .ok (.getfield 182, 3) := allD_get dtX7_undo 2 rfl
theorem dX7_undo_7 : decode cX7_undo 7 = .ok (.ifCond .ne 6, 3) := allD_get dtX7_undo 3 rfl
theorem dX7_undo_10 : decode cX7_undo 10 = .ok (.bipush (-5), 2) := allD_get dtX7_undo 4 rfl
theorem dX7_undo_12 : decode cX7_undo 12 = .ok (.ireturn, 1) := allD_get dtX7_undo 5 rfl
theorem dX7_undo_13 : decode cX7_undo 13 = .ok (.aload_n 0, 1) := allD_get dtX7_undo 6 rfl
theorem dX7_undo_14 : decode cX7_undo 14 = .ok (.getfield 39, 3) := allD_get dtX7_undo 7 rfl
theorem dX7_undo_17 : decode cX7_undo 17 = .ok (.aload_n 0, 1) := allD_get dtX7_undo 8 rfl
theorem dX7_undo_18 : decode cX7_undo 18 = .ok (.getfield 26, 3) := allD_get dtX7_undo 9 rfl
theorem dX7_undo_21 : decode cX7_undo 21 = .ok (.invokevirtual 185, 3) := allD_get dtX7_undo 10 rfl
theorem dX7_undo_24 : decode cX7_undo 24 = .ok (.aload_n 0, 1) := allD_get dtX7_undo 11 rfl
theorem dX7_undo_25 : decode cX7_undo 25 = .ok (.getfield 39, 3) := allD_get dtX7_undo 12 rfl
theorem dX7_undo_28 : decode cX7_undo 28 = .ok (.getfield 182, 3) := allD_get dtX7_undo 13 rfl
theorem dX7_undo_31 : decode cX7_undo 31 = .ok (.ireturn, 1) := allD_get dtX7_undo 14 rfl
def tbX7_redo : List (Nat × Instr × Nat) := [(0, .aload_n 0, 1), (1, .getfield 39, 3), (4, .getfield 188, 3), (7, .ifCond .ne 6, 3), (10, .bipush (-5), 2), (12, .ireturn, 1), (13, .aload_n 0, 1), (14, .getfield 39, 3), (17, .aload_n 0, 1), (18, .getfield 26, 3), (21, .invokevirtual 191, 3), (24, .aload_n 0, 1), (25, .getfield 39, 3), (28, .getfield 188, 3), (31, .ireturn, 1)]
set_option maxRecDepth 100000 in
theorem dtX7_redo : allD cX7_redo tbX7_redo = true := by decide +kernel
theorem dX7_redo_0 : decode cX7_redo 0 = .ok (.aload_n 0, 1) := allD_get dtX7_redo 0 rfl
theorem dX7_redo_1 : decode cX7_redo 1 = .ok (.getfield 39, 3) := allD_get dtX7_redo 1 rfl
theorem dX7_redo_4 : decode cX7_redo 4 = .ok (.getfield 188, 3) := allD_get dtX7_redo 2 rfl
theorem dX7_redo_7 : decode cX7_redo 7 = .ok (.ifCond .ne 6, 3) := allD_get dtX7_redo 3 rfl
theorem dX7_redo_10 : decode cX7_redo 10 = .ok (.bipush (-5), 2) := allD_get dtX7_redo 4 rfl
theorem dX7_redo_12 : decode cX7_redo 12 = .ok (.ireturn, 1) := allD_get dtX7_redo 5 rfl
theorem dX7_redo_13 : decode cX7_redo 13 = .ok (.aload_n 0, 1) := allD_get dtX7_redo 6 rfl
theorem dX7_redo_14 : decode cX7_redo 14 = .ok (.getfield 39, 3) := allD_get dtX7_redo 7 rfl
theorem dX7_redo_17 : decode cX7_redo 17 = .ok (.aload_n 0, 1) := allD_get dtX7_redo 8 rfl
theorem dX7_redo_18 : decode cX7_redo 18 = .ok (.getfield 26, 3) := allD_get dtX7_redo 9 rfl
theorem dX7_redo_21 : decode cX7_redo 21 = .ok (.invokevirtual 191, 3) := allD_get dtX7_redo 10 rfl
theorem dX7_redo_24 : decode cX7_redo 24 = .ok (.aload_n 0, 1) := allD_get dtX7_redo 11 rfl
theorem dX7_redo_25 : decode cX7_redo 25 = .ok (.getfield 39, 3) := allD_get dtX7_redo 12 rfl
theorem dX7_redo_28 : decode cX7_redo 28 = .ok (.getfield 188, 3) := allD_get dtX7_redo 13 rfl
theorem dX7_redo_31 : decode cX7_redo 31 = .ok (.ireturn, 1) := allD_get dtX7_redo 14 rfl
def tbX7_stroke : List (Nat × Instr × Nat) := [(0, .aload_n 0, 1), (1, .getfield 26, 3), (4, .iload_n 1, 1), (5, .invokevirtual 136, 3), (8, .ifCond .ne 5, 3), (11, .iconst (-1), 1), (12, .ireturn, 1), (13, .iload_n 2, 1), (14, .tableswitch 159 0 9 #[54, 63, 72, 81, 90, 99, 108, 117, 131, 145], 54), (68, .aload_n 0, 1), (69, .getfield 26, 3), (72, .iload_n 1, 1), (73, .invokevirtual 128, 3), (76, .ireturn, 1), (77, .aload_n 0, 1), (78, .getfield 26, 3), (81, .iload_n 1, 1), (82, .invokevirtual 115, 3), (85, .ireturn, 1), (86, .aload_n 0, 1), (87, .getfield 26, 3), (90, .iload_n 1, 1), (91, .invokevirtual 167, 3), (94, .ireturn, 1), (95, .aload_n 0, 1), (96, .getfield 26, 3), (99, .iload_n 1, 1), (100, .invokevirtual 170, 3), (103, .ireturn, 1), (104, .aload_n 0, 1), (105, .getfield 26, 3), (108, .iload_n 1, 1), (109, .invokevirtual 173, 3), (112, .ireturn, 1), (113, .aload_n 0, 1), (114, .getfield 26, 3), (117, .iload_n 1, 1), (118, .invokevirtual 176, 3), (121, .ireturn, 1), (122, .aload_n 0, 1), (123, .getfield 26, 3), (126, .iload_n 1, 1), (127, .invokevirtual 194, 3), (130, .ireturn, 1), (131, .aload_n 0, 1), (132, .invokevirtual 196, 3), (135, .aload_n 0, 1), (136, .getfield 46, 3), (139, .getfield 199, 3), (142, .iload_n 1, 1), (143, .iaload, 1), (144, .ireturn, 1), (145, .aload_n 0, 1), (146, .invokevirtual 196, 3), (149, .aload_n 0, 1), (150, .getfield 53, 3), (153, .getfield 203, 3), (156, .iload_n 1, 1), (157, .iaload, 1), (158, .ireturn, 1), (159, .aload_n 0, 1), (160, .invokevirtual 196, 3), (163, .aload_n 0, 1), (164, .getfield 53, 3), (167, .getfield 206, 3), (170, .iload_n 1, 1), (171, .iaload, 1), (172, .ireturn, 1), (173, .bipush (-2), 2), (175, .ireturn, 1)]
set_option maxRecDepth 100000 in
theorem dtX7_stroke : allD cX7_stroke tbX7_stroke = true := by decide +kernel
theorem dX7_stroke_0 : decode cX7_stroke 0 = .ok (.aload_n 0, 1) := allD_get dtX7_stroke 0 rfl
theorem dX7_stroke_1 : decode cX7_stroke 1 = .ok (.getfield 26, 3) := allD_get dtX7_stroke 1 rfl
theorem dX7_stroke_4 : decode cX7_stroke 4 = .ok (.iload_n 1, 1) := allD_get dtX7_stroke 2 rfl
theorem dX7_stroke_5 : decode cX7_stroke 5 = .ok (.invokevirtual 136, 3) := allD_get dtX7_stroke 3 rfl
theorem dX7_stroke_8 : decode cX7_stroke 8 = .ok (.ifCond .ne 5, 3) := allD_get dtX7_stroke 4 rfl
theorem dX7_stroke_11 : decode cX7_stroke 11 = .ok (.iconst (-1), 1) := allD_get dtX7_stroke 5 rfl
theorem dX7_stroke_12 : decode cX7_stroke 12 = .ok (.ireturn, 1) := allD_get dtX7_stroke 6 rfl
theorem dX7_stroke_13 : decode cX7_stroke 13 = .ok (.iload_n 2, 1) := allD_get dtX7_stroke 7 rfl
theorem dX7_stroke_14 : decode cX7_stroke 14 = .ok (.tableswitch 159 0 9 #[54, 63, 72, 81, 90, 99, 108, 117, 131, 145], 54) := allD_get dtX7_stroke 8 rfl
theorem dX7_stroke_68 : decode cX7_stroke 68 = .ok (.aload_n 0, 1) := allD_get dtX7_stroke 9 rfl
theorem dX7_stroke_69 : decode cX7_stroke 69 = .ok (.getfield 26, 3) := allD_get dtX7_stroke 10 rfl
theorem dX7_stroke_72 : decode cX7_stroke 72 = .ok (.iload_n 1, 1) := allD_get dtX7_stroke 11 rfl
theorem dX7_stroke_73 : decode cX7_stroke 73 = .ok (.invokevirtual 128, 3) := allD_get dtX7_stroke 12 rfl
theorem dX7_stroke_76 : decode cX7_stroke 76 = .ok (.ireturn, 1) := allD_get dtX7_stroke 13 rfl
theorem dX7_stroke_77 : decode cX7_stroke 77 = .ok (.aload_n 0, 1) := allD_get dtX7_stroke 14 rfl
theorem dX7_stroke_78 : decode cX7_stroke 78 = .ok (.getfield 26, 3) := allD_get dtX7_stroke 15 rfl
theorem dX7_stroke_81 : decode cX7_stroke 81 = .ok (.iload_n 1, 1) := allD_get dtX7_stroke 16 rfl
theorem dX7_stroke_82 : decode cX7_stroke 82 = .ok (.invokevirtual 115, 3) := allD_get dtX7_stroke 17 rfl
theorem dX7_stroke_85 : decode cX7_stroke 85 = .ok (.ireturn, 1) := allD_get dtX7_stroke 18 rfl
theorem dX7_stroke_86 : decode cX7_stroke 86 = .ok (.aload_n 0, 1) := allD_get dtX7_stroke 19 rfl
theorem dX7_stroke_87 : decode cX7_stroke 87 = .ok (.getfield 26, 3) := allD_get dtX7_stroke 20 rfl
theorem dX7_stroke_90 : decode cX7_stroke 90 = .ok (.iload_n 1, 1) := allD_get dtX7_stroke 21 rfl
theorem dX7_stroke_91 : decode cX7_stroke 91 = .ok (.invokevirtual 167, 3) := allD_get dtX7_stroke 22 rfl
theorem dX7_stroke_94 : decode cX7_stroke 94 = .ok (.ireturn, 1) := allD_get dtX7_stroke 23 rfl
theorem dX7_stroke_95 : decode cX7_stroke 95 = .ok (.aload_n 0, 1) := allD_get dtX7_stroke 24 rfl
theorem dX7_stroke_96 : decode cX7_stroke 96 = .ok (.getfield 26, 3) := allD_get dtX7_stroke 25 rfl
theorem dX7_stroke_99 : decode cX7_stroke 99 = .ok (.iload_n 1, 1) := allD_get dtX7_stroke 26 rfl
theorem dX7_stroke_100 : decode cX7_stroke 100 = .ok (.invokevirtual 170, 3) := allD_get dtX7_stroke 27 rfl
theorem dX7_stroke_103 : decode cX7_stroke 103 = .ok (.ireturn, 1) := allD_get dtX7_stroke 28 rfl
theorem dX7_stroke_104 : decode cX7_stroke 104 = .ok (.aload_n 0, 1) := allD_get dtX7_stroke 29 rfl
theorem dX7_stroke_105 : decode cX7_stroke 105 = .ok (.getfield 26, 3) := allD_get dtX7_stroke 30 rfl
theorem dX7_stroke_108 : decode cX7_stroke 108 = .ok (.iload_n 1, 1) := allD_get dtX7_stroke 31 rfl
theorem dX7_stroke_109 : decode cX7_stroke 109 = .ok (.invokevirtual 173, 3) := allD_get dtX7_stroke 32 rfl
theorem dX7_stroke_112 : decode cX7_stroke 112 = .ok (.ireturn, 1) := allD_get dtX7_stroke 33 rfl
theorem dX7_stroke_113 : decode cX7_stroke 113 = .ok (.aload_n 0, 1) := allD_get dtX7_stroke 34 rfl
theorem dX7_stroke_114 : decode cX7_stroke 114 = .ok (.getfield 26, 3) := allD_get dtX7_stroke 35 rfl
theorem dX7_stroke_117 : decode cX7_stroke 117 = .ok (.iload_n 1, 1) := allD_get dtX7_stroke 36 rfl
theorem dX7_stroke_118 : decode cX7_stroke 118 = .ok (.invokevirtual 176, 3) := allD_get dtX7_stroke 37 rfl
theorem dX7_stroke_121 : decode cX7_stroke 121 = .ok (.ireturn, 1) := allD_get dtX7_stroke 38 rfl
theorem dX7_stroke_122 : decode cX7_stroke 122 = .ok (.aload_n 0, 1) := allD_get dtX7_stroke 39 rfl
theorem dX7_stroke_123 : decode cX7_stroke 123 = .ok (.getfield 26, 3) := allD_get dtX7_stroke 40 rfl
theorem dX7_stroke_126 : decode cX7_stroke 126 = .ok (.iload_n 1, 1) := allD_get dtX7_stroke 41 rfl
theorem dX7_stroke_127 : decode cX7_stroke 127 = .ok (.invokevirtual 194, 3) := allD_get dtX7_stroke 42 rfl
theorem dX7_stroke_130 : decode cX7_stroke 130 = .ok (.ireturn, 1) := allD_get dtX7_stroke 43 rfl
theorem dX7_stroke_131 : decode cX7_stroke 131 = .ok (.aload_n 0, 1) := allD_get dtX7_stroke 44 rfl
theorem dX7_stroke_132 : decode cX7_stroke 132 = .ok (.invokevirtual 196, 3) := allD_get dtX7_stroke 45 rfl
theorem dX7_stroke_135 : decode cX7_stroke 135 = .ok (.aload_n 0, 1) := allD_get dtX7_stroke 46 rfl
theorem dX7_stroke_136 : decode cX7_stroke 136 = .ok (.getfield 46, 3) := allD_get dtX7_stroke 47 rfl
theorem dX7_stroke_139 : decode cX7_stroke 139 = .ok (.getfield 199, 3) := allD_get dtX7_stroke 48 rfl
theorem dX7_stroke_142 : decode cX7_stroke 142 = .ok (.iload_n 1, 1) := allD_get dtX7_stroke 49 rfl
theorem dX7_stroke_143 : decode cX7_stroke 143 = .ok (.iaload, 1) := allD_get dtX7_stroke 50 rfl
theorem dX7_stroke_144 : decode cX7_stroke 144 = .ok (.ireturn, 1) := allD_get dtX7_stroke 51 rfl
theorem dX7_stroke_145 : decode cX7_stroke 145 = .ok (.aload_n 0, 1) := allD_get dtX7_stroke 52 rfl
theorem dX7_stroke_146 : decode cX7_stroke 146 = .ok (.invokevirtual 196, 3) := allD_get dtX7_stroke 53 rfl
theorem dX7_stroke_149 : decode cX7_stroke 149 = .ok (.aload_n 0, 1) := allD_get dtX7_stroke 54 rfl
theorem dX7_stroke_150 : decode cX7_stroke 150 = .ok (.getfield 53, 3) := allD_get dtX7_stroke 55 rfl
theorem dX7_stroke_153 : decode cX7_stroke 153 = .ok (.getfield 203, 3) := allD_get dtX7_stroke 56 rfl
theorem dX7_stroke_156 : decode cX7_stroke 156 = .ok (.iload_n 1, 1) := allD_get dtX7_stroke 57 rfl
theorem dX7_stroke_157 : decode cX7_stroke 157 = .ok (.iaload, 1) := allD_get dtX7_stroke 58 rfl
theorem dX7_stroke_158 : decode cX7_stroke 158 = .ok (.ireturn, 1) := allD_get dtX7_stroke 59 rfl
theorem dX7_stroke_159 : decode cX7_stroke 159 = .ok (.aload_n 0, 1) := allD_get dtX7_stroke 60 rfl
theorem dX7_stroke_160 : decode cX7_stroke 160 = .ok (.invokevirtual 196, 3) := allD_get dtX7_stroke 61 rfl
theorem dX7_stroke_163 : decode cX7_stroke 163 = .ok (.aload_n 0, 1) := allD_get dtX7_stroke 62 rfl
theorem dX7_stroke_164 : decode cX7_stroke 164 = .ok (.getfield 53, 3) := allD_get dtX7_stroke 63 rfl
theorem dX7_stroke_167 : decode cX7_stroke 167 = .ok (.getfield 206, 3) := allD_get dtX7_stroke 64 rfl
theorem dX7_stroke_170 : decode cX7_stroke 170 = .ok (.iload_n 1, 1) := allD_get dtX7_stroke 65 rfl
theorem dX7_stroke_171 : decode cX7_stroke 171 = .ok (.iaload, 1) := allD_get dtX7_stroke 66 rfl
theorem dX7_stroke_172 : decode cX7_stroke 172 = .ok (.ireturn, 1) := allD_get dtX7_stroke 67 rfl
theorem dX7_stroke_173 : decode cX7_stroke 173 = .ok (.bipush (-2), 2) := allD_get dtX7_stroke 68 rfl
theorem dX7_stroke_175 : decode cX7_stroke 175 = .ok (.ireturn, 1) := allD_get dtX7_stroke 69 rfl
def tbX7_point : List (Nat × Instr × Nat) := [(0, .aload_n 0, 1), (1, .getfield 26, 3), (4, .iload_n 1, 1), (5, .invokevirtual 136, 3), (8, .ifCond .eq 21, 3), (11, .iload_n 2, 1), (12, .iconst 0, 1), (13, .aload_n 0, 1), (14, .getfield 26, 3), (17, .iload_n 1, 1), (18, .invokevirtual 115, 3), (21, .iconst 1, 1), (22, .isub, 1), (23, .invokestatic 110, 3), (26, .ifCond .ne 5, 3), (29, .iconst (-1), 1), (30, .ireturn, 1), (31, .iload_n 3, 1), (32, .lookupswitch 48 #[(0, 28), (1, 38)], 28), (60, .aload_n 0, 1), (61, .getfield 26, 3), (64, .iload_n 1, 1), (65, .iload_n 2, 1), (66, .invokevirtual 118, 3), (69, .ireturn, 1), (70, .aload_n 0, 1), (71, .getfield 26, 3), (74, .iload_n 1, 1), (75, .iload_n 2, 1), (76, .invokevirtual 122, 3), (79, .ireturn, 1), (80, .bipush (-2), 2), (82, .ireturn, 1)]
set_option maxRecDepth 100000 in
theorem dtX7_point : allD cX7_point tbX7_point = true := by decide +kernel
theorem dX7_point_0 : decode cX7_point 0 = .ok (.aload_n 0, 1) := allD_get dtX7_point 0 rfl
theorem dX7_point_1 : decode cX7_point 1 = .ok (.getfield 26, 3) := allD_get dtX7_point 1 rfl
theorem dX7_point_4 : decode cX7_point 4 = .ok (.iload_n 1, 1) := allD_get dtX7_point 2 rfl
theorem dX7_point_5 : decode cX7_point 5 = .ok (.invokevirtual 136, 3) := allD_get dtX7_point 3 rfl
theorem dX7_point_8 : decode cX7_point 8 = .ok (.ifCond .eq 21, 3) := allD_get dtX7_point 4 rfl
theorem dX7_point_11 : decode cX7_point 11 = .ok (.iload_n 2, 1) := allD_get dtX7_point 5 rfl
theorem dX7_point_12 : decode cX7_point 12 = .ok (.iconst 0, 1) := allD_get dtX7_point 6 rfl
theorem dX7_point_13 : decode cX7_point 13 = .ok (.aload_n 0, 1) := allD_get dtX7_point 7 rfl
theorem dX7_point_14 : decode cX7_point 14 = .ok (.getfield 26, 3) := allD_get dtX7_point 8 rfl
theorem dX7_point_17 : decode cX7_point 17 = .ok (.iload_n 1, 1) := allD_get dtX7_point 9 rfl
theorem dX7_point_18 : decode cX7_point 18 = .ok (.invokevirtual 115, 3) := allD_get dtX7_point 10 rfl
theorem dX7_point_21 : decode cX7_point 21 = .ok (.iconst 1, 1) := allD_get dtX7_point 11 rfl
theorem dX7_point_22 : decode cX7_point 22 = .ok (.isub, 1) := allD_get dtX7_point 12 rfl
theorem dX7_point_23 : decode cX7_point 23 = .ok (.invokestatic 110, 3) := allD_get dtX7_point 13 rfl
theorem dX7_point_26 : decode cX7_point 26 = .ok (.ifCond .ne 5, 3) := allD_get dtX7_point 14 rfl
theorem dX7_point_29 : decode cX7_point 29 = .ok (.iconst (-1), 1) := allD_get dtX7_point 15 rfl
theorem dX7_point_30 : decode cX7_point 30 = .ok (.ireturn, 1) := allD_get dtX7_point 16 rfl
theorem dX7_point_31 : decode cX7_point 31 = .ok (.iload_n 3, 1) := allD_get dtX7_point 17 rfl
theorem dX7_point_32 : decode cX7_point 32 = .ok (.lookupswitch 48 #[(0, 28), (1, 38)], 28) := allD_get dtX7_point 18 rfl
theorem dX7_point_60 : decode cX7_point 60 = .ok (.aload_n 0, 1) := allD_get dtX7_point 19 rfl
theorem dX7_point_61 : decode cX7_point 61 = .ok (.getfield 26, 3) := allD_get dtX7_point 20 rfl
theorem dX7_point_64 : decode cX7_point 64 = .ok (.iload_n 1, 1) := allD_get dtX7_point 21 rfl
theorem dX7_point_65 : decode cX7_point 65 = .ok (.iload_n 2, 1) := allD_get dtX7_point 22 rfl
theorem dX7_point_66 : decode cX7_point 66 = .ok (.invokevirtual 118, 3) := allD_get dtX7_point 23 rfl
theorem dX7_point_69 : decode cX7_point 69 = .ok (.ireturn, 1) := allD_get dtX7_point 24 rfl
theorem dX7_point_70 : decode cX7_point 70 = .ok (.aload_n 0, 1) := allD_get dtX7_point 25 rfl
theorem dX7_point_71 : decode cX7_point 71 = .ok (.getfield 26, 3) := allD_get dtX7_point 26 rfl
theorem dX7_point_74 : decode cX7_point 74 = .ok (.iload_n 1, 1) := allD_get dtX7_point 27 rfl
theorem dX7_point_75 : decode cX7_point 75 = .ok (.iload_n 2, 1) := allD_get dtX7_point 28 rfl
theorem dX7_point_76 : decode cX7_point 76 = .ok (.invokevirtual 122, 3) := allD_get dtX7_point 29 rfl
theorem dX7_point_79 : decode cX7_point 79 = .ok (.ireturn, 1) := allD_get dtX7_point 30 rfl
theorem dX7_point_80 : decode cX7_point 80 = .ok (.bipush (-2), 2) := allD_get dtX7_point 31 rfl
theorem dX7_point_82 : decode cX7_point 82 = .ok (.ireturn, 1) := allD_get dtX7_point 32 rfl
def tbX7_read : List (Nat × Instr × Nat) := [(0, .iload_n 1, 1), (1, .ifCond .ge 6, 3), (4, .bipush (-2), 2), (6, .ireturn, 1), (7, .iload_n 1, 1), (8, .aload_n 0, 1), (9, .getfield 26, 3), (12, .getfield 107, 3), (15, .if_icmp .lt 6, 3), (18, .bipush (-5), 2), (20, .ireturn, 1), (21, .aload_n 0, 1), (22, .invokevirtual 196, 3), (25, .aload_n 0, 1), (26, .getfield 53, 3), (29, .getfield 209, 3), (32, .iload_n 1, 1), (33, .iaload, 1), (34, .ireturn, 1)]
set_option maxRecDepth 100000 in
theorem dtX7_read : allD cX7_read tbX7_read = true := by decide +kernel
theorem dX7_read_0 : decode cX7_read 0 = .ok (.iload_n 1, 1) := allD_get dtX7_read 0 rfl
theorem dX7_read_1 : decode cX7_read 1 = .ok (.ifCond .ge 6, 3) := allD_get dtX7_read 1 rfl
theorem dX7_read_4 : decode cX7_read 4 = .ok (.bipush (-2), 2) := allD_get dtX7_read 2 rfl
theorem dX7_read_6 : decode cX7_read 6 = .ok (.ireturn, 1) := allD_get dtX7_read 3 rfl
theorem dX7_read_7 : decode cX7_read 7 = .ok (.iload_n 1, 1) := allD_get dtX7_read 4 rfl
theorem dX7_read_8 : decode cX7_read 8 = .ok (.aload_n 0, 1) := allD_get dtX7_read 5 rfl
theorem dX7_read_9 : decode cX7_read 9 = .ok (.getfield 26, 3) := allD_get dtX7_read 6 rfl
theorem dX7_read_12 : decode cX7_read 12 = .ok (.getfield 107, 3) := allD_get dtX7_read 7 rfl
theorem dX7_read_15 : decode cX7_read 15 = .ok (.if_icmp .lt 6, 3) := allD_get dtX7_read 8 rfl
theorem dX7_read_18 : decode cX7_read 18 = .ok (.bipush (-5), 2) := allD_get dtX7_read 9 rfl
theorem dX7_read_20 : decode cX7_read 20 = .ok (.ireturn, 1) := allD_get dtX7_read 10 rfl
theorem dX7_read_21 : decode cX7_read 21 = .ok (.aload_n 0, 1) := allD_get dtX7_read 11 rfl
theorem dX7_read_22 : decode cX7_read 22 = .ok (.invokevirtual 196, 3) := allD_get dtX7_read 12 rfl
theorem dX7_read_25 : decode cX7_read 25 = .ok (.aload_n 0, 1) := allD_get dtX7_read 13 rfl
theorem dX7_read_26 : decode cX7_read 26 = .ok (.getfield 53, 3) := allD_get dtX7_read 14 rfl
theorem dX7_read_29 : decode cX7_read 29 = .ok (.getfield 209, 3) := allD_get dtX7_read 15 rfl
theorem dX7_read_32 : decode cX7_read 32 = .ok (.iload_n 1, 1) := allD_get dtX7_read 16 rfl
theorem dX7_read_33 : decode cX7_read 33 = .ok (.iaload, 1) := allD_get dtX7_read 17 rfl
theorem dX7_read_34 : decode cX7_read 34 = .ok (.ireturn, 1) := allD_get dtX7_read 18 rfl
def tbX7_line : List (Nat × Instr × Nat) := [(0, .aload_n 0, 1), (1, .invokevirtual 196, 3), (4, .iload_n 1, 1), (5, .iconst 0, 1), (6, .aload_n 0, 1), (7, .getfield 46, 3), (10, .getfield 212, 3), (13, .iconst 1, 1), (14, .isub, 1), (15, .invokestatic 110, 3), (18, .ifCond .ne 5, 3), (21, .iconst (-1), 1), (22, .ireturn, 1), (23, .iload_n 2, 1), (24, .tableswitch 86 0 4 #[36, 46, 56, 66, 76], 36), (60, .aload_n 0, 1), (61, .getfield 46, 3), (64, .getfield 215, 3), (67, .iload_n 1, 1), (68, .iaload, 1), (69, .ireturn, 1), (70, .aload_n 0, 1), (71, .getfield 46, 3), (74, .getfield 218, 3), (77, .iload_n 1, 1), (78, .iaload, 1), (79, .ireturn, 1), (80, .aload_n 0, 1), (81, .getfield 46, 3), (84, .getfield 221, 3), (87, .iload_n 1, 1), (88, .iaload, 1), (89, .ireturn, 1), (90, .aload_n 0, 1), (91, .getfield 53, 3), (94, .getfield 224, 3), (97, .iload_n 1, 1), (98, .iaload, 1), (99, .ireturn, 1), (100, .aload_n 0, 1), (101, .getfield 53, 3), (104, .getfield 227, 3), (107, .iload_n 1, 1), (108, .iaload, 1), (109, .ireturn, 1), (110, .bipush (-2), 2), (112, .ireturn, 1)]
set_option maxRecDepth 100000 in
theorem dtX7_line : allD cX7_line tbX7_line = true := by decide +kernel
theorem dX7_line_0 : decode cX7_line 0 = .ok (.aload_n 0, 1) := allD_get dtX7_line 0 rfl
theorem dX7_line_1 : decode cX7_line 1 = .ok (.invokevirtual 196, 3) := allD_get dtX7_line 1 rfl
theorem dX7_line_4 : decode cX7_line 4 = .ok (.iload_n 1, 1) := allD_get dtX7_line 2 rfl
theorem dX7_line_5 : decode cX7_line 5 = .ok (.iconst 0, 1) := allD_get dtX7_line 3 rfl
theorem dX7_line_6 : decode cX7_line 6 = .ok (.aload_n 0, 1) := allD_get dtX7_line 4 rfl
theorem dX7_line_7 : decode cX7_line 7 = .ok (.getfield 46, 3) := allD_get dtX7_line 5 rfl
theorem dX7_line_10 : decode cX7_line 10 = .ok (.getfield 212, 3) := allD_get dtX7_line 6 rfl
theorem dX7_line_13 : decode cX7_line 13 = .ok (.iconst 1, 1) := allD_get dtX7_line 7 rfl
theorem dX7_line_14 : decode cX7_line 14 = .ok (.isub, 1) := allD_get dtX7_line 8 rfl
theorem dX7_line_15 : decode cX7_line 15 = .ok (.invokestatic 110, 3) := allD_get dtX7_line 9 rfl
theorem dX7_line_18 : decode cX7_line 18 = .ok (.ifCond .ne 5, 3) := allD_get dtX7_line 10 rfl
theorem dX7_line_21 : decode cX7_line 21 = .ok (.iconst (-1), 1) := allD_get dtX7_line 11 rfl
theorem dX7_line_22 : decode cX7_line 22 = .ok (.ireturn, 1) := allD_get dtX7_line 12 rfl
theorem dX7_line_23 : decode cX7_line 23 = .ok (.iload_n 2, 1) := allD_get dtX7_line 13 rfl
theorem dX7_line_24 : decode cX7_line 24 = .ok (.tableswitch 86 0 4 #[36, 46, 56, 66, 76], 36) := allD_get dtX7_line 14 rfl
theorem dX7_line_60 : decode cX7_line 60 = .ok (.aload_n 0, 1) := allD_get dtX7_line 15 rfl
theorem dX7_line_61 : decode cX7_line 61 = .ok (.getfield 46, 3) := allD_get dtX7_line 16 rfl
theorem dX7_line_64 : decode cX7_line 64 = .ok (.getfield 215, 3) := allD_get dtX7_line 17 rfl
theorem dX7_line_67 : decode cX7_line 67 = .ok (.iload_n 1, 1) := allD_get dtX7_line 18 rfl
theorem dX7_line_68 : decode cX7_line 68 = .ok (.iaload, 1) := allD_get dtX7_line 19 rfl
theorem dX7_line_69 : decode cX7_line 69 = .ok (.ireturn, 1) := allD_get dtX7_line 20 rfl
theorem dX7_line_70 : decode cX7_line 70 = .ok (.aload_n 0, 1) := allD_get dtX7_line 21 rfl
theorem dX7_line_71 : decode cX7_line 71 = .ok (.getfield 46, 3) := allD_get dtX7_line 22 rfl
theorem dX7_line_74 : decode cX7_line 74 = .ok (.getfield 218, 3) := allD_get dtX7_line 23 rfl
theorem dX7_line_77 : decode cX7_line 77 = .ok (.iload_n 1, 1) := allD_get dtX7_line 24 rfl
theorem dX7_line_78 : decode cX7_line 78 = .ok (.iaload, 1) := allD_get dtX7_line 25 rfl
theorem dX7_line_79 : decode cX7_line 79 = .ok (.ireturn, 1) := allD_get dtX7_line 26 rfl
theorem dX7_line_80 : decode cX7_line 80 = .ok (.aload_n 0, 1) := allD_get dtX7_line 27 rfl
theorem dX7_line_81 : decode cX7_line 81 = .ok (.getfield 46, 3) := allD_get dtX7_line 28 rfl
theorem dX7_line_84 : decode cX7_line 84 = .ok (.getfield 221, 3) := allD_get dtX7_line 29 rfl
theorem dX7_line_87 : decode cX7_line 87 = .ok (.iload_n 1, 1) := allD_get dtX7_line 30 rfl
theorem dX7_line_88 : decode cX7_line 88 = .ok (.iaload, 1) := allD_get dtX7_line 31 rfl
theorem dX7_line_89 : decode cX7_line 89 = .ok (.ireturn, 1) := allD_get dtX7_line 32 rfl
theorem dX7_line_90 : decode cX7_line 90 = .ok (.aload_n 0, 1) := allD_get dtX7_line 33 rfl
theorem dX7_line_91 : decode cX7_line 91 = .ok (.getfield 53, 3) := allD_get dtX7_line 34 rfl
theorem dX7_line_94 : decode cX7_line 94 = .ok (.getfield 224, 3) := allD_get dtX7_line 35 rfl
theorem dX7_line_97 : decode cX7_line 97 = .ok (.iload_n 1, 1) := allD_get dtX7_line 36 rfl
theorem dX7_line_98 : decode cX7_line 98 = .ok (.iaload, 1) := allD_get dtX7_line 37 rfl
theorem dX7_line_99 : decode cX7_line 99 = .ok (.ireturn, 1) := allD_get dtX7_line 38 rfl
theorem dX7_line_100 : decode cX7_line 100 = .ok (.aload_n 0, 1) := allD_get dtX7_line 39 rfl
theorem dX7_line_101 : decode cX7_line 101 = .ok (.getfield 53, 3) := allD_get dtX7_line 40 rfl
theorem dX7_line_104 : decode cX7_line 104 = .ok (.getfield 227, 3) := allD_get dtX7_line 41 rfl
theorem dX7_line_107 : decode cX7_line 107 = .ok (.iload_n 1, 1) := allD_get dtX7_line 42 rfl
theorem dX7_line_108 : decode cX7_line 108 = .ok (.iaload, 1) := allD_get dtX7_line 43 rfl
theorem dX7_line_109 : decode cX7_line 109 = .ok (.ireturn, 1) := allD_get dtX7_line 44 rfl
theorem dX7_line_110 : decode cX7_line 110 = .ok (.bipush (-2), 2) := allD_get dtX7_line 45 rfl
theorem dX7_line_112 : decode cX7_line 112 = .ok (.ireturn, 1) := allD_get dtX7_line 46 rfl
def tbX7_word : List (Nat × Instr × Nat) := [(0, .aload_n 0, 1), (1, .invokevirtual 196, 3), (4, .iload_n 1, 1), (5, .iconst 0, 1), (6, .aload_n 0, 1), (7, .getfield 53, 3), (10, .getfield 230, 3), (13, .iconst 1, 1), (14, .isub, 1), (15, .invokestatic 110, 3), (18, .ifCond .ne 5, 3), (21, .iconst (-1), 1), (22, .ireturn, 1), (23, .iload_n 2, 1), (24, .tableswitch 86 0 4 #[36, 46, 56, 66, 76], 36), (60, .aload_n 0, 1), (61, .getfield 53, 3), (64, .getfield 231, 3), (67, .iload_n 1, 1), (68, .iaload, 1), (69, .ireturn, 1), (70, .aload_n 0, 1), (71, .getfield 53, 3), (74, .getfield 233, 3), (77, .iload_n 1, 1), (78, .iaload, 1), (79, .ireturn, 1), (80, .aload_n 0, 1), (81, .getfield 53, 3), (84, .getfield 234, 3), (87, .iload_n 1, 1), (88, .iaload, 1), (89, .ireturn, 1), (90, .aload_n 0, 1), (91, .getfield 53, 3), (94, .getfield 237, 3), (97, .iload_n 1, 1), (98, .iaload, 1), (99, .ireturn, 1), (100, .aload_n 0, 1), (101, .getfield 53, 3), (104, .getfield 240, 3), (107, .iload_n 1, 1), (108, .iaload, 1), (109, .ireturn, 1), (110, .bipush (-2), 2), (112, .ireturn, 1)]
set_option maxRecDepth 100000 in
theorem dtX7_word : allD cX7_word tbX7_word = true := by decide +kernel
theorem dX7_word_0 : decode cX7_word 0 = .ok (.aload_n 0, 1) := allD_get dtX7_word 0 rfl
theorem dX7_word_1 : decode cX7_word 1 = .ok (.invokevirtual 196, 3) := allD_get dtX7_word 1 rfl
theorem dX7_word_4 : decode cX7_word 4 = .ok (.iload_n 1, 1) := allD_get dtX7_word 2 rfl
theorem dX7_word_5 : decode cX7_word 5 = .ok (.iconst 0, 1) := allD_get dtX7_word 3 rfl
theorem dX7_word_6 : decode cX7_word 6 = .ok (.aload_n 0, 1) := allD_get dtX7_word 4 rfl
theorem dX7_word_7 : decode cX7_word 7 = .ok (.getfield 53, 3) := allD_get dtX7_word 5 rfl
theorem dX7_word_10 : decode cX7_word 10 = .ok (.getfield 230, 3) := allD_get dtX7_word 6 rfl
theorem dX7_word_13 : decode cX7_word 13 = .ok (.iconst 1, 1) := allD_get dtX7_word 7 rfl
theorem dX7_word_14 : decode cX7_word 14 = .ok (.isub, 1) := allD_get dtX7_word 8 rfl
theorem dX7_word_15 : decode cX7_word 15 = .ok (.invokestatic 110, 3) := allD_get dtX7_word 9 rfl
theorem dX7_word_18 : decode cX7_word 18 = .ok (.ifCond .ne 5, 3) := allD_get dtX7_word 10 rfl
theorem dX7_word_21 : decode cX7_word 21 = .ok (.iconst (-1), 1) := allD_get dtX7_word 11 rfl
theorem dX7_word_22 : decode cX7_word 22 = .ok (.ireturn, 1) := allD_get dtX7_word 12 rfl
theorem dX7_word_23 : decode cX7_word 23 = .ok (.iload_n 2, 1) := allD_get dtX7_word 13 rfl
theorem dX7_word_24 : decode cX7_word 24 = .ok (.tableswitch 86 0 4 #[36, 46, 56, 66, 76], 36) := allD_get dtX7_word 14 rfl
theorem dX7_word_60 : decode cX7_word 60 = .ok (.aload_n 0, 1) := allD_get dtX7_word 15 rfl
theorem dX7_word_61 : decode cX7_word 61 = .ok (.getfield 53, 3) := allD_get dtX7_word 16 rfl
theorem dX7_word_64 : decode cX7_word 64 = .ok (.getfield 231, 3) := allD_get dtX7_word 17 rfl
theorem dX7_word_67 : decode cX7_word 67 = .ok (.iload_n 1, 1) := allD_get dtX7_word 18 rfl
theorem dX7_word_68 : decode cX7_word 68 = .ok (.iaload, 1) := allD_get dtX7_word 19 rfl
theorem dX7_word_69 : decode cX7_word 69 = .ok (.ireturn, 1) := allD_get dtX7_word 20 rfl
theorem dX7_word_70 : decode cX7_word 70 = .ok (.aload_n 0, 1) := allD_get dtX7_word 21 rfl
theorem dX7_word_71 : decode cX7_word 71 = .ok (.getfield 53, 3) := allD_get dtX7_word 22 rfl
theorem dX7_word_74 : decode cX7_word 74 = .ok (.getfield 233, 3) := allD_get dtX7_word 23 rfl
theorem dX7_word_77 : decode cX7_word 77 = .ok (.iload_n 1, 1) := allD_get dtX7_word 24 rfl
theorem dX7_word_78 : decode cX7_word 78 = .ok (.iaload, 1) := allD_get dtX7_word 25 rfl
theorem dX7_word_79 : decode cX7_word 79 = .ok (.ireturn, 1) := allD_get dtX7_word 26 rfl
theorem dX7_word_80 : decode cX7_word 80 = .ok (.aload_n 0, 1) := allD_get dtX7_word 27 rfl
theorem dX7_word_81 : decode cX7_word 81 = .ok (.getfield 53, 3) := allD_get dtX7_word 28 rfl
theorem dX7_word_84 : decode cX7_word 84 = .ok (.getfield 234, 3) := allD_get dtX7_word 29 rfl
theorem dX7_word_87 : decode cX7_word 87 = .ok (.iload_n 1, 1) := allD_get dtX7_word 30 rfl
theorem dX7_word_88 : decode cX7_word 88 = .ok (.iaload, 1) := allD_get dtX7_word 31 rfl
theorem dX7_word_89 : decode cX7_word 89 = .ok (.ireturn, 1) := allD_get dtX7_word 32 rfl
theorem dX7_word_90 : decode cX7_word 90 = .ok (.aload_n 0, 1) := allD_get dtX7_word 33 rfl
theorem dX7_word_91 : decode cX7_word 91 = .ok (.getfield 53, 3) := allD_get dtX7_word 34 rfl
theorem dX7_word_94 : decode cX7_word 94 = .ok (.getfield 237, 3) := allD_get dtX7_word 35 rfl
theorem dX7_word_97 : decode cX7_word 97 = .ok (.iload_n 1, 1) := allD_get dtX7_word 36 rfl
theorem dX7_word_98 : decode cX7_word 98 = .ok (.iaload, 1) := allD_get dtX7_word 37 rfl
theorem dX7_word_99 : decode cX7_word 99 = .ok (.ireturn, 1) := allD_get dtX7_word 38 rfl
theorem dX7_word_100 : decode cX7_word 100 = .ok (.aload_n 0, 1) := allD_get dtX7_word 39 rfl
theorem dX7_word_101 : decode cX7_word 101 = .ok (.getfield 53, 3) := allD_get dtX7_word 40 rfl
theorem dX7_word_104 : decode cX7_word 104 = .ok (.getfield 240, 3) := allD_get dtX7_word 41 rfl
theorem dX7_word_107 : decode cX7_word 107 = .ok (.iload_n 1, 1) := allD_get dtX7_word 42 rfl
theorem dX7_word_108 : decode cX7_word 108 = .ok (.iaload, 1) := allD_get dtX7_word 43 rfl
theorem dX7_word_109 : decode cX7_word 109 = .ok (.ireturn, 1) := allD_get dtX7_word 44 rfl
theorem dX7_word_110 : decode cX7_word 110 = .ok (.bipush (-2), 2) := allD_get dtX7_word 45 rfl
theorem dX7_word_112 : decode cX7_word 112 = .ok (.ireturn, 1) := allD_get dtX7_word 46 rfl
def tbX7_setGap : List (Nat × Instr × Nat) := [(0, .iload_n 1, 1), (1, .iconst 0, 1), (2, .sipush 500, 3), (5, .invokestatic 110, 3), (8, .ifCond .ne 6, 3), (11, .bipush (-2), 2), (13, .ireturn, 1), (14, .aload_n 0, 1), (15, .getfield 64, 3), (18, .istore_n 2, 1), (19, .aload_n 0, 1), (20, .iload_n 1, 1), (21, .putfield 64, 3), (24, .iload_n 2, 1), (25, .ireturn, 1)]
set_option maxRecDepth 100000 in
theorem dtX7_setGap : allD cX7_setGap tbX7_setGap = true := by decide +kernel
theorem dX7_setGap_0 : decode cX7_setGap 0 = .ok (.iload_n 1, 1) := allD_get dtX7_setGap 0 rfl
theorem dX7_setGap_1 : decode cX7_setGap 1 = .ok (.iconst 0, 1) := allD_get dtX7_setGap 1 rfl
theorem dX7_setGap_2 : decode cX7_setGap 2 = .ok (.sipush 500, 3) := allD_get dtX7_setGap 2 rfl
theorem dX7_setGap_5 : decode cX7_setGap 5 = .ok (.invokestatic 110, 3) := allD_get dtX7_setGap 3 rfl
theorem dX7_setGap_8 : decode cX7_setGap 8 = .ok (.ifCond .ne 6, 3) := allD_get dtX7_setGap 4 rfl
theorem dX7_setGap_11 : decode cX7_setGap 11 = .ok (.bipush (-2), 2) := allD_get dtX7_setGap 5 rfl
theorem dX7_setGap_13 : decode cX7_setGap 13 = .ok (.ireturn, 1) := allD_get dtX7_setGap 6 rfl
theorem dX7_setGap_14 : decode cX7_setGap 14 = .ok (.aload_n 0, 1) := allD_get dtX7_setGap 7 rfl
theorem dX7_setGap_15 : decode cX7_setGap 15 = .ok (.getfield 64, 3) := allD_get dtX7_setGap 8 rfl
theorem dX7_setGap_18 : decode cX7_setGap 18 = .ok (.istore_n 2, 1) := allD_get dtX7_setGap 9 rfl
theorem dX7_setGap_19 : decode cX7_setGap 19 = .ok (.aload_n 0, 1) := allD_get dtX7_setGap 10 rfl
theorem dX7_setGap_20 : decode cX7_setGap 20 = .ok (.iload_n 1, 1) := allD_get dtX7_setGap 11 rfl
theorem dX7_setGap_21 : decode cX7_setGap 21 = .ok (.putfield 64, 3) := allD_get dtX7_setGap 12 rfl
theorem dX7_setGap_24 : decode cX7_setGap 24 = .ok (.iload_n 2, 1) := allD_get dtX7_setGap 13 rfl
theorem dX7_setGap_25 : decode cX7_setGap 25 = .ok (.ireturn, 1) := allD_get dtX7_setGap 14 rfl
def tbX7_nearest : List (Nat × Instr × Nat) := [(0, .iload_n 1, 1), (1, .invokestatic 68, 3), (4, .ifCond .eq 10, 3), (7, .iload_n 2, 1), (8, .invokestatic 68, 3), (11, .ifCond .ne 6, 3), (14, .bipush (-2), 2), (16, .ireturn, 1), (17, .bipush (-5), 2), (19, .istore_n 3, 1), (20, .iconst 0, 1), (21, .istore 4, 2), (23, .iconst 0, 1), (24, .istore 5, 2), (26, .iload 5, 2), (28, .aload_n 0, 1), (29, .getfield 26, 3), (32, .getfield 107, 3), (35, .if_icmp .ge 83, 3), (38, .iconst 0, 1), (39, .istore 6, 2), (41, .iload 6, 2), (43, .aload_n 0, 1), (44, .getfield 26, 3), (47, .iload 5, 2), (49, .invokevirtual 115, 3), (52, .if_icmp .ge 60, 3), (55, .aload_n 0, 1), (56, .getfield 26, 3), (59, .iload 5, 2), (61, .iload 6, 2), (63, .invokevirtual 118, 3), (66, .iload_n 1, 1), (67, .isub, 1), (68, .aload_n 0, 1), (69, .getfield 26, 3), (72, .iload 5, 2), (74, .iload 6, 2), (76, .invokevirtual 122, 3), (79, .iload_n 2, 1), (80, .isub, 1), (81, .invokestatic 125, 3), (84, .istore 7, 2), (86, .iload_n 3, 1), (87, .bipush (-5), 2), (89, .if_icmp .eq 10, 3), (92, .iload 7, 2), (94, .iload 4, 2), (96, .if_icmp .ge 10, 3), (99, .iload 5, 2), (101, .istore_n 3, 1), (102, .iload 7, 2), (104, .istore 4, 2), (106, .iinc 6 1, 3), (109, .goto (-68), 3), (112, .iinc 5 1, 3), (115, .goto (-89), 3), (118, .iload_n 3, 1), (119, .ireturn, 1)]
set_option maxRecDepth 100000 in
theorem dtX7_nearest : allD cX7_nearest tbX7_nearest = true := by decide +kernel
theorem dX7_nearest_0 : decode cX7_nearest 0 = .ok (.iload_n 1, 1) := allD_get dtX7_nearest 0 rfl
theorem dX7_nearest_1 : decode cX7_nearest 1 = .ok (.invokestatic 68, 3) := allD_get dtX7_nearest 1 rfl
theorem dX7_nearest_4 : decode cX7_nearest 4 = .ok (.ifCond .eq 10, 3) := allD_get dtX7_nearest 2 rfl
theorem dX7_nearest_7 : decode cX7_nearest 7 = .ok (.iload_n 2, 1) := allD_get dtX7_nearest 3 rfl
theorem dX7_nearest_8 : decode cX7_nearest 8 = .ok (.invokestatic 68, 3) := allD_get dtX7_nearest 4 rfl
theorem dX7_nearest_11 : decode cX7_nearest 11 = .ok (.ifCond .ne 6, 3) := allD_get dtX7_nearest 5 rfl
theorem dX7_nearest_14 : decode cX7_nearest 14 = .ok (.bipush (-2), 2) := allD_get dtX7_nearest 6 rfl
theorem dX7_nearest_16 : decode cX7_nearest 16 = .ok (.ireturn, 1) := allD_get dtX7_nearest 7 rfl
theorem dX7_nearest_17 : decode cX7_nearest 17 = .ok (.bipush (-5), 2) := allD_get dtX7_nearest 8 rfl
theorem dX7_nearest_19 : decode cX7_nearest 19 = .ok (.istore_n 3, 1) := allD_get dtX7_nearest 9 rfl
theorem dX7_nearest_20 : decode cX7_nearest 20 = .ok (.iconst 0, 1) := allD_get dtX7_nearest 10 rfl
theorem dX7_nearest_21 : decode cX7_nearest 21 = .ok (.istore 4, 2) := allD_get dtX7_nearest 11 rfl
theorem dX7_nearest_23 : decode cX7_nearest 23 = .ok (.iconst 0, 1) := allD_get dtX7_nearest 12 rfl
theorem dX7_nearest_24 : decode cX7_nearest 24 = .ok (.istore 5, 2) := allD_get dtX7_nearest 13 rfl
theorem dX7_nearest_26 : decode cX7_nearest 26 = .ok (.iload 5, 2) := allD_get dtX7_nearest 14 rfl
theorem dX7_nearest_28 : decode cX7_nearest 28 = .ok (.aload_n 0, 1) := allD_get dtX7_nearest 15 rfl
theorem dX7_nearest_29 : decode cX7_nearest 29 = .ok (.getfield 26, 3) := allD_get dtX7_nearest 16 rfl
theorem dX7_nearest_32 : decode cX7_nearest 32 = .ok (.getfield 107, 3) := allD_get dtX7_nearest 17 rfl
theorem dX7_nearest_35 : decode cX7_nearest 35 = .ok (.if_icmp .ge 83, 3) := allD_get dtX7_nearest 18 rfl
theorem dX7_nearest_38 : decode cX7_nearest 38 = .ok (.iconst 0, 1) := allD_get dtX7_nearest 19 rfl
theorem dX7_nearest_39 : decode cX7_nearest 39 = .ok (.istore 6, 2) := allD_get dtX7_nearest 20 rfl
theorem dX7_nearest_41 : decode cX7_nearest 41 = .ok (.iload 6, 2) := allD_get dtX7_nearest 21 rfl
theorem dX7_nearest_43 : decode cX7_nearest 43 = .ok (.aload_n 0, 1) := allD_get dtX7_nearest 22 rfl
theorem dX7_nearest_44 : decode cX7_nearest 44 = .ok (.getfield 26, 3) := allD_get dtX7_nearest 23 rfl
theorem dX7_nearest_47 : decode cX7_nearest 47 = .ok (.iload 5, 2) := allD_get dtX7_nearest 24 rfl
theorem dX7_nearest_49 : decode cX7_nearest 49 = .ok (.invokevirtual 115, 3) := allD_get dtX7_nearest 25 rfl
theorem dX7_nearest_52 : decode cX7_nearest 52 = .ok (.if_icmp .ge 60, 3) := allD_get dtX7_nearest 26 rfl
theorem dX7_nearest_55 : decode cX7_nearest 55 = .ok (.aload_n 0, 1) := allD_get dtX7_nearest 27 rfl
theorem dX7_nearest_56 : decode cX7_nearest 56 = .ok (.getfield 26, 3) := allD_get dtX7_nearest 28 rfl
theorem dX7_nearest_59 : decode cX7_nearest 59 = .ok (.iload 5, 2) := allD_get dtX7_nearest 29 rfl
theorem dX7_nearest_61 : decode cX7_nearest 61 = .ok (.iload 6, 2) := allD_get dtX7_nearest 30 rfl
theorem dX7_nearest_63 : decode cX7_nearest 63 = .ok (.invokevirtual 118, 3) := allD_get dtX7_nearest 31 rfl
theorem dX7_nearest_66 : decode cX7_nearest 66 = .ok (.iload_n 1, 1) := allD_get dtX7_nearest 32 rfl
theorem dX7_nearest_67 : decode cX7_nearest 67 = .ok (.isub, 1) := allD_get dtX7_nearest 33 rfl
theorem dX7_nearest_68 : decode cX7_nearest 68 = .ok (.aload_n 0, 1) := allD_get dtX7_nearest 34 rfl
theorem dX7_nearest_69 : decode cX7_nearest 69 = .ok (.getfield 26, 3) := allD_get dtX7_nearest 35 rfl
theorem dX7_nearest_72 : decode cX7_nearest 72 = .ok (.iload 5, 2) := allD_get dtX7_nearest 36 rfl
theorem dX7_nearest_74 : decode cX7_nearest 74 = .ok (.iload 6, 2) := allD_get dtX7_nearest 37 rfl
theorem dX7_nearest_76 : decode cX7_nearest 76 = .ok (.invokevirtual 122, 3) := allD_get dtX7_nearest 38 rfl
theorem dX7_nearest_79 : decode cX7_nearest 79 = .ok (.iload_n 2, 1) := allD_get dtX7_nearest 39 rfl
theorem dX7_nearest_80 : decode cX7_nearest 80 = .ok (.isub, 1) := allD_get dtX7_nearest 40 rfl
theorem dX7_nearest_81 : decode cX7_nearest 81 = .ok (.invokestatic 125, 3) := allD_get dtX7_nearest 41 rfl
theorem dX7_nearest_84 : decode cX7_nearest 84 = .ok (.istore 7, 2) := allD_get dtX7_nearest 42 rfl
theorem dX7_nearest_86 : decode cX7_nearest 86 = .ok (.iload_n 3, 1) := allD_get dtX7_nearest 43 rfl
theorem dX7_nearest_87 : decode cX7_nearest 87 = .ok (.bipush (-5), 2) := allD_get dtX7_nearest 44 rfl
theorem dX7_nearest_89 : decode cX7_nearest 89 = .ok (.if_icmp .eq 10, 3) := allD_get dtX7_nearest 45 rfl
theorem dX7_nearest_92 : decode cX7_nearest 92 = .ok (.iload 7, 2) := allD_get dtX7_nearest 46 rfl
theorem dX7_nearest_94 : decode cX7_nearest 94 = .ok (.iload 4, 2) := allD_get dtX7_nearest 47 rfl
theorem dX7_nearest_96 : decode cX7_nearest 96 = .ok (.if_icmp .ge 10, 3) := allD_get dtX7_nearest 48 rfl
theorem dX7_nearest_99 : decode cX7_nearest 99 = .ok (.iload 5, 2) := allD_get dtX7_nearest 49 rfl
theorem dX7_nearest_101 : decode cX7_nearest 101 = .ok (.istore_n 3, 1) := allD_get dtX7_nearest 50 rfl
theorem dX7_nearest_102 : decode cX7_nearest 102 = .ok (.iload 7, 2) := allD_get dtX7_nearest 51 rfl
theorem dX7_nearest_104 : decode cX7_nearest 104 = .ok (.istore 4, 2) := allD_get dtX7_nearest 52 rfl
theorem dX7_nearest_106 : decode cX7_nearest 106 = .ok (.iinc 6 1, 3) := allD_get dtX7_nearest 53 rfl
theorem dX7_nearest_109 : decode cX7_nearest 109 = .ok (.goto (-68), 3) := allD_get dtX7_nearest 54 rfl
theorem dX7_nearest_112 : decode cX7_nearest 112 = .ok (.iinc 5 1, 3) := allD_get dtX7_nearest 55 rfl
theorem dX7_nearest_115 : decode cX7_nearest 115 = .ok (.goto (-89), 3) := allD_get dtX7_nearest 56 rfl
theorem dX7_nearest_118 : decode cX7_nearest 118 = .ok (.iload_n 3, 1) := allD_get dtX7_nearest 57 rfl
theorem dX7_nearest_119 : decode cX7_nearest 119 = .ok (.ireturn, 1) := allD_get dtX7_nearest 58 rfl
def tbX7_cell : List (Nat × Instr × Nat) := [(0, .iload_n 1, 1), (1, .invokestatic 68, 3), (4, .ifCond .eq 10, 3), (7, .iload_n 2, 1), (8, .invokestatic 68, 3), (11, .ifCond .ne 6, 3), (14, .bipush (-2), 2), (16, .ireturn, 1), (17, .iload_n 1, 1), (18, .iload_n 2, 1), (19, .invokestatic 243, 3), (22, .istore_n 3, 1), (23, .iconst 0, 1), (24, .istore 4, 2), (26, .iconst 0, 1), (27, .istore 5, 2), (29, .iload 5, 2), (31, .aload_n 0, 1), (32, .getfield 26, 3), (35, .getfield 107, 3), (38, .if_icmp .ge 64, 3), (41, .iconst 0, 1), (42, .istore 6, 2), (44, .iload 6, 2), (46, .aload_n 0, 1), (47, .getfield 26, 3), (50, .iload 5, 2), (52, .invokevirtual 115, 3), (55, .if_icmp .ge 41, 3), (58, .aload_n 0, 1), (59, .getfield 26, 3), (62, .iload 5, 2), (64, .iload 6, 2), (66, .invokevirtual 118, 3), (69, .aload_n 0, 1), (70, .getfield 26, 3), (73, .iload 5, 2), (75, .iload 6, 2), (77, .invokevirtual 122, 3), (80, .invokestatic 243, 3), (83, .iload_n 3, 1), (84, .if_icmp .ne 6, 3), (87, .iinc 4 1, 3), (90, .iinc 6 1, 3), (93, .goto (-49), 3), (96, .iinc 5 1, 3), (99, .goto (-70), 3), (102, .iload 4, 2), (104, .ireturn, 1)]
set_option maxRecDepth 100000 in
theorem dtX7_cell : allD cX7_cell tbX7_cell = true := by decide +kernel
theorem dX7_cell_0 : decode cX7_cell 0 = .ok (.iload_n 1, 1) := allD_get dtX7_cell 0 rfl
theorem dX7_cell_1 : decode cX7_cell 1 = .ok (.invokestatic 68, 3) := allD_get dtX7_cell 1 rfl
theorem dX7_cell_4 : decode cX7_cell 4 = .ok (.ifCond .eq 10, 3) := allD_get dtX7_cell 2 rfl
theorem dX7_cell_7 : decode cX7_cell 7 = .ok (.iload_n 2, 1) := allD_get dtX7_cell 3 rfl
theorem dX7_cell_8 : decode cX7_cell 8 = .ok (.invokestatic 68, 3) := allD_get dtX7_cell 4 rfl
theorem dX7_cell_11 : decode cX7_cell 11 = .ok (.ifCond .ne 6, 3) := allD_get dtX7_cell 5 rfl
theorem dX7_cell_14 : decode cX7_cell 14 = .ok (.bipush (-2), 2) := allD_get dtX7_cell 6 rfl
theorem dX7_cell_16 : decode cX7_cell 16 = .ok (.ireturn, 1) := allD_get dtX7_cell 7 rfl
theorem dX7_cell_17 : decode cX7_cell 17 = .ok (.iload_n 1, 1) := allD_get dtX7_cell 8 rfl
theorem dX7_cell_18 : decode cX7_cell 18 = .ok (.iload_n 2, 1) := allD_get dtX7_cell 9 rfl
theorem dX7_cell_19 : decode cX7_cell 19 = .ok (.invokestatic 243, 3) := allD_get dtX7_cell 10 rfl
theorem dX7_cell_22 : decode cX7_cell 22 = .ok (.istore_n 3, 1) := allD_get dtX7_cell 11 rfl
theorem dX7_cell_23 : decode cX7_cell 23 = .ok (.iconst 0, 1) := allD_get dtX7_cell 12 rfl
theorem dX7_cell_24 : decode cX7_cell 24 = .ok (.istore 4, 2) := allD_get dtX7_cell 13 rfl
theorem dX7_cell_26 : decode cX7_cell 26 = .ok (.iconst 0, 1) := allD_get dtX7_cell 14 rfl
theorem dX7_cell_27 : decode cX7_cell 27 = .ok (.istore 5, 2) := allD_get dtX7_cell 15 rfl
theorem dX7_cell_29 : decode cX7_cell 29 = .ok (.iload 5, 2) := allD_get dtX7_cell 16 rfl
theorem dX7_cell_31 : decode cX7_cell 31 = .ok (.aload_n 0, 1) := allD_get dtX7_cell 17 rfl
theorem dX7_cell_32 : decode cX7_cell 32 = .ok (.getfield 26, 3) := allD_get dtX7_cell 18 rfl
theorem dX7_cell_35 : decode cX7_cell 35 = .ok (.getfield 107, 3) := allD_get dtX7_cell 19 rfl
theorem dX7_cell_38 : decode cX7_cell 38 = .ok (.if_icmp .ge 64, 3) := allD_get dtX7_cell 20 rfl
theorem dX7_cell_41 : decode cX7_cell 41 = .ok (.iconst 0, 1) := allD_get dtX7_cell 21 rfl
theorem dX7_cell_42 : decode cX7_cell 42 = .ok (.istore 6, 2) := allD_get dtX7_cell 22 rfl
theorem dX7_cell_44 : decode cX7_cell 44 = .ok (.iload 6, 2) := allD_get dtX7_cell 23 rfl
theorem dX7_cell_46 : decode cX7_cell 46 = .ok (.aload_n 0, 1) := allD_get dtX7_cell 24 rfl
theorem dX7_cell_47 : decode cX7_cell 47 = .ok (.getfield 26, 3) := allD_get dtX7_cell 25 rfl
theorem dX7_cell_50 : decode cX7_cell 50 = .ok (.iload 5, 2) := allD_get dtX7_cell 26 rfl
theorem dX7_cell_52 : decode cX7_cell 52 = .ok (.invokevirtual 115, 3) := allD_get dtX7_cell 27 rfl
theorem dX7_cell_55 : decode cX7_cell 55 = .ok (.if_icmp .ge 41, 3) := allD_get dtX7_cell 28 rfl
theorem dX7_cell_58 : decode cX7_cell 58 = .ok (.aload_n 0, 1) := allD_get dtX7_cell 29 rfl
theorem dX7_cell_59 : decode cX7_cell 59 = .ok (.getfield 26, 3) := allD_get dtX7_cell 30 rfl
theorem dX7_cell_62 : decode cX7_cell 62 = .ok (.iload 5, 2) := allD_get dtX7_cell 31 rfl
theorem dX7_cell_64 : decode cX7_cell 64 = .ok (.iload 6, 2) := allD_get dtX7_cell 32 rfl
theorem dX7_cell_66 : decode cX7_cell 66 = .ok (.invokevirtual 118, 3) := allD_get dtX7_cell 33 rfl
theorem dX7_cell_69 : decode cX7_cell 69 = .ok (.aload_n 0, 1) := allD_get dtX7_cell 34 rfl
theorem dX7_cell_70 : decode cX7_cell 70 = .ok (.getfield 26, 3) := allD_get dtX7_cell 35 rfl
theorem dX7_cell_73 : decode cX7_cell 73 = .ok (.iload 5, 2) := allD_get dtX7_cell 36 rfl
theorem dX7_cell_75 : decode cX7_cell 75 = .ok (.iload 6, 2) := allD_get dtX7_cell 37 rfl
theorem dX7_cell_77 : decode cX7_cell 77 = .ok (.invokevirtual 122, 3) := allD_get dtX7_cell 38 rfl
theorem dX7_cell_80 : decode cX7_cell 80 = .ok (.invokestatic 243, 3) := allD_get dtX7_cell 39 rfl
theorem dX7_cell_83 : decode cX7_cell 83 = .ok (.iload_n 3, 1) := allD_get dtX7_cell 40 rfl
theorem dX7_cell_84 : decode cX7_cell 84 = .ok (.if_icmp .ne 6, 3) := allD_get dtX7_cell 41 rfl
theorem dX7_cell_87 : decode cX7_cell 87 = .ok (.iinc 4 1, 3) := allD_get dtX7_cell 42 rfl
theorem dX7_cell_90 : decode cX7_cell 90 = .ok (.iinc 6 1, 3) := allD_get dtX7_cell 43 rfl
theorem dX7_cell_93 : decode cX7_cell 93 = .ok (.goto (-49), 3) := allD_get dtX7_cell 44 rfl
theorem dX7_cell_96 : decode cX7_cell 96 = .ok (.iinc 5 1, 3) := allD_get dtX7_cell 45 rfl
theorem dX7_cell_99 : decode cX7_cell 99 = .ok (.goto (-70), 3) := allD_get dtX7_cell 46 rfl
theorem dX7_cell_102 : decode cX7_cell 102 = .ok (.iload 4, 2) := allD_get dtX7_cell 47 rfl
theorem dX7_cell_104 : decode cX7_cell 104 = .ok (.ireturn, 1) := allD_get dtX7_cell 48 rfl
def tbX7_color : List (Nat × Instr × Nat) := [(0, .iload_n 1, 1), (1, .invokestatic 97, 3), (4, .ifCond .ne 6, 3), (7, .bipush (-2), 2), (9, .ireturn, 1), (10, .iload_n 2, 1), (11, .tableswitch 76 0 3 #[29, 38, 47, 56], 29), (40, .aload_n 0, 1), (41, .getfield 26, 3), (44, .iload_n 1, 1), (45, .invokevirtual 246, 3), (48, .ireturn, 1), (49, .aload_n 0, 1), (50, .getfield 26, 3), (53, .iload_n 1, 1), (54, .invokevirtual 249, 3), (57, .ireturn, 1), (58, .aload_n 0, 1), (59, .getfield 26, 3), (62, .iload_n 1, 1), (63, .invokevirtual 252, 3), (66, .ireturn, 1), (67, .aload_n 0, 1), (68, .getfield 60, 3), (71, .aload_n 0, 1), (72, .getfield 26, 3), (75, .iload_n 1, 1), (76, .invokevirtual 255, 3), (79, .aload_n 0, 1), (80, .getfield 60, 3), (83, .getfield 256, 3), (86, .ireturn, 1), (87, .bipush (-2), 2), (89, .ireturn, 1)]
set_option maxRecDepth 100000 in
theorem dtX7_color : allD cX7_color tbX7_color = true := by decide +kernel
theorem dX7_color_0 : decode cX7_color 0 = .ok (.iload_n 1, 1) := allD_get dtX7_color 0 rfl
theorem dX7_color_1 : decode cX7_color 1 = .ok (.invokestatic 97, 3) := allD_get dtX7_color 1 rfl
theorem dX7_color_4 : decode cX7_color 4 = .ok (.ifCond .ne 6, 3) := allD_get dtX7_color 2 rfl
theorem dX7_color_7 : decode cX7_color 7 = .ok (.bipush (-2), 2) := allD_get dtX7_color 3 rfl
theorem dX7_color_9 : decode cX7_color 9 = .ok (.ireturn, 1) := allD_get dtX7_color 4 rfl
theorem dX7_color_10 : decode cX7_color 10 = .ok (.iload_n 2, 1) := allD_get dtX7_color 5 rfl
theorem dX7_color_11 : decode cX7_color 11 = .ok (.tableswitch 76 0 3 #[29, 38, 47, 56], 29) := allD_get dtX7_color 6 rfl
theorem dX7_color_40 : decode cX7_color 40 = .ok (.aload_n 0, 1) := allD_get dtX7_color 7 rfl
theorem dX7_color_41 : decode cX7_color 41 = .ok (.getfield 26, 3) := allD_get dtX7_color 8 rfl
theorem dX7_color_44 : decode cX7_color 44 = .ok (.iload_n 1, 1) := allD_get dtX7_color 9 rfl
theorem dX7_color_45 : decode cX7_color 45 = .ok (.invokevirtual 246, 3) := allD_get dtX7_color 10 rfl
theorem dX7_color_48 : decode cX7_color 48 = .ok (.ireturn, 1) := allD_get dtX7_color 11 rfl
theorem dX7_color_49 : decode cX7_color 49 = .ok (.aload_n 0, 1) := allD_get dtX7_color 12 rfl
theorem dX7_color_50 : decode cX7_color 50 = .ok (.getfield 26, 3) := allD_get dtX7_color 13 rfl
theorem dX7_color_53 : decode cX7_color 53 = .ok (.iload_n 1, 1) := allD_get dtX7_color 14 rfl
theorem dX7_color_54 : decode cX7_color 54 = .ok (.invokevirtual 249, 3) := allD_get dtX7_color 15 rfl
theorem dX7_color_57 : decode cX7_color 57 = .ok (.ireturn, 1) := allD_get dtX7_color 16 rfl
theorem dX7_color_58 : decode cX7_color 58 = .ok (.aload_n 0, 1) := allD_get dtX7_color 17 rfl
theorem dX7_color_59 : decode cX7_color 59 = .ok (.getfield 26, 3) := allD_get dtX7_color 18 rfl
theorem dX7_color_62 : decode cX7_color 62 = .ok (.iload_n 1, 1) := allD_get dtX7_color 19 rfl
theorem dX7_color_63 : decode cX7_color 63 = .ok (.invokevirtual 252, 3) := allD_get dtX7_color 20 rfl
theorem dX7_color_66 : decode cX7_color 66 = .ok (.ireturn, 1) := allD_get dtX7_color 21 rfl
theorem dX7_color_67 : decode cX7_color 67 = .ok (.aload_n 0, 1) := allD_get dtX7_color 22 rfl
theorem dX7_color_68 : decode cX7_color 68 = .ok (.getfield 60, 3) := allD_get dtX7_color 23 rfl
theorem dX7_color_71 : decode cX7_color 71 = .ok (.aload_n 0, 1) := allD_get dtX7_color 24 rfl
theorem dX7_color_72 : decode cX7_color 72 = .ok (.getfield 26, 3) := allD_get dtX7_color 25 rfl
theorem dX7_color_75 : decode cX7_color 75 = .ok (.iload_n 1, 1) := allD_get dtX7_color 26 rfl
theorem dX7_color_76 : decode cX7_color 76 = .ok (.invokevirtual 255, 3) := allD_get dtX7_color 27 rfl
theorem dX7_color_79 : decode cX7_color 79 = .ok (.aload_n 0, 1) := allD_get dtX7_color 28 rfl
theorem dX7_color_80 : decode cX7_color 80 = .ok (.getfield 60, 3) := allD_get dtX7_color 29 rfl
theorem dX7_color_83 : decode cX7_color 83 = .ok (.getfield 256, 3) := allD_get dtX7_color 30 rfl
theorem dX7_color_86 : decode cX7_color 86 = .ok (.ireturn, 1) := allD_get dtX7_color 31 rfl
theorem dX7_color_87 : decode cX7_color 87 = .ok (.bipush (-2), 2) := allD_get dtX7_color 32 rfl
theorem dX7_color_89 : decode cX7_color 89 = .ok (.ireturn, 1) := allD_get dtX7_color 33 rfl
def tbX7_count : List (Nat × Instr × Nat) := [(0, .iload_n 1, 1), (1, .tableswitch 178 0 10 #[59, 67, 76, 85, 97, 109, 129, 149, 157, 165, 173], 59), (60, .aload_n 0, 1), (61, .getfield 26, 3), (64, .getfield 107, 3), (67, .ireturn, 1), (68, .aload_n 0, 1), (69, .getfield 26, 3), (72, .iconst (-1), 1), (73, .invokevirtual 249, 3), (76, .ireturn, 1), (77, .aload_n 0, 1), (78, .getfield 26, 3), (81, .iconst (-1), 1), (82, .invokevirtual 252, 3), (85, .ireturn, 1), (86, .aload_n 0, 1), (87, .invokevirtual 196, 3), (90, .aload_n 0, 1), (91, .getfield 46, 3), (94, .getfield 212, 3), (97, .ireturn, 1), (98, .aload_n 0, 1), (99, .invokevirtual 196, 3), (102, .aload_n 0, 1), (103, .getfield 53, 3), (106, .getfield 230, 3), (109, .ireturn, 1), (110, .aload_n 0, 1), (111, .getfield 60, 3), (114, .aload_n 0, 1), (115, .getfield 26, 3), (118, .iconst (-1), 1), (119, .invokevirtual 255, 3), (122, .aload_n 0, 1), (123, .getfield 60, 3), (126, .getfield 256, 3), (129, .ireturn, 1), (130, .aload_n 0, 1), (131, .getfield 60, 3), (134, .aload_n 0, 1), (135, .getfield 26, 3), (138, .iconst (-1), 1), (139, .invokevirtual 255, 3), (142, .aload_n 0, 1), (143, .getfield 60, 3), (146, .getfield 259, 3), (149, .ireturn, 1), (150, .aload_n 0, 1), (151, .getfield 12, 3), (154, .getfield 72, 3), (157, .ireturn, 1), (158, .aload_n 0, 1), (159, .getfield 39, 3), (162, .getfield 182, 3), (165, .ireturn, 1), (166, .aload_n 0, 1), (167, .getfield 39, 3), (170, .getfield 188, 3), (173, .ireturn, 1), (174, .aload_n 0, 1), (175, .getfield 64, 3), (178, .ireturn, 1), (179, .bipush (-2), 2), (181, .ireturn, 1)]
set_option maxRecDepth 100000 in
theorem dtX7_count : allD cX7_count tbX7_count = true := by decide +kernel
theorem dX7_count_0 : decode cX7_count 0 = .ok (.iload_n 1, 1) := allD_get dtX7_count 0 rfl
theorem dX7_count_1 : decode cX7_count 1 = .ok (.tableswitch 178 0 10 #[59, 67, 76, 85, 97, 109, 129, 149, 157, 165, 173], 59) := allD_get dtX7_count 1 rfl
theorem dX7_count_60 : decode cX7_count 60 = .ok (.aload_n 0, 1) := allD_get dtX7_count 2 rfl
theorem dX7_count_61 : decode cX7_count 61 = .ok (.getfield 26, 3) := allD_get dtX7_count 3 rfl
theorem dX7_count_64 : decode cX7_count 64 = .ok (.getfield 107, 3) := allD_get dtX7_count 4 rfl
theorem dX7_count_67 : decode cX7_count 67 = .ok (.ireturn, 1) := allD_get dtX7_count 5 rfl
theorem dX7_count_68 : decode cX7_count 68 = .ok (.aload_n 0, 1) := allD_get dtX7_count 6 rfl
theorem dX7_count_69 : decode cX7_count 69 = .ok (.getfield 26, 3) := allD_get dtX7_count 7 rfl
theorem dX7_count_72 : decode cX7_count 72 = .ok (.iconst (-1), 1) := allD_get dtX7_count 8 rfl
theorem dX7_count_73 : decode cX7_count 73 = .ok (.invokevirtual 249, 3) := allD_get dtX7_count 9 rfl
theorem dX7_count_76 : decode cX7_count 76 = .ok (.ireturn, 1) := allD_get dtX7_count 10 rfl
theorem dX7_count_77 : decode cX7_count 77 = .ok (.aload_n 0, 1) := allD_get dtX7_count 11 rfl
theorem dX7_count_78 : decode cX7_count 78 = .ok (.getfield 26, 3) := allD_get dtX7_count 12 rfl
theorem dX7_count_81 : decode cX7_count 81 = .ok (.iconst (-1), 1) := allD_get dtX7_count 13 rfl
theorem dX7_count_82 : decode cX7_count 82 = .ok (.invokevirtual 252, 3) := allD_get dtX7_count 14 rfl
theorem dX7_count_85 : decode cX7_count 85 = .ok (.ireturn, 1) := allD_get dtX7_count 15 rfl
theorem dX7_count_86 : decode cX7_count 86 = .ok (.aload_n 0, 1) := allD_get dtX7_count 16 rfl
theorem dX7_count_87 : decode cX7_count 87 = .ok (.invokevirtual 196, 3) := allD_get dtX7_count 17 rfl
theorem dX7_count_90 : decode cX7_count 90 = .ok (.aload_n 0, 1) := allD_get dtX7_count 18 rfl
theorem dX7_count_91 : decode cX7_count 91 = .ok (.getfield 46, 3) := allD_get dtX7_count 19 rfl
theorem dX7_count_94 : decode cX7_count 94 = .ok (.getfield 212, 3) := allD_get dtX7_count 20 rfl
theorem dX7_count_97 : decode cX7_count 97 = .ok (.ireturn, 1) := allD_get dtX7_count 21 rfl
theorem dX7_count_98 : decode cX7_count 98 = .ok (.aload_n 0, 1) := allD_get dtX7_count 22 rfl
theorem dX7_count_99 : decode cX7_count 99 = .ok (.invokevirtual 196, 3) := allD_get dtX7_count 23 rfl
theorem dX7_count_102 : decode cX7_count 102 = .ok (.aload_n 0, 1) := allD_get dtX7_count 24 rfl
theorem dX7_count_103 : decode cX7_count 103 = .ok (.getfield 53, 3) := allD_get dtX7_count 25 rfl
theorem dX7_count_106 : decode cX7_count 106 = .ok (.getfield 230, 3) := allD_get dtX7_count 26 rfl
theorem dX7_count_109 : decode cX7_count 109 = .ok (.ireturn, 1) := allD_get dtX7_count 27 rfl
theorem dX7_count_110 : decode cX7_count 110 = .ok (.aload_n 0, 1) := allD_get dtX7_count 28 rfl
theorem dX7_count_111 : decode cX7_count 111 = .ok (.getfield 60, 3) := allD_get dtX7_count 29 rfl
theorem dX7_count_114 : decode cX7_count 114 = .ok (.aload_n 0, 1) := allD_get dtX7_count 30 rfl
theorem dX7_count_115 : decode cX7_count 115 = .ok (.getfield 26, 3) := allD_get dtX7_count 31 rfl
theorem dX7_count_118 : decode cX7_count 118 = .ok (.iconst (-1), 1) := allD_get dtX7_count 32 rfl
theorem dX7_count_119 : decode cX7_count 119 = .ok (.invokevirtual 255, 3) := allD_get dtX7_count 33 rfl
theorem dX7_count_122 : decode cX7_count 122 = .ok (.aload_n 0, 1) := allD_get dtX7_count 34 rfl
theorem dX7_count_123 : decode cX7_count 123 = .ok (.getfield 60, 3) := allD_get dtX7_count 35 rfl
theorem dX7_count_126 : decode cX7_count 126 = .ok (.getfield 256, 3) := allD_get dtX7_count 36 rfl
theorem dX7_count_129 : decode cX7_count 129 = .ok (.ireturn, 1) := allD_get dtX7_count 37 rfl
theorem dX7_count_130 : decode cX7_count 130 = .ok (.aload_n 0, 1) := allD_get dtX7_count 38 rfl
theorem dX7_count_131 : decode cX7_count 131 = .ok (.getfield 60, 3) := allD_get dtX7_count 39 rfl
theorem dX7_count_134 : decode cX7_count 134 = .ok (.aload_n 0, 1) := allD_get dtX7_count 40 rfl
theorem dX7_count_135 : decode cX7_count 135 = .ok (.getfield 26, 3) := allD_get dtX7_count 41 rfl
theorem dX7_count_138 : decode cX7_count 138 = .ok (.iconst (-1), 1) := allD_get dtX7_count 42 rfl
theorem dX7_count_139 : decode cX7_count 139 = .ok (.invokevirtual 255, 3) := allD_get dtX7_count 43 rfl
theorem dX7_count_142 : decode cX7_count 142 = .ok (.aload_n 0, 1) := allD_get dtX7_count 44 rfl
theorem dX7_count_143 : decode cX7_count 143 = .ok (.getfield 60, 3) := allD_get dtX7_count 45 rfl
theorem dX7_count_146 : decode cX7_count 146 = .ok (.getfield 259, 3) := allD_get dtX7_count 46 rfl
theorem dX7_count_149 : decode cX7_count 149 = .ok (.ireturn, 1) := allD_get dtX7_count 47 rfl
theorem dX7_count_150 : decode cX7_count 150 = .ok (.aload_n 0, 1) := allD_get dtX7_count 48 rfl
theorem dX7_count_151 : decode cX7_count 151 = .ok (.getfield 12, 3) := allD_get dtX7_count 49 rfl
theorem dX7_count_154 : decode cX7_count 154 = .ok (.getfield 72, 3) := allD_get dtX7_count 50 rfl
theorem dX7_count_157 : decode cX7_count 157 = .ok (.ireturn, 1) := allD_get dtX7_count 51 rfl
theorem dX7_count_158 : decode cX7_count 158 = .ok (.aload_n 0, 1) := allD_get dtX7_count 52 rfl
theorem dX7_count_159 : decode cX7_count 159 = .ok (.getfield 39, 3) := allD_get dtX7_count 53 rfl
theorem dX7_count_162 : decode cX7_count 162 = .ok (.getfield 182, 3) := allD_get dtX7_count 54 rfl
theorem dX7_count_165 : decode cX7_count 165 = .ok (.ireturn, 1) := allD_get dtX7_count 55 rfl
theorem dX7_count_166 : decode cX7_count 166 = .ok (.aload_n 0, 1) := allD_get dtX7_count 56 rfl
theorem dX7_count_167 : decode cX7_count 167 = .ok (.getfield 39, 3) := allD_get dtX7_count 57 rfl
theorem dX7_count_170 : decode cX7_count 170 = .ok (.getfield 188, 3) := allD_get dtX7_count 58 rfl
theorem dX7_count_173 : decode cX7_count 173 = .ok (.ireturn, 1) := allD_get dtX7_count 59 rfl
theorem dX7_count_174 : decode cX7_count 174 = .ok (.aload_n 0, 1) := allD_get dtX7_count 60 rfl
theorem dX7_count_175 : decode cX7_count 175 = .ok (.getfield 64, 3) := allD_get dtX7_count 61 rfl
theorem dX7_count_178 : decode cX7_count 178 = .ok (.ireturn, 1) := allD_get dtX7_count 62 rfl
theorem dX7_count_179 : decode cX7_count 179 = .ok (.bipush (-2), 2) := allD_get dtX7_count 63 rfl
theorem dX7_count_181 : decode cX7_count 181 = .ok (.ireturn, 1) := allD_get dtX7_count 64 rfl
def tbX7_endPart : List (Nat × Instr × Nat) := [(0, .aload_n 0, 1), (1, .getfield 33, 3), (4, .getfield 72, 3), (7, .ifCond .ne 5, 3), (10, .iconst 1, 1), (11, .ireturn, 1), (12, .aload_n 0, 1), (13, .getfield 30, 3), (16, .iload_n 1, 1), (17, .aload_n 0, 1), (18, .getfield 33, 3), (21, .invokevirtual 100, 3), (24, .istore_n 2, 1), (25, .aload_n 0, 1), (26, .getfield 33, 3), (29, .invokevirtual 79, 3), (32, .iload_n 2, 1), (33, .ireturn, 1)]
set_option maxRecDepth 100000 in
theorem dtX7_endPart : allD cX7_endPart tbX7_endPart = true := by decide +kernel
theorem dX7_endPart_0 : decode cX7_endPart 0 = .ok (.aload_n 0, 1) := allD_get dtX7_endPart 0 rfl
theorem dX7_endPart_1 : decode cX7_endPart 1 = .ok (.getfield 33, 3) := allD_get dtX7_endPart 1 rfl
theorem dX7_endPart_4 : decode cX7_endPart 4 = .ok (.getfield 72, 3) := allD_get dtX7_endPart 2 rfl
theorem dX7_endPart_7 : decode cX7_endPart 7 = .ok (.ifCond .ne 5, 3) := allD_get dtX7_endPart 3 rfl
theorem dX7_endPart_10 : decode cX7_endPart 10 = .ok (.iconst 1, 1) := allD_get dtX7_endPart 4 rfl
theorem dX7_endPart_11 : decode cX7_endPart 11 = .ok (.ireturn, 1) := allD_get dtX7_endPart 5 rfl
theorem dX7_endPart_12 : decode cX7_endPart 12 = .ok (.aload_n 0, 1) := allD_get dtX7_endPart 6 rfl
theorem dX7_endPart_13 : decode cX7_endPart 13 = .ok (.getfield 30, 3) := allD_get dtX7_endPart 7 rfl
theorem dX7_endPart_16 : decode cX7_endPart 16 = .ok (.iload_n 1, 1) := allD_get dtX7_endPart 8 rfl
theorem dX7_endPart_17 : decode cX7_endPart 17 = .ok (.aload_n 0, 1) := allD_get dtX7_endPart 9 rfl
theorem dX7_endPart_18 : decode cX7_endPart 18 = .ok (.getfield 33, 3) := allD_get dtX7_endPart 10 rfl
theorem dX7_endPart_21 : decode cX7_endPart 21 = .ok (.invokevirtual 100, 3) := allD_get dtX7_endPart 11 rfl
theorem dX7_endPart_24 : decode cX7_endPart 24 = .ok (.istore_n 2, 1) := allD_get dtX7_endPart 12 rfl
theorem dX7_endPart_25 : decode cX7_endPart 25 = .ok (.aload_n 0, 1) := allD_get dtX7_endPart 13 rfl
theorem dX7_endPart_26 : decode cX7_endPart 26 = .ok (.getfield 33, 3) := allD_get dtX7_endPart 14 rfl
theorem dX7_endPart_29 : decode cX7_endPart 29 = .ok (.invokevirtual 79, 3) := allD_get dtX7_endPart 15 rfl
theorem dX7_endPart_32 : decode cX7_endPart 32 = .ok (.iload_n 2, 1) := allD_get dtX7_endPart 16 rfl
theorem dX7_endPart_33 : decode cX7_endPart 33 = .ok (.ireturn, 1) := allD_get dtX7_endPart 17 rfl
def tbX7_replace : List (Nat × Instr × Nat) := [(0, .aload_n 0, 1), (1, .getfield 26, 3), (4, .iload_n 1, 1), (5, .aload_n 0, 1), (6, .getfield 33, 3), (9, .invokevirtual 262, 3), (12, .ifCond .eq 6, 3), (15, .bipush (-5), 2), (17, .ireturn, 1), (18, .aload_n 0, 1), (19, .getfield 26, 3), (22, .iload_n 1, 1), (23, .aload_n 0, 1), (24, .getfield 26, 3), (27, .iload_n 1, 1), (28, .invokevirtual 128, 3), (31, .aload_n 0, 1), (32, .getfield 33, 3), (35, .invokevirtual 160, 3), (38, .aload_n 0, 1), (39, .getfield 39, 3), (42, .aload_n 0, 1), (43, .getfield 26, 3), (46, .invokevirtual 103, 3), (49, .aload_n 0, 1), (50, .getfield 33, 3), (53, .getfield 72, 3), (56, .ireturn, 1)]
set_option maxRecDepth 100000 in
theorem dtX7_replace : allD cX7_replace tbX7_replace = true := by decide +kernel
theorem dX7_replace_0 : decode cX7_replace 0 = .ok (.aload_n 0, 1) := allD_get dtX7_replace 0 rfl
theorem dX7_replace_1 : decode cX7_replace 1 = .ok (.getfield 26, 3) := allD_get dtX7_replace 1 rfl
theorem dX7_replace_4 : decode cX7_replace 4 = .ok (.iload_n 1, 1) := allD_get dtX7_replace 2 rfl
theorem dX7_replace_5 : decode cX7_replace 5 = .ok (.aload_n 0, 1) := allD_get dtX7_replace 3 rfl
theorem dX7_replace_6 : decode cX7_replace 6 = .ok (.getfield 33, 3) := allD_get dtX7_replace 4 rfl
theorem dX7_replace_9 : decode cX7_replace 9 = .ok (.invokevirtual 262, 3) := allD_get dtX7_replace 5 rfl
theorem dX7_replace_12 : decode cX7_replace 12 = .ok (.ifCond .eq 6, 3) := allD_get dtX7_replace 6 rfl
theorem dX7_replace_15 : decode cX7_replace 15 = .ok (.bipush (-5), 2) := allD_get dtX7_replace 7 rfl
theorem dX7_replace_17 : decode cX7_replace 17 = .ok (.ireturn, 1) := allD_get dtX7_replace 8 rfl
theorem dX7_replace_18 : decode cX7_replace 18 = .ok (.aload_n 0, 1) := allD_get dtX7_replace 9 rfl
theorem dX7_replace_19 : decode cX7_replace 19 = .ok (.getfield 26, 3) := allD_get dtX7_replace 10 rfl
theorem dX7_replace_22 : decode cX7_replace 22 = .ok (.iload_n 1, 1) := allD_get dtX7_replace 11 rfl
theorem dX7_replace_23 : decode cX7_replace 23 = .ok (.aload_n 0, 1) := allD_get dtX7_replace 12 rfl
theorem dX7_replace_24 : decode cX7_replace 24 = .ok (.getfield 26, 3) := allD_get dtX7_replace 13 rfl
theorem dX7_replace_27 : decode cX7_replace 27 = .ok (.iload_n 1, 1) := allD_get dtX7_replace 14 rfl
theorem dX7_replace_28 : decode cX7_replace 28 = .ok (.invokevirtual 128, 3) := allD_get dtX7_replace 15 rfl
theorem dX7_replace_31 : decode cX7_replace 31 = .ok (.aload_n 0, 1) := allD_get dtX7_replace 16 rfl
theorem dX7_replace_32 : decode cX7_replace 32 = .ok (.getfield 33, 3) := allD_get dtX7_replace 17 rfl
theorem dX7_replace_35 : decode cX7_replace 35 = .ok (.invokevirtual 160, 3) := allD_get dtX7_replace 18 rfl
theorem dX7_replace_38 : decode cX7_replace 38 = .ok (.aload_n 0, 1) := allD_get dtX7_replace 19 rfl
theorem dX7_replace_39 : decode cX7_replace 39 = .ok (.getfield 39, 3) := allD_get dtX7_replace 20 rfl
theorem dX7_replace_42 : decode cX7_replace 42 = .ok (.aload_n 0, 1) := allD_get dtX7_replace 21 rfl
theorem dX7_replace_43 : decode cX7_replace 43 = .ok (.getfield 26, 3) := allD_get dtX7_replace 22 rfl
theorem dX7_replace_46 : decode cX7_replace 46 = .ok (.invokevirtual 103, 3) := allD_get dtX7_replace 23 rfl
theorem dX7_replace_49 : decode cX7_replace 49 = .ok (.aload_n 0, 1) := allD_get dtX7_replace 24 rfl
theorem dX7_replace_50 : decode cX7_replace 50 = .ok (.getfield 33, 3) := allD_get dtX7_replace 25 rfl
theorem dX7_replace_53 : decode cX7_replace 53 = .ok (.getfield 72, 3) := allD_get dtX7_replace 26 rfl
theorem dX7_replace_56 : decode cX7_replace 56 = .ok (.ireturn, 1) := allD_get dtX7_replace 27 rfl
def tbX7_layOut : List (Nat × Instr × Nat) := [(0, .aload_n 0, 1), (1, .getfield 46, 3), (4, .aload_n 0, 1), (5, .getfield 26, 3), (8, .invokevirtual 265, 3), (11, .aload_n 0, 1), (12, .getfield 53, 3), (15, .aload_n 0, 1), (16, .getfield 26, 3), (19, .aload_n 0, 1), (20, .getfield 46, 3), (23, .aload_n 0, 1), (24, .getfield 64, 3), (27, .invokevirtual 268, 3), (30, .return_, 1)]
set_option maxRecDepth 100000 in
theorem dtX7_layOut : allD cX7_layOut tbX7_layOut = true := by decide +kernel
theorem dX7_layOut_0 : decode cX7_layOut 0 = .ok (.aload_n 0, 1) := allD_get dtX7_layOut 0 rfl
theorem dX7_layOut_1 : decode cX7_layOut 1 = .ok (.getfield 46, 3) := allD_get dtX7_layOut 1 rfl
theorem dX7_layOut_4 : decode cX7_layOut 4 = .ok (.aload_n 0, 1) := allD_get dtX7_layOut 2 rfl
theorem dX7_layOut_5 : decode cX7_layOut 5 = .ok (.getfield 26, 3) := allD_get dtX7_layOut 3 rfl
theorem dX7_layOut_8 : decode cX7_layOut 8 = .ok (.invokevirtual 265, 3) := allD_get dtX7_layOut 4 rfl
theorem dX7_layOut_11 : decode cX7_layOut 11 = .ok (.aload_n 0, 1) := allD_get dtX7_layOut 5 rfl
theorem dX7_layOut_12 : decode cX7_layOut 12 = .ok (.getfield 53, 3) := allD_get dtX7_layOut 6 rfl
theorem dX7_layOut_15 : decode cX7_layOut 15 = .ok (.aload_n 0, 1) := allD_get dtX7_layOut 7 rfl
theorem dX7_layOut_16 : decode cX7_layOut 16 = .ok (.getfield 26, 3) := allD_get dtX7_layOut 8 rfl
theorem dX7_layOut_19 : decode cX7_layOut 19 = .ok (.aload_n 0, 1) := allD_get dtX7_layOut 9 rfl
theorem dX7_layOut_20 : decode cX7_layOut 20 = .ok (.getfield 46, 3) := allD_get dtX7_layOut 10 rfl
theorem dX7_layOut_23 : decode cX7_layOut 23 = .ok (.aload_n 0, 1) := allD_get dtX7_layOut 11 rfl
theorem dX7_layOut_24 : decode cX7_layOut 24 = .ok (.getfield 64, 3) := allD_get dtX7_layOut 12 rfl
theorem dX7_layOut_27 : decode cX7_layOut 27 = .ok (.invokevirtual 268, 3) := allD_get dtX7_layOut 13 rfl
theorem dX7_layOut_30 : decode cX7_layOut 30 = .ok (.return_, 1) := allD_get dtX7_layOut 14 rfl
def tbX7_isWithin : List (Nat × Instr × Nat) := [(0, .iload_n 0, 1), (1, .iload_n 1, 1), (2, .if_icmp .lt 12, 3), (5, .iload_n 0, 1), (6, .iload_n 2, 1), (7, .if_icmp .gt 7, 3), (10, .iconst 1, 1), (11, .goto 4, 3), (14, .iconst 0, 1), (15, .ireturn, 1)]
set_option maxRecDepth 100000 in
theorem dtX7_isWithin : allD cX7_isWithin tbX7_isWithin = true := by decide +kernel
theorem dX7_isWithin_0 : decode cX7_isWithin 0 = .ok (.iload_n 0, 1) := allD_get dtX7_isWithin 0 rfl
theorem dX7_isWithin_1 : decode cX7_isWithin 1 = .ok (.iload_n 1, 1) := allD_get dtX7_isWithin 1 rfl
theorem dX7_isWithin_2 : decode cX7_isWithin 2 = .ok (.if_icmp .lt 12, 3) := allD_get dtX7_isWithin 2 rfl
theorem dX7_isWithin_5 : decode cX7_isWithin 5 = .ok (.iload_n 0, 1) := allD_get dtX7_isWithin 3 rfl
theorem dX7_isWithin_6 : decode cX7_isWithin 6 = .ok (.iload_n 2, 1) := allD_get dtX7_isWithin 4 rfl
theorem dX7_isWithin_7 : decode cX7_isWithin 7 = .ok (.if_icmp .gt 7, 3) := allD_get dtX7_isWithin 5 rfl
theorem dX7_isWithin_10 : decode cX7_isWithin 10 = .ok (.iconst 1, 1) := allD_get dtX7_isWithin 6 rfl
theorem dX7_isWithin_11 : decode cX7_isWithin 11 = .ok (.goto 4, 3) := allD_get dtX7_isWithin 7 rfl
theorem dX7_isWithin_14 : decode cX7_isWithin 14 = .ok (.iconst 0, 1) := allD_get dtX7_isWithin 8 rfl
theorem dX7_isWithin_15 : decode cX7_isWithin 15 = .ok (.ireturn, 1) := allD_get dtX7_isWithin 9 rfl
def tbX7_isCoordinate : List (Nat × Instr × Nat) := [(0, .iload_n 0, 1), (1, .iconst 0, 1), (2, .sipush 1000, 3), (5, .invokestatic 110, 3), (8, .ireturn, 1)]
set_option maxRecDepth 100000 in
theorem dtX7_isCoordinate : allD cX7_isCoordinate tbX7_isCoordinate = true := by decide +kernel
theorem dX7_isCoordinate_0 : decode cX7_isCoordinate 0 = .ok (.iload_n 0, 1) := allD_get dtX7_isCoordinate 0 rfl
theorem dX7_isCoordinate_1 : decode cX7_isCoordinate 1 = .ok (.iconst 0, 1) := allD_get dtX7_isCoordinate 1 rfl
theorem dX7_isCoordinate_2 : decode cX7_isCoordinate 2 = .ok (.sipush 1000, 3) := allD_get dtX7_isCoordinate 2 rfl
theorem dX7_isCoordinate_5 : decode cX7_isCoordinate 5 = .ok (.invokestatic 110, 3) := allD_get dtX7_isCoordinate 3 rfl
theorem dX7_isCoordinate_8 : decode cX7_isCoordinate 8 = .ok (.ireturn, 1) := allD_get dtX7_isCoordinate 4 rfl
def tbX7_isColor : List (Nat × Instr × Nat) := [(0, .iload_n 0, 1), (1, .iconst 0, 1), (2, .iconst 3, 1), (3, .invokestatic 110, 3), (6, .ireturn, 1)]
set_option maxRecDepth 100000 in
theorem dtX7_isColor : allD cX7_isColor tbX7_isColor = true := by decide +kernel
theorem dX7_isColor_0 : decode cX7_isColor 0 = .ok (.iload_n 0, 1) := allD_get dtX7_isColor 0 rfl
theorem dX7_isColor_1 : decode cX7_isColor 1 = .ok (.iconst 0, 1) := allD_get dtX7_isColor 1 rfl
theorem dX7_isColor_2 : decode cX7_isColor 2 = .ok (.iconst 3, 1) := allD_get dtX7_isColor 2 rfl
theorem dX7_isColor_3 : decode cX7_isColor 3 = .ok (.invokestatic 110, 3) := allD_get dtX7_isColor 3 rfl
theorem dX7_isColor_6 : decode cX7_isColor 6 = .ok (.ireturn, 1) := allD_get dtX7_isColor 4 rfl
def tbX7_square : List (Nat × Instr × Nat) := [(0, .iload_n 0, 1), (1, .iload_n 0, 1), (2, .imul, 1), (3, .iload_n 1, 1), (4, .iload_n 1, 1), (5, .imul, 1), (6, .iadd, 1), (7, .ireturn, 1)]
set_option maxRecDepth 100000 in
theorem dtX7_square : allD cX7_square tbX7_square = true := by decide +kernel
theorem dX7_square_0 : decode cX7_square 0 = .ok (.iload_n 0, 1) := allD_get dtX7_square 0 rfl
theorem dX7_square_1 : decode cX7_square 1 = .ok (.iload_n 0, 1) := allD_get dtX7_square 1 rfl
theorem dX7_square_2 : decode cX7_square 2 = .ok (.imul, 1) := allD_get dtX7_square 2 rfl
theorem dX7_square_3 : decode cX7_square 3 = .ok (.iload_n 1, 1) := allD_get dtX7_square 3 rfl
theorem dX7_square_4 : decode cX7_square 4 = .ok (.iload_n 1, 1) := allD_get dtX7_square 4 rfl
theorem dX7_square_5 : decode cX7_square 5 = .ok (.imul, 1) := allD_get dtX7_square 5 rfl
theorem dX7_square_6 : decode cX7_square 6 = .ok (.iadd, 1) := allD_get dtX7_square 6 rfl
theorem dX7_square_7 : decode cX7_square 7 = .ok (.ireturn, 1) := allD_get dtX7_square 7 rfl
def tbX7_cellOf : List (Nat × Instr × Nat) := [(0, .iload_n 1, 1), (1, .bipush 10, 2), (3, .idiv, 1), (4, .bipush 101, 2), (6, .imul, 1), (7, .iload_n 0, 1), (8, .bipush 10, 2), (10, .idiv, 1), (11, .iadd, 1), (12, .ireturn, 1)]
set_option maxRecDepth 100000 in
theorem dtX7_cellOf : allD cX7_cellOf tbX7_cellOf = true := by decide +kernel
theorem dX7_cellOf_0 : decode cX7_cellOf 0 = .ok (.iload_n 1, 1) := allD_get dtX7_cellOf 0 rfl
theorem dX7_cellOf_1 : decode cX7_cellOf 1 = .ok (.bipush 10, 2) := allD_get dtX7_cellOf 1 rfl
theorem dX7_cellOf_3 : decode cX7_cellOf 3 = .ok (.idiv, 1) := allD_get dtX7_cellOf 2 rfl
theorem dX7_cellOf_4 : decode cX7_cellOf 4 = .ok (.bipush 101, 2) := allD_get dtX7_cellOf 3 rfl
theorem dX7_cellOf_6 : decode cX7_cellOf 6 = .ok (.imul, 1) := allD_get dtX7_cellOf 4 rfl
theorem dX7_cellOf_7 : decode cX7_cellOf 7 = .ok (.iload_n 0, 1) := allD_get dtX7_cellOf 5 rfl
theorem dX7_cellOf_8 : decode cX7_cellOf 8 = .ok (.bipush 10, 2) := allD_get dtX7_cellOf 6 rfl
theorem dX7_cellOf_10 : decode cX7_cellOf 10 = .ok (.idiv, 1) := allD_get dtX7_cellOf 7 rfl
theorem dX7_cellOf_11 : decode cX7_cellOf 11 = .ok (.iadd, 1) := allD_get dtX7_cellOf 8 rfl
theorem dX7_cellOf_12 : decode cX7_cellOf 12 = .ok (.ireturn, 1) := allD_get dtX7_cellOf 9 rfl
def tbX7_root : List (Nat × Instr × Nat) := [(0, .iconst 0, 1), (1, .istore_n 1, 1), (2, .sipush 8192, 3), (5, .istore_n 2, 1), (6, .iload_n 2, 1), (7, .ifCond .le 23, 3), (10, .iload_n 1, 1), (11, .iload_n 2, 1), (12, .iadd, 1), (13, .istore_n 3, 1), (14, .iload_n 3, 1), (15, .iload_n 3, 1), (16, .imul, 1), (17, .iload_n 0, 1), (18, .if_icmp .gt 5, 3), (21, .iload_n 3, 1), (22, .istore_n 1, 1), (23, .iload_n 2, 1), (24, .iconst 1, 1), (25, .ishr, 1), (26, .istore_n 2, 1), (27, .goto (-21), 3), (30, .iload_n 1, 1), (31, .ireturn, 1)]
set_option maxRecDepth 100000 in
theorem dtX7_root : allD cX7_root tbX7_root = true := by decide +kernel
theorem dX7_root_0 : decode cX7_root 0 = .ok (.iconst 0, 1) := allD_get dtX7_root 0 rfl
theorem dX7_root_1 : decode cX7_root 1 = .ok (.istore_n 1, 1) := allD_get dtX7_root 1 rfl
theorem dX7_root_2 : decode cX7_root 2 = .ok (.sipush 8192, 3) := allD_get dtX7_root 2 rfl
theorem dX7_root_5 : decode cX7_root 5 = .ok (.istore_n 2, 1) := allD_get dtX7_root 3 rfl
theorem dX7_root_6 : decode cX7_root 6 = .ok (.iload_n 2, 1) := allD_get dtX7_root 4 rfl
theorem dX7_root_7 : decode cX7_root 7 = .ok (.ifCond .le 23, 3) := allD_get dtX7_root 5 rfl
theorem dX7_root_10 : decode cX7_root 10 = .ok (.iload_n 1, 1) := allD_get dtX7_root 6 rfl
theorem dX7_root_11 : decode cX7_root 11 = .ok (.iload_n 2, 1) := allD_get dtX7_root 7 rfl
theorem dX7_root_12 : decode cX7_root 12 = .ok (.iadd, 1) := allD_get dtX7_root 8 rfl
theorem dX7_root_13 : decode cX7_root 13 = .ok (.istore_n 3, 1) := allD_get dtX7_root 9 rfl
theorem dX7_root_14 : decode cX7_root 14 = .ok (.iload_n 3, 1) := allD_get dtX7_root 10 rfl
theorem dX7_root_15 : decode cX7_root 15 = .ok (.iload_n 3, 1) := allD_get dtX7_root 11 rfl
theorem dX7_root_16 : decode cX7_root 16 = .ok (.imul, 1) := allD_get dtX7_root 12 rfl
theorem dX7_root_17 : decode cX7_root 17 = .ok (.iload_n 0, 1) := allD_get dtX7_root 13 rfl
theorem dX7_root_18 : decode cX7_root 18 = .ok (.if_icmp .gt 5, 3) := allD_get dtX7_root 14 rfl
theorem dX7_root_21 : decode cX7_root 21 = .ok (.iload_n 3, 1) := allD_get dtX7_root 15 rfl
theorem dX7_root_22 : decode cX7_root 22 = .ok (.istore_n 1, 1) := allD_get dtX7_root 16 rfl
theorem dX7_root_23 : decode cX7_root 23 = .ok (.iload_n 2, 1) := allD_get dtX7_root 17 rfl
theorem dX7_root_24 : decode cX7_root 24 = .ok (.iconst 1, 1) := allD_get dtX7_root 18 rfl
theorem dX7_root_25 : decode cX7_root 25 = .ok (.ishr, 1) := allD_get dtX7_root 19 rfl
theorem dX7_root_26 : decode cX7_root 26 = .ok (.istore_n 2, 1) := allD_get dtX7_root 20 rfl
theorem dX7_root_27 : decode cX7_root 27 = .ok (.goto (-21), 3) := allD_get dtX7_root 21 rfl
theorem dX7_root_30 : decode cX7_root 30 = .ok (.iload_n 1, 1) := allD_get dtX7_root 22 rfl
theorem dX7_root_31 : decode cX7_root 31 = .ok (.ireturn, 1) := allD_get dtX7_root 23 rfl
end
