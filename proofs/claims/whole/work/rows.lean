section
-- ===== PART A: goes FIRST, ahead of the names: the tables' words, and 'selects' of the private methods out of them =====
/-- a private method of a class that the tables say can be made, by its rows of tables_1 -/
def lw_okq (q : MethodName × Nat) : Prop := (q.1.cls ≠ "java/lang/invoke/MethodHandle" ∧ q.1.cls ≠ "java/lang/invoke/VarHandle") ∧ Cond.instantiable q.1.cls q.2 ∈ tables_1 ∧ Cond.privateMethod q.1 ∈ tables_1 ∧ Cond.instanceMethod q.1 ∈ tables_1
theorem lw_p0 : lw_okq (⟨"CutOnce$Picture", "layEdges", "(II)V"⟩, 4) := ⟨⟨by decide +kernel, by decide +kernel⟩, List.mem_of_getElem? (i := 19) (by decide +kernel), List.mem_of_getElem? (i := 29) (by decide +kernel), List.mem_of_getElem? (i := 30) (by decide +kernel)⟩
theorem lw_p1 : lw_okq (⟨"CutOnce", "come", "(I)I"⟩, 7) := ⟨⟨by decide +kernel, by decide +kernel⟩, List.mem_of_getElem? (i := 11) (by decide +kernel), List.mem_of_getElem? (i := 237) (by decide +kernel), List.mem_of_getElem? (i := 238) (by decide +kernel)⟩
theorem lw_p2 : lw_okq (⟨"CutOnce", "shapeFrom", "(LCutOnce$Sheet;III)V"⟩, 7) := ⟨⟨by decide +kernel, by decide +kernel⟩, List.mem_of_getElem? (i := 11) (by decide +kernel), List.mem_of_getElem? (i := 258) (by decide +kernel), List.mem_of_getElem? (i := 259) (by decide +kernel)⟩
theorem lw_p3 : lw_okq (⟨"CutOnce$Picture", "bulges", "(I)Z"⟩, 4) := ⟨⟨by decide +kernel, by decide +kernel⟩, List.mem_of_getElem? (i := 19) (by decide +kernel), List.mem_of_getElem? (i := 316) (by decide +kernel), List.mem_of_getElem? (i := 317) (by decide +kernel)⟩
theorem lw_p4 : lw_okq (⟨"CutOnce$Picture", "differing", "(III)I"⟩, 4) := ⟨⟨by decide +kernel, by decide +kernel⟩, List.mem_of_getElem? (i := 19) (by decide +kernel), List.mem_of_getElem? (i := 320) (by decide +kernel), List.mem_of_getElem? (i := 321) (by decide +kernel)⟩
theorem lw_p5 : lw_okq (⟨"CutOnce$Picture", "strangersApart", "(II)I"⟩, 4) := ⟨⟨by decide +kernel, by decide +kernel⟩, List.mem_of_getElem? (i := 19) (by decide +kernel), List.mem_of_getElem? (i := 332) (by decide +kernel), List.mem_of_getElem? (i := 333) (by decide +kernel)⟩
theorem lw_p6 : lw_okq (⟨"CutOnce", "countMissing", "(I)I"⟩, 7) := ⟨⟨by decide +kernel, by decide +kernel⟩, List.mem_of_getElem? (i := 11) (by decide +kernel), List.mem_of_getElem? (i := 418) (by decide +kernel), List.mem_of_getElem? (i := 419) (by decide +kernel)⟩
theorem lw_p7 : lw_okq (⟨"CutOnce", "isMissing", "(II)Z"⟩, 7) := ⟨⟨by decide +kernel, by decide +kernel⟩, List.mem_of_getElem? (i := 11) (by decide +kernel), List.mem_of_getElem? (i := 422) (by decide +kernel), List.mem_of_getElem? (i := 423) (by decide +kernel)⟩
theorem lw_p8 : lw_okq (⟨"CutOnce", "missingPiece", "(II)I"⟩, 7) := ⟨⟨by decide +kernel, by decide +kernel⟩, List.mem_of_getElem? (i := 11) (by decide +kernel), List.mem_of_getElem? (i := 434) (by decide +kernel), List.mem_of_getElem? (i := 435) (by decide +kernel)⟩
theorem lw_p9 : lw_okq (⟨"CutOnce$Search", "run", "(Z)V"⟩, 13) := ⟨⟨by decide +kernel, by decide +kernel⟩, List.mem_of_getElem? (i := 63) (by decide +kernel), List.mem_of_getElem? (i := 446) (by decide +kernel), List.mem_of_getElem? (i := 447) (by decide +kernel)⟩
theorem lw_p10 : lw_okq (⟨"CutOnce$Search", "readEdges", "(I)V"⟩, 13) := ⟨⟨by decide +kernel, by decide +kernel⟩, List.mem_of_getElem? (i := 63) (by decide +kernel), List.mem_of_getElem? (i := 451) (by decide +kernel), List.mem_of_getElem? (i := 452) (by decide +kernel)⟩
theorem lw_p11 : lw_okq (⟨"CutOnce$Search", "codeOf", "(II)I"⟩, 13) := ⟨⟨by decide +kernel, by decide +kernel⟩, List.mem_of_getElem? (i := 63) (by decide +kernel), List.mem_of_getElem? (i := 457) (by decide +kernel), List.mem_of_getElem? (i := 458) (by decide +kernel)⟩
theorem lw_p12 : lw_okq (⟨"CutOnce$Search", "mateOf", "(II)I"⟩, 13) := ⟨⟨by decide +kernel, by decide +kernel⟩, List.mem_of_getElem? (i := 63) (by decide +kernel), List.mem_of_getElem? (i := 462) (by decide +kernel), List.mem_of_getElem? (i := 463) (by decide +kernel)⟩
theorem lw_p13 : lw_okq (⟨"CutOnce$Search", "fillFrom", "(I)V"⟩, 13) := ⟨⟨by decide +kernel, by decide +kernel⟩, List.mem_of_getElem? (i := 63) (by decide +kernel), List.mem_of_getElem? (i := 467) (by decide +kernel), List.mem_of_getElem? (i := 468) (by decide +kernel)⟩
theorem lw_p14 : lw_okq (⟨"CutOnce$Search", "lookAround", "(I)V"⟩, 13) := ⟨⟨by decide +kernel, by decide +kernel⟩, List.mem_of_getElem? (i := 63) (by decide +kernel), List.mem_of_getElem? (i := 472) (by decide +kernel), List.mem_of_getElem? (i := 473) (by decide +kernel)⟩
theorem lw_p15 : lw_okq (⟨"CutOnce$Search", "fits", "(I)Z"⟩, 13) := ⟨⟨by decide +kernel, by decide +kernel⟩, List.mem_of_getElem? (i := 63) (by decide +kernel), List.mem_of_getElem? (i := 481) (by decide +kernel), List.mem_of_getElem? (i := 482) (by decide +kernel)⟩
def lw_privs_1 : List (MethodName × Nat) := [(⟨"CutOnce$Picture", "layEdges", "(II)V"⟩, 4), (⟨"CutOnce", "come", "(I)I"⟩, 7), (⟨"CutOnce", "shapeFrom", "(LCutOnce$Sheet;III)V"⟩, 7), (⟨"CutOnce$Picture", "bulges", "(I)Z"⟩, 4), (⟨"CutOnce$Picture", "differing", "(III)I"⟩, 4), (⟨"CutOnce$Picture", "strangersApart", "(II)I"⟩, 4), (⟨"CutOnce", "countMissing", "(I)I"⟩, 7), (⟨"CutOnce", "isMissing", "(II)Z"⟩, 7), (⟨"CutOnce", "missingPiece", "(II)I"⟩, 7), (⟨"CutOnce$Search", "run", "(Z)V"⟩, 13), (⟨"CutOnce$Search", "readEdges", "(I)V"⟩, 13), (⟨"CutOnce$Search", "codeOf", "(II)I"⟩, 13), (⟨"CutOnce$Search", "mateOf", "(II)I"⟩, 13), (⟨"CutOnce$Search", "fillFrom", "(I)V"⟩, 13), (⟨"CutOnce$Search", "lookAround", "(I)V"⟩, 13), (⟨"CutOnce$Search", "fits", "(I)Z"⟩, 13)]
theorem lw_r1 : ∀ q ∈ lw_privs_1, lw_okq q := List.forall_mem_cons.mpr ⟨lw_p0, List.forall_mem_cons.mpr ⟨lw_p1, List.forall_mem_cons.mpr ⟨lw_p2, List.forall_mem_cons.mpr ⟨lw_p3, List.forall_mem_cons.mpr ⟨lw_p4, List.forall_mem_cons.mpr ⟨lw_p5, List.forall_mem_cons.mpr ⟨lw_p6, List.forall_mem_cons.mpr ⟨lw_p7, List.forall_mem_cons.mpr ⟨lw_p8, List.forall_mem_cons.mpr ⟨lw_p9, List.forall_mem_cons.mpr ⟨lw_p10, List.forall_mem_cons.mpr ⟨lw_p11, List.forall_mem_cons.mpr ⟨lw_p12, List.forall_mem_cons.mpr ⟨lw_p13, List.forall_mem_cons.mpr ⟨lw_p14, List.forall_mem_cons.mpr ⟨lw_p15, fun _ h => absurd h List.not_mem_nil⟩⟩⟩⟩⟩⟩⟩⟩⟩⟩⟩⟩⟩⟩⟩⟩
theorem lw_p16 : lw_okq (⟨"CutOnce$Sheet", "cutToLane", "(I)I"⟩, 4) := ⟨⟨by decide +kernel, by decide +kernel⟩, List.mem_of_getElem? (i := 121) (by decide +kernel), List.mem_of_getElem? (i := 553) (by decide +kernel), List.mem_of_getElem? (i := 554) (by decide +kernel)⟩
theorem lw_p17 : lw_okq (⟨"CutOnce", "comeLost", "(I)J"⟩, 7) := ⟨⟨by decide +kernel, by decide +kernel⟩, List.mem_of_getElem? (i := 11) (by decide +kernel), List.mem_of_getElem? (i := 561) (by decide +kernel), List.mem_of_getElem? (i := 562) (by decide +kernel)⟩
theorem lw_p18 : lw_okq (⟨"CutOnce", "leave", "(I)V"⟩, 7) := ⟨⟨by decide +kernel, by decide +kernel⟩, List.mem_of_getElem? (i := 11) (by decide +kernel), List.mem_of_getElem? (i := 584) (by decide +kernel), List.mem_of_getElem? (i := 585) (by decide +kernel)⟩
theorem lw_p19 : lw_okq (⟨"CutOnce", "sumBody", "(I)I"⟩, 7) := ⟨⟨by decide +kernel, by decide +kernel⟩, List.mem_of_getElem? (i := 11) (by decide +kernel), List.mem_of_getElem? (i := 588) (by decide +kernel), List.mem_of_getElem? (i := 589) (by decide +kernel)⟩
theorem lw_p20 : lw_okq (⟨"CutOnceModel", "changed", "()V"⟩, 23) := ⟨⟨by decide +kernel, by decide +kernel⟩, List.mem_of_getElem? (i := 624) (by decide +kernel), List.mem_of_getElem? (i := 708) (by decide +kernel), List.mem_of_getElem? (i := 709) (by decide +kernel)⟩
theorem lw_p21 : lw_okq (⟨"CutOnceModel", "sides", "()I"⟩, 23) := ⟨⟨by decide +kernel, by decide +kernel⟩, List.mem_of_getElem? (i := 624) (by decide +kernel), List.mem_of_getElem? (i := 712) (by decide +kernel), List.mem_of_getElem? (i := 713) (by decide +kernel)⟩
theorem lw_p22 : lw_okq (⟨"CutOnceModel", "across", "()I"⟩, 23) := ⟨⟨by decide +kernel, by decide +kernel⟩, List.mem_of_getElem? (i := 624) (by decide +kernel), List.mem_of_getElem? (i := 716) (by decide +kernel), List.mem_of_getElem? (i := 717) (by decide +kernel)⟩
theorem lw_p23 : lw_okq (⟨"CutOnceModel", "numberBelow", "(I)I"⟩, 23) := ⟨⟨by decide +kernel, by decide +kernel⟩, List.mem_of_getElem? (i := 624) (by decide +kernel), List.mem_of_getElem? (i := 724) (by decide +kernel), List.mem_of_getElem? (i := 725) (by decide +kernel)⟩
theorem lw_p24 : lw_okq (⟨"CutOnceModel", "noSide", "(I)Z"⟩, 23) := ⟨⟨by decide +kernel, by decide +kernel⟩, List.mem_of_getElem? (i := 624) (by decide +kernel), List.mem_of_getElem? (i := 736) (by decide +kernel), List.mem_of_getElem? (i := 737) (by decide +kernel)⟩
theorem lw_p25 : lw_okq (⟨"CutOnceModel", "noPiece", "(I)Z"⟩, 23) := ⟨⟨by decide +kernel, by decide +kernel⟩, List.mem_of_getElem? (i := 624) (by decide +kernel), List.mem_of_getElem? (i := 755) (by decide +kernel), List.mem_of_getElem? (i := 756) (by decide +kernel)⟩
theorem lw_p26 : lw_okq (⟨"CutOnceModel", "pieces", "()I"⟩, 23) := ⟨⟨by decide +kernel, by decide +kernel⟩, List.mem_of_getElem? (i := 624) (by decide +kernel), List.mem_of_getElem? (i := 759) (by decide +kernel), List.mem_of_getElem? (i := 760) (by decide +kernel)⟩
theorem lw_p27 : lw_okq (⟨"CutOnceModel", "sideAt", "(II)I"⟩, 23) := ⟨⟨by decide +kernel, by decide +kernel⟩, List.mem_of_getElem? (i := 624) (by decide +kernel), List.mem_of_getElem? (i := 764) (by decide +kernel), List.mem_of_getElem? (i := 765) (by decide +kernel)⟩
theorem lw_p28 : lw_okq (⟨"CutOnceModel", "heightAt", "(III)I"⟩, 23) := ⟨⟨by decide +kernel, by decide +kernel⟩, List.mem_of_getElem? (i := 624) (by decide +kernel), List.mem_of_getElem? (i := 772) (by decide +kernel), List.mem_of_getElem? (i := 773) (by decide +kernel)⟩
theorem lw_p29 : lw_okq (⟨"CutOnceModel", "farOf", "(IIII)I"⟩, 23) := ⟨⟨by decide +kernel, by decide +kernel⟩, List.mem_of_getElem? (i := 624) (by decide +kernel), List.mem_of_getElem? (i := 780) (by decide +kernel), List.mem_of_getElem? (i := 781) (by decide +kernel)⟩
theorem lw_p30 : lw_okq (⟨"CutOnceModel", "kindOf", "(I)I"⟩, 23) := ⟨⟨by decide +kernel, by decide +kernel⟩, List.mem_of_getElem? (i := 624) (by decide +kernel), List.mem_of_getElem? (i := 791) (by decide +kernel), List.mem_of_getElem? (i := 792) (by decide +kernel)⟩
theorem lw_p31 : lw_okq (⟨"CutOnceModel", "isBulge", "(I)Z"⟩, 23) := ⟨⟨by decide +kernel, by decide +kernel⟩, List.mem_of_getElem? (i := 624) (by decide +kernel), List.mem_of_getElem? (i := 795) (by decide +kernel), List.mem_of_getElem? (i := 796) (by decide +kernel)⟩
def lw_privs_2 : List (MethodName × Nat) := [(⟨"CutOnce$Sheet", "cutToLane", "(I)I"⟩, 4), (⟨"CutOnce", "comeLost", "(I)J"⟩, 7), (⟨"CutOnce", "leave", "(I)V"⟩, 7), (⟨"CutOnce", "sumBody", "(I)I"⟩, 7), (⟨"CutOnceModel", "changed", "()V"⟩, 23), (⟨"CutOnceModel", "sides", "()I"⟩, 23), (⟨"CutOnceModel", "across", "()I"⟩, 23), (⟨"CutOnceModel", "numberBelow", "(I)I"⟩, 23), (⟨"CutOnceModel", "noSide", "(I)Z"⟩, 23), (⟨"CutOnceModel", "noPiece", "(I)Z"⟩, 23), (⟨"CutOnceModel", "pieces", "()I"⟩, 23), (⟨"CutOnceModel", "sideAt", "(II)I"⟩, 23), (⟨"CutOnceModel", "heightAt", "(III)I"⟩, 23), (⟨"CutOnceModel", "farOf", "(IIII)I"⟩, 23), (⟨"CutOnceModel", "kindOf", "(I)I"⟩, 23), (⟨"CutOnceModel", "isBulge", "(I)Z"⟩, 23)]
theorem lw_r2 : ∀ q ∈ lw_privs_2, lw_okq q := List.forall_mem_cons.mpr ⟨lw_p16, List.forall_mem_cons.mpr ⟨lw_p17, List.forall_mem_cons.mpr ⟨lw_p18, List.forall_mem_cons.mpr ⟨lw_p19, List.forall_mem_cons.mpr ⟨lw_p20, List.forall_mem_cons.mpr ⟨lw_p21, List.forall_mem_cons.mpr ⟨lw_p22, List.forall_mem_cons.mpr ⟨lw_p23, List.forall_mem_cons.mpr ⟨lw_p24, List.forall_mem_cons.mpr ⟨lw_p25, List.forall_mem_cons.mpr ⟨lw_p26, List.forall_mem_cons.mpr ⟨lw_p27, List.forall_mem_cons.mpr ⟨lw_p28, List.forall_mem_cons.mpr ⟨lw_p29, List.forall_mem_cons.mpr ⟨lw_p30, List.forall_mem_cons.mpr ⟨lw_p31, fun _ h => absurd h List.not_mem_nil⟩⟩⟩⟩⟩⟩⟩⟩⟩⟩⟩⟩⟩⟩⟩⟩
theorem lw_p32 : lw_okq (⟨"CutOnceModel", "isLike", "(II)Z"⟩, 23) := ⟨⟨by decide +kernel, by decide +kernel⟩, List.mem_of_getElem? (i := 624) (by decide +kernel), List.mem_of_getElem? (i := 799) (by decide +kernel), List.mem_of_getElem? (i := 800) (by decide +kernel)⟩
theorem lw_p33 : lw_okq (⟨"CutOnceModel", "goThrough", "(I)V"⟩, 23) := ⟨⟨by decide +kernel, by decide +kernel⟩, List.mem_of_getElem? (i := 624) (by decide +kernel), List.mem_of_getElem? (i := 807) (by decide +kernel), List.mem_of_getElem? (i := 808) (by decide +kernel)⟩
theorem lw_p34 : lw_okq (⟨"CutOnceModel", "noPlace", "(I)Z"⟩, 23) := ⟨⟨by decide +kernel, by decide +kernel⟩, List.mem_of_getElem? (i := 624) (by decide +kernel), List.mem_of_getElem? (i := 831) (by decide +kernel), List.mem_of_getElem? (i := 832) (by decide +kernel)⟩
theorem lw_p35 : lw_okq (⟨"CutOnceModel", "isMissing", "(II)Z"⟩, 23) := ⟨⟨by decide +kernel, by decide +kernel⟩, List.mem_of_getElem? (i := 624) (by decide +kernel), List.mem_of_getElem? (i := 843) (by decide +kernel), List.mem_of_getElem? (i := 844) (by decide +kernel)⟩
theorem lw_p36 : lw_okq (⟨"CutOnceModel", "timesIn", "(I)I"⟩, 23) := ⟨⟨by decide +kernel, by decide +kernel⟩, List.mem_of_getElem? (i := 624) (by decide +kernel), List.mem_of_getElem? (i := 847) (by decide +kernel), List.mem_of_getElem? (i := 848) (by decide +kernel)⟩
theorem lw_p37 : lw_okq (⟨"CutOnceModel", "search", "(I)Z"⟩, 23) := ⟨⟨by decide +kernel, by decide +kernel⟩, List.mem_of_getElem? (i := 624) (by decide +kernel), List.mem_of_getElem? (i := 860) (by decide +kernel), List.mem_of_getElem? (i := 861) (by decide +kernel)⟩
theorem lw_p38 : lw_okq (⟨"CutOnceModel", "fits", "(I)Z"⟩, 23) := ⟨⟨by decide +kernel, by decide +kernel⟩, List.mem_of_getElem? (i := 624) (by decide +kernel), List.mem_of_getElem? (i := 865) (by decide +kernel), List.mem_of_getElem? (i := 866) (by decide +kernel)⟩
theorem lw_p39 : lw_okq (⟨"CutOnceModel", "isFlat", "(II)Z"⟩, 23) := ⟨⟨by decide +kernel, by decide +kernel⟩, List.mem_of_getElem? (i := 624) (by decide +kernel), List.mem_of_getElem? (i := 869) (by decide +kernel), List.mem_of_getElem? (i := 870) (by decide +kernel)⟩
theorem lw_p40 : lw_okq (⟨"CutOnceModel", "edgeOn", "(II)I"⟩, 23) := ⟨⟨by decide +kernel, by decide +kernel⟩, List.mem_of_getElem? (i := 624) (by decide +kernel), List.mem_of_getElem? (i := 873) (by decide +kernel), List.mem_of_getElem? (i := 874) (by decide +kernel)⟩
theorem lw_p41 : lw_okq (⟨"CutOnceModel", "meets", "(IIII)Z"⟩, 23) := ⟨⟨by decide +kernel, by decide +kernel⟩, List.mem_of_getElem? (i := 624) (by decide +kernel), List.mem_of_getElem? (i := 877) (by decide +kernel), List.mem_of_getElem? (i := 878) (by decide +kernel)⟩
theorem lw_p42 : lw_okq (⟨"CutOnceModel", "neighbour", "(II)I"⟩, 23) := ⟨⟨by decide +kernel, by decide +kernel⟩, List.mem_of_getElem? (i := 624) (by decide +kernel), List.mem_of_getElem? (i := 897) (by decide +kernel), List.mem_of_getElem? (i := 898) (by decide +kernel)⟩
theorem lw_p43 : lw_okq (⟨"CutOnceModel", "refused", "(I)I"⟩, 23) := ⟨⟨by decide +kernel, by decide +kernel⟩, List.mem_of_getElem? (i := 624) (by decide +kernel), List.mem_of_getElem? (i := 908) (by decide +kernel), List.mem_of_getElem? (i := 909) (by decide +kernel)⟩
theorem lw_p44 : lw_okq (⟨"CutOnceModel", "failed", "(I)I"⟩, 23) := ⟨⟨by decide +kernel, by decide +kernel⟩, List.mem_of_getElem? (i := 624) (by decide +kernel), List.mem_of_getElem? (i := 913) (by decide +kernel), List.mem_of_getElem? (i := 914) (by decide +kernel)⟩
theorem lw_p45 : lw_okq (⟨"CutOnceModel", "noCell", "(II)I"⟩, 23) := ⟨⟨by decide +kernel, by decide +kernel⟩, List.mem_of_getElem? (i := 624) (by decide +kernel), List.mem_of_getElem? (i := 925) (by decide +kernel), List.mem_of_getElem? (i := 926) (by decide +kernel)⟩
theorem lw_p46 : lw_okq (⟨"CutOnceModel", "failedLong", "(I)J"⟩, 23) := ⟨⟨by decide +kernel, by decide +kernel⟩, List.mem_of_getElem? (i := 624) (by decide +kernel), List.mem_of_getElem? (i := 933) (by decide +kernel), List.mem_of_getElem? (i := 934) (by decide +kernel)⟩
theorem lw_p47 : lw_okq (⟨"CutOnceModel", "traced", "(I)V"⟩, 23) := ⟨⟨by decide +kernel, by decide +kernel⟩, List.mem_of_getElem? (i := 624) (by decide +kernel), List.mem_of_getElem? (i := 952) (by decide +kernel), List.mem_of_getElem? (i := 953) (by decide +kernel)⟩
def lw_privs_3 : List (MethodName × Nat) := [(⟨"CutOnceModel", "isLike", "(II)Z"⟩, 23), (⟨"CutOnceModel", "goThrough", "(I)V"⟩, 23), (⟨"CutOnceModel", "noPlace", "(I)Z"⟩, 23), (⟨"CutOnceModel", "isMissing", "(II)Z"⟩, 23), (⟨"CutOnceModel", "timesIn", "(I)I"⟩, 23), (⟨"CutOnceModel", "search", "(I)Z"⟩, 23), (⟨"CutOnceModel", "fits", "(I)Z"⟩, 23), (⟨"CutOnceModel", "isFlat", "(II)Z"⟩, 23), (⟨"CutOnceModel", "edgeOn", "(II)I"⟩, 23), (⟨"CutOnceModel", "meets", "(IIII)Z"⟩, 23), (⟨"CutOnceModel", "neighbour", "(II)I"⟩, 23), (⟨"CutOnceModel", "refused", "(I)I"⟩, 23), (⟨"CutOnceModel", "failed", "(I)I"⟩, 23), (⟨"CutOnceModel", "noCell", "(II)I"⟩, 23), (⟨"CutOnceModel", "failedLong", "(I)J"⟩, 23), (⟨"CutOnceModel", "traced", "(I)V"⟩, 23)]
theorem lw_r3 : ∀ q ∈ lw_privs_3, lw_okq q := List.forall_mem_cons.mpr ⟨lw_p32, List.forall_mem_cons.mpr ⟨lw_p33, List.forall_mem_cons.mpr ⟨lw_p34, List.forall_mem_cons.mpr ⟨lw_p35, List.forall_mem_cons.mpr ⟨lw_p36, List.forall_mem_cons.mpr ⟨lw_p37, List.forall_mem_cons.mpr ⟨lw_p38, List.forall_mem_cons.mpr ⟨lw_p39, List.forall_mem_cons.mpr ⟨lw_p40, List.forall_mem_cons.mpr ⟨lw_p41, List.forall_mem_cons.mpr ⟨lw_p42, List.forall_mem_cons.mpr ⟨lw_p43, List.forall_mem_cons.mpr ⟨lw_p44, List.forall_mem_cons.mpr ⟨lw_p45, List.forall_mem_cons.mpr ⟨lw_p46, List.forall_mem_cons.mpr ⟨lw_p47, fun _ h => absurd h List.not_mem_nil⟩⟩⟩⟩⟩⟩⟩⟩⟩⟩⟩⟩⟩⟩⟩⟩
def lw_privs : List (MethodName × Nat) := lw_privs_1 ++ (lw_privs_2 ++ (lw_privs_3))
def lw_tbl : List Cond := k2_sels lw_privs ++ tables_1
theorem lw_privs_ok : ∀ q ∈ lw_privs, lw_okq q := by
  show ∀ q ∈ lw_privs_1 ++ (lw_privs_2 ++ (lw_privs_3)), lw_okq q
  exact List.forall_mem_append.mpr ⟨lw_r1, List.forall_mem_append.mpr ⟨lw_r2, lw_r3⟩⟩
-- ===== end of PART A; then your names; then what follows =====
end
section
/-! ===== BEGIN words of one list among another's, by their places ===== -/
theorem goodIn_r {big : List Cond} (ws : List Cond) (ps : List Nat) (hp : ws = ps.filterMap (fun i => big[i]?)) (h : ws.all goodWord = true) : GoodIn big ws := by
  intro w hw
  have h1 := List.all_eq_true.mp h w hw
  rw [hp] at hw
  obtain ⟨i, -, hi⟩ := List.mem_filterMap.mp hw
  have hm : w ∈ big := by first | exact List.mem_of_getElem? hi | exact List.getElem?_mem hi
  exact ⟨hm, good_of_word h1⟩
theorem goodIn_app {big a b : List Cond} (ha : GoodIn big a) (hb : GoodIn big b) : GoodIn big (a ++ b) := fun w h => (List.mem_append.mp h).elim (ha w) (hb w)
theorem goodIn_ca {big a b : List Cond} {c : Cond} (ha : GoodIn big (c :: a)) (hb : GoodIn big b) : GoodIn big (c :: (a ++ b)) := fun w h => (List.mem_cons.mp h).elim (fun e => ha w (List.mem_cons.mpr (Or.inl e))) (fun h => (List.mem_append.mp h).elim (fun h => ha w (List.mem_cons.mpr (Or.inr h))) (hb w))
theorem goodIn_sub {big ws : List Cond} (hm : ∀ w ∈ ws, w ∈ big) (h : ws.all goodWord = true) : GoodIn big ws := fun w hw => ⟨hm w hw, good_of_word (List.all_eq_true.mp h w hw)⟩
/-! ===== END ===== -/

/-! ===== BEGIN printed: names, fields, word lists, decode rows ===== -/
def RX0 : String := "CutOnce$Draw"
def TX0 : u_T := fun k => match k with
  | _ => ("CutOnce$Draw", "now", "J", false)
def tyX0 : Nat → FieldType := fun k => match k with
  | _ => .long
abbrev wsX00 : List Cond := u_ws RX0 TX0 1
theorem nmX0 : ∀ a, a < 1 → ∀ b, b < 1 → a ≠ b → (TX0 a).2.1 ≠ (TX0 b).2.1 := by decide +kernel
theorem tyX0_ok : ∀ k, k < 1 → parseFieldDescriptor (TX0 k).2.2.1 = some (tyX0 k) := by decide +kernel
abbrev cX0_init : ByteArray := prog_2_method_1_code
def yX0_init : MethodName := ⟨RX0, "<init>", "()V"⟩
abbrev cX0_begin : ByteArray := prog_2_method_2_code
def yX0_begin : MethodName := ⟨RX0, "begin", "(J)V"⟩
abbrev cX0_below : ByteArray := prog_2_method_3_code
def yX0_below : MethodName := ⟨RX0, "below", "(I)I"⟩
def RX1 : String := "CutOnce$Picture"
def TX1 : u_T := fun k => match k with
  | 0 => ("CutOnce$Picture", "heights", "[I", true)
  | 1 => ("CutOnce$Picture", "sideOfEdge", "[I", true)
  | 2 => ("CutOnce$Picture", "w", "I", false)
  | _ => ("CutOnce$Picture", "h", "I", false)
def tyX1 : Nat → FieldType := fun k => match k with
  | 0 => .array .int
  | 1 => .array .int
  | 2 => .int
  | _ => .int
abbrev wsX10 : List Cond := u_ws RX1 TX1 4
theorem nmX1 : ∀ a, a < 4 → ∀ b, b < 4 → a ≠ b → (TX1 a).2.1 ≠ (TX1 b).2.1 := by decide +kernel
theorem tyX1_ok : ∀ k, k < 4 → parseFieldDescriptor (TX1 k).2.2.1 = some (tyX1 k) := by decide +kernel
abbrev cX1_init : ByteArray := prog_3_method_1_code
def yX1_init : MethodName := ⟨RX1, "<init>", "()V"⟩
abbrev cX1_cutAnew : ByteArray := prog_3_method_2_code
def yX1_cutAnew : MethodName := ⟨RX1, "cutAnew", "(II)V"⟩
abbrev cX1_layEdges : ByteArray := prog_3_method_3_code
def yX1_layEdges : MethodName := ⟨RX1, "layEdges", "(II)V"⟩
abbrev cX1_width : ByteArray := prog_3_method_4_code
def yX1_width : MethodName := ⟨RX1, "width", "()I"⟩
abbrev cX1_depth : ByteArray := prog_3_method_5_code
def yX1_depth : MethodName := ⟨RX1, "depth", "()I"⟩
abbrev cX1_pieces : ByteArray := prog_3_method_6_code
def yX1_pieces : MethodName := ⟨RX1, "pieces", "()I"⟩
abbrev cX1_sides : ByteArray := prog_3_method_7_code
def yX1_sides : MethodName := ⟨RX1, "sides", "()I"⟩
abbrev cX1_hasSide : ByteArray := prog_3_method_8_code
def yX1_hasSide : MethodName := ⟨RX1, "hasSide", "(I)Z"⟩
abbrev cX1_hasPiece : ByteArray := prog_3_method_9_code
def yX1_hasPiece : MethodName := ⟨RX1, "hasPiece", "(I)Z"⟩
abbrev cX1_hasEdge : ByteArray := prog_3_method_10_code
def yX1_hasEdge : MethodName := ⟨RX1, "hasEdge", "(II)Z"⟩
abbrev cX1_sideAt : ByteArray := prog_3_method_11_code
def yX1_sideAt : MethodName := ⟨RX1, "sideAt", "(II)I"⟩
abbrev cX1_isFlat : ByteArray := prog_3_method_12_code
def yX1_isFlat : MethodName := ⟨RX1, "isFlat", "(II)Z"⟩
abbrev cX1_nextTo : ByteArray := prog_3_method_13_code
def yX1_nextTo : MethodName := ⟨RX1, "nextTo", "(II)I"⟩
abbrev cX1_setHeight : ByteArray := prog_3_method_14_code
def yX1_setHeight : MethodName := ⟨RX1, "setHeight", "(III)V"⟩
abbrev cX1_heightAt : ByteArray := prog_3_method_15_code
def yX1_heightAt : MethodName := ⟨RX1, "heightAt", "(III)I"⟩
abbrev cX1_edgeHeight : ByteArray := prog_3_method_16_code
def yX1_edgeHeight : MethodName := ⟨RX1, "edgeHeight", "(III)I"⟩
abbrev cX1_farness : ByteArray := prog_3_method_17_code
def yX1_farness : MethodName := ⟨RX1, "farness", "(IIII)I"⟩
abbrev cX1_sumOf : ByteArray := prog_3_method_18_code
def yX1_sumOf : MethodName := ⟨RX1, "sumOf", "(I)I"⟩
abbrev cX1_kindAt : ByteArray := prog_3_method_19_code
def yX1_kindAt : MethodName := ⟨RX1, "kindAt", "(I)I"⟩
abbrev cX1_bulges : ByteArray := prog_3_method_20_code
def yX1_bulges : MethodName := ⟨RX1, "bulges", "(I)Z"⟩
abbrev cX1_differing : ByteArray := prog_3_method_21_code
def yX1_differing : MethodName := ⟨RX1, "differing", "(III)I"⟩
abbrev cX1_giveShape : ByteArray := prog_3_method_22_code
def yX1_giveShape : MethodName := ⟨RX1, "giveShape", "(III)I"⟩
abbrev cX1_leastFar : ByteArray := prog_3_method_23_code
def yX1_leastFar : MethodName := ⟨RX1, "leastFar", "()I"⟩
abbrev cX1_pairsWithin : ByteArray := prog_3_method_24_code
def yX1_pairsWithin : MethodName := ⟨RX1, "pairsWithin", "(I)I"⟩
abbrev cX1_strangersApart : ByteArray := prog_3_method_25_code
def yX1_strangersApart : MethodName := ⟨RX1, "strangersApart", "(II)I"⟩
def RX2 : String := "CutOnce$Pile"
def TX2 : u_T := fun k => match k with
  | 0 => ("CutOnce$Pile", "pieceOf", "[I", true)
  | 1 => ("CutOnce$Pile", "turnOf", "[I", true)
  | _ => ("CutOnce$Pile", "count", "I", false)
def tyX2 : Nat → FieldType := fun k => match k with
  | 0 => .array .int
  | 1 => .array .int
  | _ => .int
abbrev wsX20 : List Cond := u_ws RX2 TX2 3
theorem nmX2 : ∀ a, a < 3 → ∀ b, b < 3 → a ≠ b → (TX2 a).2.1 ≠ (TX2 b).2.1 := by decide +kernel
theorem tyX2_ok : ∀ k, k < 3 → parseFieldDescriptor (TX2 k).2.2.1 = some (tyX2 k) := by decide +kernel
abbrev cX2_init : ByteArray := prog_4_method_1_code
def yX2_init : MethodName := ⟨RX2, "<init>", "()V"⟩
abbrev cX2_size : ByteArray := prog_4_method_2_code
def yX2_size : MethodName := ⟨RX2, "size", "()I"⟩
abbrev cX2_isFull : ByteArray := prog_4_method_3_code
def yX2_isFull : MethodName := ⟨RX2, "isFull", "()Z"⟩
abbrev cX2_hasPlace : ByteArray := prog_4_method_4_code
def yX2_hasPlace : MethodName := ⟨RX2, "hasPlace", "(I)Z"⟩
abbrev cX2_pieceAt : ByteArray := prog_4_method_5_code
def yX2_pieceAt : MethodName := ⟨RX2, "pieceAt", "(I)I"⟩
abbrev cX2_turnAt : ByteArray := prog_4_method_6_code
def yX2_turnAt : MethodName := ⟨RX2, "turnAt", "(I)I"⟩
abbrev cX2_clearAll : ByteArray := prog_4_method_7_code
def yX2_clearAll : MethodName := ⟨RX2, "clearAll", "()V"⟩
abbrev cX2_append : ByteArray := prog_4_method_8_code
def yX2_append : MethodName := ⟨RX2, "append", "(II)V"⟩
abbrev cX2_setTurn : ByteArray := prog_4_method_9_code
def yX2_setTurn : MethodName := ⟨RX2, "setTurn", "(II)V"⟩
abbrev cX2_swapPieces : ByteArray := prog_4_method_10_code
def yX2_swapPieces : MethodName := ⟨RX2, "swapPieces", "(II)V"⟩
abbrev cX2_removeAt : ByteArray := prog_4_method_11_code
def yX2_removeAt : MethodName := ⟨RX2, "removeAt", "(I)V"⟩
abbrev cX2_timesOf : ByteArray := prog_4_method_12_code
def yX2_timesOf : MethodName := ⟨RX2, "timesOf", "(I)I"⟩
def RX3 : String := "CutOnce$Search"
def TX3 : u_T := fun k => match k with
  | 0 => ("CutOnce$Search", "goal", "LCutOnce$Picture;", true)
  | 1 => ("CutOnce$Search", "pile", "LCutOnce$Pile;", true)
  | 2 => ("CutOnce$Search", "shown", "[I", true)
  | 3 => ("CutOnce$Search", "fitting", "[I", true)
  | 4 => ("CutOnce$Search", "wanted", "[I", true)
  | 5 => ("CutOnce$Search", "used", "[Z", true)
  | 6 => ("CutOnce$Search", "lying", "[I", true)
  | 7 => ("CutOnce$Search", "joinedLying", "[I", true)
  | 8 => ("CutOnce$Search", "joinedOnce", "Z", false)
  | 9 => ("CutOnce$Search", "firstOnly", "Z", false)
  | 10 => ("CutOnce$Search", "spent", "Z", false)
  | 11 => ("CutOnce$Search", "found", "I", false)
  | _ => ("CutOnce$Search", "trialCount", "I", false)
def tyX3 : Nat → FieldType := fun k => match k with
  | 0 => .object "CutOnce$Picture"
  | 1 => .object "CutOnce$Pile"
  | 2 => .array .int
  | 3 => .array .int
  | 4 => .array .int
  | 5 => .array .boolean
  | 6 => .array .int
  | 7 => .array .int
  | 8 => .boolean
  | 9 => .boolean
  | 10 => .boolean
  | 11 => .int
  | _ => .int
abbrev wsX30 : List Cond := u_ws RX3 TX3 13
theorem nmX3 : ∀ a, a < 13 → ∀ b, b < 13 → a ≠ b → (TX3 a).2.1 ≠ (TX3 b).2.1 := by decide +kernel
theorem tyX3_ok : ∀ k, k < 13 → parseFieldDescriptor (TX3 k).2.2.1 = some (tyX3 k) := by decide +kernel
abbrev cX3_init : ByteArray := prog_5_method_1_code
def yX3_init : MethodName := ⟨RX3, "<init>", "(LCutOnce$Picture;LCutOnce$Pile;)V"⟩
abbrev cX3_trialsCounted : ByteArray := prog_5_method_2_code
def yX3_trialsCounted : MethodName := ⟨RX3, "trialsCounted", "()I"⟩
abbrev cX3_hasJoined : ByteArray := prog_5_method_3_code
def yX3_hasJoined : MethodName := ⟨RX3, "hasJoined", "()Z"⟩
abbrev cX3_forgetJoined : ByteArray := prog_5_method_4_code
def yX3_forgetJoined : MethodName := ⟨RX3, "forgetJoined", "()V"⟩
abbrev cX3_joinedFrom : ByteArray := prog_5_method_5_code
def yX3_joinedFrom : MethodName := ⟨RX3, "joinedFrom", "(I)I"⟩
abbrev cX3_joinedTurn : ByteArray := prog_5_method_6_code
def yX3_joinedTurn : MethodName := ⟨RX3, "joinedTurn", "(I)I"⟩
abbrev cX3_countWays : ByteArray := prog_5_method_7_code
def yX3_countWays : MethodName := ⟨RX3, "countWays", "()I"⟩
abbrev cX3_findFirst : ByteArray := prog_5_method_8_code
def yX3_findFirst : MethodName := ⟨RX3, "findFirst", "()I"⟩
abbrev cX3_run : ByteArray := prog_5_method_9_code
def yX3_run : MethodName := ⟨RX3, "run", "(Z)V"⟩
abbrev cX3_readEdges : ByteArray := prog_5_method_10_code
def yX3_readEdges : MethodName := ⟨RX3, "readEdges", "(I)V"⟩
abbrev cX3_codeOf : ByteArray := prog_5_method_11_code
def yX3_codeOf : MethodName := ⟨RX3, "codeOf", "(II)I"⟩
abbrev cX3_mateOf : ByteArray := prog_5_method_12_code
def yX3_mateOf : MethodName := ⟨RX3, "mateOf", "(II)I"⟩
abbrev cX3_fillFrom : ByteArray := prog_5_method_13_code
def yX3_fillFrom : MethodName := ⟨RX3, "fillFrom", "(I)V"⟩
abbrev cX3_lookAround : ByteArray := prog_5_method_14_code
def yX3_lookAround : MethodName := ⟨RX3, "lookAround", "(I)V"⟩
abbrev cX3_fits : ByteArray := prog_5_method_15_code
def yX3_fits : MethodName := ⟨RX3, "fits", "(I)Z"⟩
def RX4 : String := "CutOnce$Sheet"
def TX4 : u_T := fun k => match k with
  | 0 => ("CutOnce$Sheet", "cells", "[I", true)
  | 1 => ("CutOnce$Sheet", "there", "Z", false)
  | 2 => ("CutOnce$Sheet", "lane", "I", false)
  | _ => ("CutOnce$Sheet", "length", "I", false)
def tyX4 : Nat → FieldType := fun k => match k with
  | 0 => .array .int
  | 1 => .boolean
  | 2 => .int
  | _ => .int
abbrev wsX40 : List Cond := u_ws RX4 TX4 4
theorem nmX4 : ∀ a, a < 4 → ∀ b, b < 4 → a ≠ b → (TX4 a).2.1 ≠ (TX4 b).2.1 := by decide +kernel
theorem tyX4_ok : ∀ k, k < 4 → parseFieldDescriptor (TX4 k).2.2.1 = some (tyX4 k) := by decide +kernel
abbrev cX4_init : ByteArray := prog_6_method_1_code
def yX4_init : MethodName := ⟨RX4, "<init>", "()V"⟩
abbrev cX4_isThere : ByteArray := prog_6_method_2_code
def yX4_isThere : MethodName := ⟨RX4, "isThere", "()Z"⟩
abbrev cX4_laneHeld : ByteArray := prog_6_method_3_code
def yX4_laneHeld : MethodName := ⟨RX4, "laneHeld", "()I"⟩
abbrev cX4_isOfOther : ByteArray := prog_6_method_4_code
def yX4_isOfOther : MethodName := ⟨RX4, "isOfOther", "(I)Z"⟩
abbrev cX4_renew : ByteArray := prog_6_method_5_code
def yX4_renew : MethodName := ⟨RX4, "renew", "(II)V"⟩
abbrev cX4_drop : ByteArray := prog_6_method_6_code
def yX4_drop : MethodName := ⟨RX4, "drop", "()V"⟩
abbrev cX4_holds : ByteArray := prog_6_method_7_code
def yX4_holds : MethodName := ⟨RX4, "holds", "(IJ)Z"⟩
abbrev cX4_read : ByteArray := prog_6_method_8_code
def yX4_read : MethodName := ⟨RX4, "read", "(I)I"⟩
abbrev cX4_write : ByteArray := prog_6_method_9_code
def yX4_write : MethodName := ⟨RX4, "write", "(II)V"⟩
abbrev cX4_cutToLane : ByteArray := prog_6_method_10_code
def yX4_cutToLane : MethodName := ⟨RX4, "cutToLane", "(I)I"⟩
abbrev cX4_writeFrom : ByteArray := prog_6_method_11_code
def yX4_writeFrom : MethodName := ⟨RX4, "writeFrom", "(LCutOnce$Sheet;III)V"⟩
def RX5 : String := "CutOnce"
def TX5 : u_T := fun k => match k with
  | 0 => ("CutOnce", "thePicture", "LCutOnce$Picture;", true)
  | 1 => ("CutOnce", "thePile", "LCutOnce$Pile;", true)
  | 2 => ("CutOnce", "theSearch", "LCutOnce$Search;", true)
  | 3 => ("CutOnce", "theDraw", "LCutOnce$Draw;", true)
  | 4 => ("CutOnce", "sheets", "[LCutOnce$Sheet;", true)
  | 5 => ("CutOnce", "traceLeft", "I", false)
  | _ => ("CutOnce", "latestFault", "I", false)
def tyX5 : Nat → FieldType := fun k => match k with
  | 0 => .object "CutOnce$Picture"
  | 1 => .object "CutOnce$Pile"
  | 2 => .object "CutOnce$Search"
  | 3 => .object "CutOnce$Draw"
  | 4 => .array (.object "CutOnce$Sheet")
  | 5 => .int
  | _ => .int
abbrev wsX50 : List Cond := u_ws RX5 TX5 7
theorem nmX5 : ∀ a, a < 7 → ∀ b, b < 7 → a ≠ b → (TX5 a).2.1 ≠ (TX5 b).2.1 := by decide +kernel
theorem tyX5_ok : ∀ k, k < 7 → parseFieldDescriptor (TX5 k).2.2.1 = some (tyX5 k) := by decide +kernel
abbrev cX5_init : ByteArray := prog_1_method_1_code
def yX5_init : MethodName := ⟨RX5, "<init>", "()V"⟩
abbrev cX5_picture : ByteArray := prog_1_method_2_code
def yX5_picture : MethodName := ⟨RX5, "picture", "(II)I"⟩
abbrev cX5_make : ByteArray := prog_1_method_3_code
def yX5_make : MethodName := ⟨RX5, "make", "(J)I"⟩
abbrev cX5_bend : ByteArray := prog_1_method_4_code
def yX5_bend : MethodName := ⟨RX5, "bend", "(III)J"⟩
abbrev cX5_height : ByteArray := prog_1_method_5_code
def yX5_height : MethodName := ⟨RX5, "height", "(II)J"⟩
abbrev cX5_shape : ByteArray := prog_1_method_6_code
def yX5_shape : MethodName := ⟨RX5, "shape", "(IIIII)I"⟩
abbrev cX5_sideOf : ByteArray := prog_1_method_7_code
def yX5_sideOf : MethodName := ⟨RX5, "sideOf", "(II)I"⟩
abbrev cX5_edge : ByteArray := prog_1_method_8_code
def yX5_edge : MethodName := ⟨RX5, "edge", "(III)J"⟩
abbrev cX5_far : ByteArray := prog_1_method_9_code
def yX5_far : MethodName := ⟨RX5, "far", "(IIII)I"⟩
abbrev cX5_kind : ByteArray := prog_1_method_10_code
def yX5_kind : MethodName := ⟨RX5, "kind", "(I)I"⟩
abbrev cX5_unlike : ByteArray := prog_1_method_11_code
def yX5_unlike : MethodName := ⟨RX5, "unlike", "()I"⟩
abbrev cX5_traps : ByteArray := prog_1_method_12_code
def yX5_traps : MethodName := ⟨RX5, "traps", "(I)I"⟩
abbrev cX5_alike : ByteArray := prog_1_method_13_code
def yX5_alike : MethodName := ⟨RX5, "alike", "(III)I"⟩
abbrev cX5_lay : ByteArray := prog_1_method_14_code
def yX5_lay : MethodName := ⟨RX5, "lay", "(II)I"⟩
abbrev cX5_heap : ByteArray := prog_1_method_15_code
def yX5_heap : MethodName := ⟨RX5, "heap", "(J)I"⟩
abbrev cX5_take : ByteArray := prog_1_method_16_code
def yX5_take : MethodName := ⟨RX5, "take", "(I)I"⟩
abbrev cX5_heaped : ByteArray := prog_1_method_17_code
def yX5_heaped : MethodName := ⟨RX5, "heaped", "(II)I"⟩
abbrev cX5_missing : ByteArray := prog_1_method_18_code
def yX5_missing : MethodName := ⟨RX5, "missing", "(I)I"⟩
abbrev cX5_missed : ByteArray := prog_1_method_19_code
def yX5_missed : MethodName := ⟨RX5, "missed", "(II)I"⟩
abbrev cX5_ways : ByteArray := prog_1_method_20_code
def yX5_ways : MethodName := ⟨RX5, "ways", "()I"⟩
abbrev cX5_join : ByteArray := prog_1_method_21_code
def yX5_join : MethodName := ⟨RX5, "join", "()I"⟩
abbrev cX5_joined : ByteArray := prog_1_method_22_code
def yX5_joined : MethodName := ⟨RX5, "joined", "(II)I"⟩
abbrev cX5_trials : ByteArray := prog_1_method_23_code
def yX5_trials : MethodName := ⟨RX5, "trials", "()I"⟩
abbrev cX5_known : ByteArray := prog_1_method_24_code
def yX5_known : MethodName := ⟨RX5, "known", "(I)I"⟩
abbrev cX5_sheet : ByteArray := prog_1_method_25_code
def yX5_sheet : MethodName := ⟨RX5, "sheet", "(III)I"⟩
abbrev cX5_lose : ByteArray := prog_1_method_26_code
def yX5_lose : MethodName := ⟨RX5, "lose", "(I)I"⟩
abbrev cX5_put : ByteArray := prog_1_method_27_code
def yX5_put : MethodName := ⟨RX5, "put", "(III)I"⟩
abbrev cX5_cell : ByteArray := prog_1_method_28_code
def yX5_cell : MethodName := ⟨RX5, "cell", "(III)J"⟩
abbrev cX5_copy : ByteArray := prog_1_method_29_code
def yX5_copy : MethodName := ⟨RX5, "copy", "(IIIII)I"⟩
abbrev cX5_tell : ByteArray := prog_1_method_30_code
def yX5_tell : MethodName := ⟨RX5, "tell", "(I)I"⟩
abbrev cX5_mark : ByteArray := prog_1_method_31_code
def yX5_mark : MethodName := ⟨RX5, "mark", "(I)I"⟩
abbrev cX5_as : ByteArray := prog_1_method_32_code
def yX5_as : MethodName := ⟨RX5, "as", "(II)I"⟩
abbrev cX5_trace : ByteArray := prog_1_method_33_code
def yX5_trace : MethodName := ⟨RX5, "trace", "()I"⟩
abbrev cX5_fault : ByteArray := prog_1_method_34_code
def yX5_fault : MethodName := ⟨RX5, "fault", "()I"⟩
abbrev cX5_told : ByteArray := prog_1_method_35_code
def yX5_told : MethodName := ⟨RX5, "told", "(I)I"⟩
abbrev cX5_isHeightPlace : ByteArray := prog_1_method_36_code
def yX5_isHeightPlace : MethodName := ⟨RX5, "isHeightPlace", "(I)Z"⟩
abbrev cX5_isHeight : ByteArray := prog_1_method_37_code
def yX5_isHeight : MethodName := ⟨RX5, "isHeight", "(I)Z"⟩
abbrev cX5_isSheet : ByteArray := prog_1_method_38_code
def yX5_isSheet : MethodName := ⟨RX5, "isSheet", "(I)Z"⟩
abbrev cX5_isLane : ByteArray := prog_1_method_39_code
def yX5_isLane : MethodName := ⟨RX5, "isLane", "(I)Z"⟩
abbrev cX5_isMissingWhat : ByteArray := prog_1_method_40_code
def yX5_isMissingWhat : MethodName := ⟨RX5, "isMissingWhat", "(I)Z"⟩
abbrev cX5_areHeights : ByteArray := prog_1_method_41_code
def yX5_areHeights : MethodName := ⟨RX5, "areHeights", "(LCutOnce$Sheet;II)Z"⟩
abbrev cX5_shapeFrom : ByteArray := prog_1_method_42_code
def yX5_shapeFrom : MethodName := ⟨RX5, "shapeFrom", "(LCutOnce$Sheet;III)V"⟩
abbrev cX5_isMissing : ByteArray := prog_1_method_43_code
def yX5_isMissing : MethodName := ⟨RX5, "isMissing", "(II)Z"⟩
abbrev cX5_countMissing : ByteArray := prog_1_method_44_code
def yX5_countMissing : MethodName := ⟨RX5, "countMissing", "(I)I"⟩
abbrev cX5_missingPiece : ByteArray := prog_1_method_45_code
def yX5_missingPiece : MethodName := ⟨RX5, "missingPiece", "(II)I"⟩
abbrev cX5_sumBody : ByteArray := prog_1_method_46_code
def yX5_sumBody : MethodName := ⟨RX5, "sumBody", "(I)I"⟩
abbrev cX5_leave : ByteArray := prog_1_method_47_code
def yX5_leave : MethodName := ⟨RX5, "leave", "(I)V"⟩
abbrev cX5_come : ByteArray := prog_1_method_48_code
def yX5_come : MethodName := ⟨RX5, "come", "(I)I"⟩
abbrev cX5_comeLost : ByteArray := prog_1_method_49_code
def yX5_comeLost : MethodName := ⟨RX5, "comeLost", "(I)J"⟩
def RX6 : String := "CutOnceModel"
def TX6 : u_T := fun k => match k with
  | 0 => ("CutOnceModel", "fault", "I", false)
  | 1 => ("CutOnceModel", "wide", "I", false)
  | 2 => ("CutOnceModel", "high", "I", false)
  | 3 => ("CutOnceModel", "heights", "[I", true)
  | 4 => ("CutOnceModel", "draw", "J", false)
  | 5 => ("CutOnceModel", "leastFar", "I", false)
  | 6 => ("CutOnceModel", "near", "I", false)
  | 7 => ("CutOnceModel", "heaped", "I", false)
  | 8 => ("CutOnceModel", "piece", "[I", true)
  | 9 => ("CutOnceModel", "turn", "[I", true)
  | 10 => ("CutOnceModel", "tried", "I", false)
  | 11 => ("CutOnceModel", "found", "I", false)
  | 12 => ("CutOnceModel", "at", "[I", true)
  | 13 => ("CutOnceModel", "further", "[I", true)
  | 14 => ("CutOnceModel", "isUsed", "[Z", true)
  | 15 => ("CutOnceModel", "isJoined", "Z", false)
  | 16 => ("CutOnceModel", "joinedAt", "[I", true)
  | 17 => ("CutOnceModel", "joinedTurn", "[I", true)
  | 18 => ("CutOnceModel", "sheetSize", "[I", true)
  | 19 => ("CutOnceModel", "sheetLane", "[I", true)
  | 20 => ("CutOnceModel", "sheet", "[I", true)
  | 21 => ("CutOnceModel", "hands", "[I", true)
  | _ => ("CutOnceModel", "trace", "I", false)
def tyX6 : Nat → FieldType := fun k => match k with
  | 0 => .int
  | 1 => .int
  | 2 => .int
  | 3 => .array .int
  | 4 => .long
  | 5 => .int
  | 6 => .int
  | 7 => .int
  | 8 => .array .int
  | 9 => .array .int
  | 10 => .int
  | 11 => .int
  | 12 => .array .int
  | 13 => .array .int
  | 14 => .array .boolean
  | 15 => .boolean
  | 16 => .array .int
  | 17 => .array .int
  | 18 => .array .int
  | 19 => .array .int
  | 20 => .array .int
  | 21 => .array .int
  | _ => .int
abbrev wsX60 : List Cond := u_ws RX6 TX6 23
theorem nmX6 : ∀ a, a < 23 → ∀ b, b < 23 → a ≠ b → (TX6 a).2.1 ≠ (TX6 b).2.1 := by decide +kernel
theorem tyX6_ok : ∀ k, k < 23 → parseFieldDescriptor (TX6 k).2.2.1 = some (tyX6 k) := by decide +kernel
abbrev cX6_init : ByteArray := prog_8_method_1_code
def yX6_init : MethodName := ⟨RX6, "<init>", "()V"⟩
abbrev cX6_in : ByteArray := prog_8_method_2_code
def yX6_in : MethodName := ⟨RX6, "in", "(JJJ)Z"⟩
abbrev cX6_lost : ByteArray := prog_8_method_3_code
def yX6_lost : MethodName := ⟨RX6, "lost", "()J"⟩
abbrev cX6_refused : ByteArray := prog_8_method_4_code
def yX6_refused : MethodName := ⟨RX6, "refused", "(I)I"⟩
abbrev cX6_failed : ByteArray := prog_8_method_5_code
def yX6_failed : MethodName := ⟨RX6, "failed", "(I)I"⟩
abbrev cX6_failedLong : ByteArray := prog_8_method_6_code
def yX6_failedLong : MethodName := ⟨RX6, "failedLong", "(I)J"⟩
abbrev cX6_sizeOf : ByteArray := prog_8_method_7_code
def yX6_sizeOf : MethodName := ⟨RX6, "sizeOf", "(I)I"⟩
abbrev cX6_across : ByteArray := prog_8_method_8_code
def yX6_across : MethodName := ⟨RX6, "across", "()I"⟩
abbrev cX6_sides : ByteArray := prog_8_method_9_code
def yX6_sides : MethodName := ⟨RX6, "sides", "()I"⟩
abbrev cX6_pieces : ByteArray := prog_8_method_10_code
def yX6_pieces : MethodName := ⟨RX6, "pieces", "()I"⟩
abbrev cX6_noSide : ByteArray := prog_8_method_11_code
def yX6_noSide : MethodName := ⟨RX6, "noSide", "(I)Z"⟩
abbrev cX6_noPiece : ByteArray := prog_8_method_12_code
def yX6_noPiece : MethodName := ⟨RX6, "noPiece", "(I)Z"⟩
abbrev cX6_changed : ByteArray := prog_8_method_13_code
def yX6_changed : MethodName := ⟨RX6, "changed", "()V"⟩
abbrev cX6_picture : ByteArray := prog_8_method_14_code
def yX6_picture : MethodName := ⟨RX6, "picture", "(II)I"⟩
abbrev cX6_numberBelow : ByteArray := prog_8_method_15_code
def yX6_numberBelow : MethodName := ⟨RX6, "numberBelow", "(I)I"⟩
abbrev cX6_make : ByteArray := prog_8_method_16_code
def yX6_make : MethodName := ⟨RX6, "make", "(J)I"⟩
abbrev cX6_bend : ByteArray := prog_8_method_17_code
def yX6_bend : MethodName := ⟨RX6, "bend", "(III)J"⟩
abbrev cX6_height : ByteArray := prog_8_method_18_code
def yX6_height : MethodName := ⟨RX6, "height", "(II)J"⟩
abbrev cX6_sideAt : ByteArray := prog_8_method_19_code
def yX6_sideAt : MethodName := ⟨RX6, "sideAt", "(II)I"⟩
abbrev cX6_sideOf : ByteArray := prog_8_method_20_code
def yX6_sideOf : MethodName := ⟨RX6, "sideOf", "(II)I"⟩
abbrev cX6_heightAt : ByteArray := prog_8_method_21_code
def yX6_heightAt : MethodName := ⟨RX6, "heightAt", "(III)I"⟩
abbrev cX6_edge : ByteArray := prog_8_method_22_code
def yX6_edge : MethodName := ⟨RX6, "edge", "(III)J"⟩
abbrev cX6_farOf : ByteArray := prog_8_method_23_code
def yX6_farOf : MethodName := ⟨RX6, "farOf", "(IIII)I"⟩
abbrev cX6_far : ByteArray := prog_8_method_24_code
def yX6_far : MethodName := ⟨RX6, "far", "(IIII)I"⟩
abbrev cX6_isBulge : ByteArray := prog_8_method_25_code
def yX6_isBulge : MethodName := ⟨RX6, "isBulge", "(I)Z"⟩
abbrev cX6_isLike : ByteArray := prog_8_method_26_code
def yX6_isLike : MethodName := ⟨RX6, "isLike", "(II)Z"⟩
abbrev cX6_kindOf : ByteArray := prog_8_method_27_code
def yX6_kindOf : MethodName := ⟨RX6, "kindOf", "(I)I"⟩
abbrev cX6_kind : ByteArray := prog_8_method_28_code
def yX6_kind : MethodName := ⟨RX6, "kind", "(I)I"⟩
abbrev cX6_goThrough : ByteArray := prog_8_method_29_code
def yX6_goThrough : MethodName := ⟨RX6, "goThrough", "(I)V"⟩
abbrev cX6_unlike : ByteArray := prog_8_method_30_code
def yX6_unlike : MethodName := ⟨RX6, "unlike", "()I"⟩
abbrev cX6_traps : ByteArray := prog_8_method_31_code
def yX6_traps : MethodName := ⟨RX6, "traps", "(I)I"⟩
abbrev cX6_alike : ByteArray := prog_8_method_32_code
def yX6_alike : MethodName := ⟨RX6, "alike", "(III)I"⟩
abbrev cX6_lay : ByteArray := prog_8_method_33_code
def yX6_lay : MethodName := ⟨RX6, "lay", "(II)I"⟩
abbrev cX6_heap : ByteArray := prog_8_method_34_code
def yX6_heap : MethodName := ⟨RX6, "heap", "(J)I"⟩
abbrev cX6_noPlace : ByteArray := prog_8_method_35_code
def yX6_noPlace : MethodName := ⟨RX6, "noPlace", "(I)Z"⟩
abbrev cX6_take : ByteArray := prog_8_method_36_code
def yX6_take : MethodName := ⟨RX6, "take", "(I)I"⟩
abbrev cX6_heaped : ByteArray := prog_8_method_37_code
def yX6_heaped : MethodName := ⟨RX6, "heaped", "(II)I"⟩
abbrev cX6_timesIn : ByteArray := prog_8_method_38_code
def yX6_timesIn : MethodName := ⟨RX6, "timesIn", "(I)I"⟩
abbrev cX6_isMissing : ByteArray := prog_8_method_39_code
def yX6_isMissing : MethodName := ⟨RX6, "isMissing", "(II)Z"⟩
abbrev cX6_missing : ByteArray := prog_8_method_40_code
def yX6_missing : MethodName := ⟨RX6, "missing", "(I)I"⟩
abbrev cX6_missed : ByteArray := prog_8_method_41_code
def yX6_missed : MethodName := ⟨RX6, "missed", "(II)I"⟩
abbrev cX6_edgeOn : ByteArray := prog_8_method_42_code
def yX6_edgeOn : MethodName := ⟨RX6, "edgeOn", "(II)I"⟩
abbrev cX6_isFlat : ByteArray := prog_8_method_43_code
def yX6_isFlat : MethodName := ⟨RX6, "isFlat", "(II)Z"⟩
abbrev cX6_meets : ByteArray := prog_8_method_44_code
def yX6_meets : MethodName := ⟨RX6, "meets", "(IIII)Z"⟩
abbrev cX6_fits : ByteArray := prog_8_method_45_code
def yX6_fits : MethodName := ⟨RX6, "fits", "(I)Z"⟩
abbrev cX6_search : ByteArray := prog_8_method_46_code
def yX6_search : MethodName := ⟨RX6, "search", "(I)Z"⟩
abbrev cX6_ways : ByteArray := prog_8_method_47_code
def yX6_ways : MethodName := ⟨RX6, "ways", "()I"⟩
abbrev cX6_join : ByteArray := prog_8_method_48_code
def yX6_join : MethodName := ⟨RX6, "join", "()I"⟩
abbrev cX6_joined : ByteArray := prog_8_method_49_code
def yX6_joined : MethodName := ⟨RX6, "joined", "(II)I"⟩
abbrev cX6_trials : ByteArray := prog_8_method_50_code
def yX6_trials : MethodName := ⟨RX6, "trials", "()I"⟩
abbrev cX6_neighbour : ByteArray := prog_8_method_51_code
def yX6_neighbour : MethodName := ⟨RX6, "neighbour", "(II)I"⟩
abbrev cX6_known : ByteArray := prog_8_method_52_code
def yX6_known : MethodName := ⟨RX6, "known", "(I)I"⟩
abbrev cX6_noSheet : ByteArray := prog_8_method_53_code
def yX6_noSheet : MethodName := ⟨RX6, "noSheet", "(I)Z"⟩
abbrev cX6_sheet : ByteArray := prog_8_method_54_code
def yX6_sheet : MethodName := ⟨RX6, "sheet", "(III)I"⟩
abbrev cX6_lose : ByteArray := prog_8_method_55_code
def yX6_lose : MethodName := ⟨RX6, "lose", "(I)I"⟩
abbrev cX6_noCell : ByteArray := prog_8_method_56_code
def yX6_noCell : MethodName := ⟨RX6, "noCell", "(II)I"⟩
abbrev cX6_put : ByteArray := prog_8_method_57_code
def yX6_put : MethodName := ⟨RX6, "put", "(III)I"⟩
abbrev cX6_cell : ByteArray := prog_8_method_58_code
def yX6_cell : MethodName := ⟨RX6, "cell", "(III)J"⟩
abbrev cX6_isBeyond : ByteArray := prog_8_method_59_code
def yX6_isBeyond : MethodName := ⟨RX6, "isBeyond", "(IJI)Z"⟩
abbrev cX6_copy : ByteArray := prog_8_method_60_code
def yX6_copy : MethodName := ⟨RX6, "copy", "(IIIII)I"⟩
abbrev cX6_shape : ByteArray := prog_8_method_61_code
def yX6_shape : MethodName := ⟨RX6, "shape", "(IIIII)I"⟩
abbrev cX6_traced : ByteArray := prog_8_method_62_code
def yX6_traced : MethodName := ⟨RX6, "traced", "(I)V"⟩
abbrev cX6_tell : ByteArray := prog_8_method_63_code
def yX6_tell : MethodName := ⟨RX6, "tell", "(I)I"⟩
abbrev cX6_mark : ByteArray := prog_8_method_64_code
def yX6_mark : MethodName := ⟨RX6, "mark", "(I)I"⟩
abbrev cX6_as : ByteArray := prog_8_method_65_code
def yX6_as : MethodName := ⟨RX6, "as", "(II)I"⟩
abbrev cX6_trace : ByteArray := prog_8_method_66_code
def yX6_trace : MethodName := ⟨RX6, "trace", "()I"⟩
abbrev cX6_fault : ByteArray := prog_8_method_67_code
def yX6_fault : MethodName := ⟨RX6, "fault", "()I"⟩
abbrev cX6_told : ByteArray := prog_8_method_68_code
def yX6_told : MethodName := ⟨RX6, "told", "(I)I"⟩
def RJ9 : String := "java/lang/Math"
def TJ9 : u_T := fun k => match k with
  | _ => ("", "", "", false)
def tyJ9 : Nat → FieldType := fun k => match k with
  | _ => .int
abbrev wsJ90 : List Cond := u_ws RJ9 TJ9 0
theorem nmJ9 : ∀ a, a < 0 → ∀ b, b < 0 → a ≠ b → (TJ9 a).2.1 ≠ (TJ9 b).2.1 := by decide +kernel
theorem tyJ9_ok : ∀ k, k < 0 → parseFieldDescriptor (TJ9 k).2.2.1 = some (tyJ9 k) := by decide +kernel
abbrev cJ9_abs_0f7a4 : ByteArray := prog_9_method_59_code
def yJ9_abs_0f7a4 : MethodName := ⟨RJ9, "abs", "(I)I"⟩
abbrev cJ9_max_7cf53 : ByteArray := prog_9_method_65_code
def yJ9_max_7cf53 : MethodName := ⟨RJ9, "max", "(II)I"⟩
abbrev cJ9_min_7cf53 : ByteArray := prog_9_method_69_code
def yJ9_min_7cf53 : MethodName := ⟨RJ9, "min", "(II)I"⟩
def RJ10 : String := "java/lang/System"
def TJ10 : u_T := fun k => match k with
  | _ => ("", "", "", false)
def tyJ10 : Nat → FieldType := fun k => match k with
  | _ => .int
abbrev wsJ100 : List Cond := u_ws RJ10 TJ10 0
theorem nmJ10 : ∀ a, a < 0 → ∀ b, b < 0 → a ≠ b → (TJ10 a).2.1 ≠ (TJ10 b).2.1 := by decide +kernel
theorem tyJ10_ok : ∀ k, k < 0 → parseFieldDescriptor (TJ10 k).2.2.1 = some (tyJ10 k) := by decide +kernel
def RL : String := "CutOnceLaw"
abbrev cL_law : ByteArray := code
def yL_law : MethodName := ⟨RL, "law", "([I)Z"⟩
def wsX0_init : List Cond := .code yX0_init cX0_init 1 none :: ([.methodLink RX0 1 objectInit, .instanceMethod objectInit, .code objectInit ⟨#[0xb1]⟩ 1 none])
def wsX0_begin : List Cond := .code yX0_begin cX0_begin 3 none :: ([.fieldLink RX0 7 "CutOnce$Draw" "now" "J"] ++ wsX00)
def wsX0_below : List Cond := .code yX0_below cX0_below 2 (some .int) :: ([.fieldLink RX0 7 "CutOnce$Draw" "now" "J", .constantLong RX0 13 (6364136223846793005), .constantLong RX0 15 (1442695040888963407), .constantLong RX0 17 (2147483647), .constantLong RX0 19 (4096)] ++ wsX00)
def wsX1_layEdges : List Cond := .code yX1_layEdges cX1_layEdges 6 none :: ([.fieldLink RX1 22 "CutOnce$Picture" "w" "I", .fieldLink RX1 26 "CutOnce$Picture" "h" "I", .fieldLink RX1 15 "CutOnce$Picture" "sideOfEdge" "[I"] ++ wsX10)
def wsX1_cutAnew : List Cond := .code yX1_cutAnew cX1_cutAnew 5 none :: ([.fieldLink RX1 22 "CutOnce$Picture" "w" "I", .fieldLink RX1 26 "CutOnce$Picture" "h" "I", .fieldLink RX1 9 "CutOnce$Picture" "heights" "[I", .methodLink RX1 29 yX1_layEdges, .instanceMethod yX1_layEdges, .selects RX1 yX1_layEdges yX1_layEdges, .initialized RX1, .code yX1_layEdges cX1_layEdges 6 none, .fieldLink RX1 15 "CutOnce$Picture" "sideOfEdge" "[I"] ++ wsX10)
def wsX1_init : List Cond := .code yX1_init cX1_init 1 none :: ([.methodLink RX1 3 objectInit, .instanceMethod objectInit, .code objectInit ⟨#[0xb1]⟩ 1 none, .arrayClass .int, .fieldLink RX1 9 "CutOnce$Picture" "heights" "[I", .fieldLink RX1 15 "CutOnce$Picture" "sideOfEdge" "[I", .methodLink RX1 18 yX1_cutAnew, .instanceMethod yX1_cutAnew, .selects RX1 yX1_cutAnew yX1_cutAnew, .initialized RX1, .code yX1_cutAnew cX1_cutAnew 5 none, .fieldLink RX1 22 "CutOnce$Picture" "w" "I", .fieldLink RX1 26 "CutOnce$Picture" "h" "I", .methodLink RX1 29 yX1_layEdges, .instanceMethod yX1_layEdges, .selects RX1 yX1_layEdges yX1_layEdges, .code yX1_layEdges cX1_layEdges 6 none] ++ wsX10)
def wsX1_width : List Cond := .code yX1_width cX1_width 1 (some .int) :: ([.fieldLink RX1 22 "CutOnce$Picture" "w" "I"] ++ wsX10)
def wsX1_depth : List Cond := .code yX1_depth cX1_depth 1 (some .int) :: ([.fieldLink RX1 26 "CutOnce$Picture" "h" "I"] ++ wsX10)
def wsX1_pieces : List Cond := .code yX1_pieces cX1_pieces 1 (some .int) :: ([.fieldLink RX1 22 "CutOnce$Picture" "w" "I", .fieldLink RX1 26 "CutOnce$Picture" "h" "I"] ++ wsX10)
def wsX1_sides : List Cond := .code yX1_sides cX1_sides 1 (some .int) :: ([.fieldLink RX1 22 "CutOnce$Picture" "w" "I", .fieldLink RX1 26 "CutOnce$Picture" "h" "I"] ++ wsX10)
def wsX1_hasSide : List Cond := .code yX1_hasSide cX1_hasSide 2 (some .boolean) :: ([.methodLink RX1 32 yX1_sides, .instanceMethod yX1_sides, .selects RX1 yX1_sides yX1_sides, .initialized RX1, .code yX1_sides cX1_sides 1 (some .int), .fieldLink RX1 22 "CutOnce$Picture" "w" "I", .fieldLink RX1 26 "CutOnce$Picture" "h" "I"] ++ wsX10)
def wsX1_hasPiece : List Cond := .code yX1_hasPiece cX1_hasPiece 2 (some .boolean) :: ([.methodLink RX1 36 yX1_pieces, .instanceMethod yX1_pieces, .selects RX1 yX1_pieces yX1_pieces, .initialized RX1, .code yX1_pieces cX1_pieces 1 (some .int), .fieldLink RX1 22 "CutOnce$Picture" "w" "I", .fieldLink RX1 26 "CutOnce$Picture" "h" "I"] ++ wsX10)
def wsX1_hasEdge : List Cond := .code yX1_hasEdge cX1_hasEdge 3 (some .boolean) :: ([.methodLink RX1 39 yX1_hasPiece, .instanceMethod yX1_hasPiece, .selects RX1 yX1_hasPiece yX1_hasPiece, .initialized RX1, .code yX1_hasPiece cX1_hasPiece 2 (some .boolean), .methodLink RX1 36 yX1_pieces, .instanceMethod yX1_pieces, .selects RX1 yX1_pieces yX1_pieces, .code yX1_pieces cX1_pieces 1 (some .int), .fieldLink RX1 22 "CutOnce$Picture" "w" "I", .fieldLink RX1 26 "CutOnce$Picture" "h" "I"] ++ wsX10)
def wsX1_sideAt : List Cond := .code yX1_sideAt cX1_sideAt 4 (some .int) :: ([.fieldLink RX1 15 "CutOnce$Picture" "sideOfEdge" "[I"] ++ wsX10)
def wsX1_isFlat : List Cond := .code yX1_isFlat cX1_isFlat 3 (some .boolean) :: ([.methodLink RX1 43 yX1_sideAt, .instanceMethod yX1_sideAt, .selects RX1 yX1_sideAt yX1_sideAt, .initialized RX1, .code yX1_sideAt cX1_sideAt 4 (some .int), .fieldLink RX1 15 "CutOnce$Picture" "sideOfEdge" "[I"] ++ wsX10)
def wsX1_nextTo : List Cond := .code yX1_nextTo cX1_nextTo 3 (some .int) :: ([.fieldLink RX1 22 "CutOnce$Picture" "w" "I"] ++ wsX10)
def wsX1_setHeight : List Cond := .code yX1_setHeight cX1_setHeight 5 none :: ([.fieldLink RX1 9 "CutOnce$Picture" "heights" "[I"] ++ wsX10)
def wsX1_heightAt : List Cond := .code yX1_heightAt cX1_heightAt 5 (some .int) :: ([.fieldLink RX1 9 "CutOnce$Picture" "heights" "[I"] ++ wsX10)
def wsX1_edgeHeight : List Cond := .code yX1_edgeHeight cX1_edgeHeight 5 (some .int) :: ([.methodLink RX1 43 yX1_sideAt, .instanceMethod yX1_sideAt, .selects RX1 yX1_sideAt yX1_sideAt, .initialized RX1, .code yX1_sideAt cX1_sideAt 4 (some .int), .fieldLink RX1 15 "CutOnce$Picture" "sideOfEdge" "[I", .methodLink RX1 47 yX1_heightAt, .instanceMethod yX1_heightAt, .selects RX1 yX1_heightAt yX1_heightAt, .code yX1_heightAt cX1_heightAt 5 (some .int), .fieldLink RX1 9 "CutOnce$Picture" "heights" "[I"] ++ wsX10)
def wsX1_farness : List Cond := .code yX1_farness cX1_farness 7 (some .int) :: ([.methodLink RX1 54 Lib.Math.abs.name, .static Lib.Math.abs.name, .initialized "java/lang/Math", .code Lib.Math.abs.name Lib.Math.abs.code 1 (some .int), .methodLink RX1 51 yX1_edgeHeight, .instanceMethod yX1_edgeHeight, .selects RX1 yX1_edgeHeight yX1_edgeHeight, .initialized RX1, .code yX1_edgeHeight cX1_edgeHeight 5 (some .int), .methodLink RX1 43 yX1_sideAt, .instanceMethod yX1_sideAt, .selects RX1 yX1_sideAt yX1_sideAt, .code yX1_sideAt cX1_sideAt 4 (some .int), .fieldLink RX1 15 "CutOnce$Picture" "sideOfEdge" "[I", .methodLink RX1 47 yX1_heightAt, .instanceMethod yX1_heightAt, .selects RX1 yX1_heightAt yX1_heightAt, .code yX1_heightAt cX1_heightAt 5 (some .int), .fieldLink RX1 9 "CutOnce$Picture" "heights" "[I"] ++ wsX10)
def wsX1_sumOf : List Cond := .code yX1_sumOf cX1_sumOf 4 (some .int) :: ([.methodLink RX1 47 yX1_heightAt, .instanceMethod yX1_heightAt, .selects RX1 yX1_heightAt yX1_heightAt, .initialized RX1, .code yX1_heightAt cX1_heightAt 5 (some .int), .fieldLink RX1 9 "CutOnce$Picture" "heights" "[I"] ++ wsX10)
def wsX1_bulges : List Cond := .code yX1_bulges cX1_bulges 6 (some .boolean) :: ([.methodLink RX1 47 yX1_heightAt, .instanceMethod yX1_heightAt, .selects RX1 yX1_heightAt yX1_heightAt, .initialized RX1, .code yX1_heightAt cX1_heightAt 5 (some .int), .fieldLink RX1 9 "CutOnce$Picture" "heights" "[I"] ++ wsX10)
def wsX1_differing : List Cond := .code yX1_differing cX1_differing 6 (some .int) :: ([.methodLink RX1 47 yX1_heightAt, .instanceMethod yX1_heightAt, .selects RX1 yX1_heightAt yX1_heightAt, .initialized RX1, .code yX1_heightAt cX1_heightAt 5 (some .int), .fieldLink RX1 9 "CutOnce$Picture" "heights" "[I"] ++ wsX10)
def wsX1_kindAt : List Cond := .code yX1_kindAt cX1_kindAt 3 (some .int) :: ([.methodLink RX1 60 yX1_bulges, .instanceMethod yX1_bulges, .selects RX1 yX1_bulges yX1_bulges, .initialized RX1, .code yX1_bulges cX1_bulges 6 (some .boolean), .methodLink RX1 47 yX1_heightAt, .instanceMethod yX1_heightAt, .selects RX1 yX1_heightAt yX1_heightAt, .code yX1_heightAt cX1_heightAt 5 (some .int), .fieldLink RX1 9 "CutOnce$Picture" "heights" "[I", .methodLink RX1 32 yX1_sides, .instanceMethod yX1_sides, .selects RX1 yX1_sides yX1_sides, .code yX1_sides cX1_sides 1 (some .int), .fieldLink RX1 22 "CutOnce$Picture" "w" "I", .fieldLink RX1 26 "CutOnce$Picture" "h" "I", .methodLink RX1 63 yX1_differing, .instanceMethod yX1_differing, .selects RX1 yX1_differing yX1_differing, .code yX1_differing cX1_differing 6 (some .int)] ++ wsX10)
def wsX1_giveShape : List Cond := .code yX1_giveShape cX1_giveShape 6 (some .int) :: ([.methodLink RX1 63 yX1_differing, .instanceMethod yX1_differing, .selects RX1 yX1_differing yX1_differing, .initialized RX1, .code yX1_differing cX1_differing 6 (some .int), .methodLink RX1 47 yX1_heightAt, .instanceMethod yX1_heightAt, .selects RX1 yX1_heightAt yX1_heightAt, .code yX1_heightAt cX1_heightAt 5 (some .int), .fieldLink RX1 9 "CutOnce$Picture" "heights" "[I", .methodLink RX1 66 yX1_setHeight, .instanceMethod yX1_setHeight, .selects RX1 yX1_setHeight yX1_setHeight, .code yX1_setHeight cX1_setHeight 5 none] ++ wsX10)
def wsX1_strangersApart_r1 : List Cond := [Cond.methodLink RX1 73 yX1_isFlat, Cond.instanceMethod yX1_isFlat, Cond.selects RX1 yX1_isFlat yX1_isFlat, Cond.initialized RX1, Cond.code yX1_isFlat cX1_isFlat 3 (some .boolean), Cond.methodLink RX1 43 yX1_sideAt, Cond.instanceMethod yX1_sideAt, Cond.selects RX1 yX1_sideAt yX1_sideAt, Cond.code yX1_sideAt cX1_sideAt 4 (some .int), Cond.fieldLink RX1 15 "CutOnce$Picture" "sideOfEdge" "[I", Cond.methodLink RX1 77 yX1_farness, Cond.instanceMethod yX1_farness, Cond.selects RX1 yX1_farness yX1_farness, Cond.code yX1_farness cX1_farness 7 (some .int), Cond.methodLink RX1 54 Lib.Math.abs.name, Cond.static Lib.Math.abs.name, Cond.initialized "java/lang/Math", Cond.code Lib.Math.abs.name Lib.Math.abs.code 1 (some .int), Cond.methodLink RX1 51 yX1_edgeHeight, Cond.instanceMethod yX1_edgeHeight, Cond.selects RX1 yX1_edgeHeight yX1_edgeHeight, Cond.code yX1_edgeHeight cX1_edgeHeight 5 (some .int), Cond.methodLink RX1 47 yX1_heightAt, Cond.instanceMethod yX1_heightAt]
def wsX1_strangersApart_r2 : List Cond := [Cond.selects RX1 yX1_heightAt yX1_heightAt, Cond.code yX1_heightAt cX1_heightAt 5 (some .int), Cond.fieldLink RX1 9 "CutOnce$Picture" "heights" "[I"]
def wsX1_strangersApart : List Cond := .code yX1_strangersApart cX1_strangersApart 7 (some .int) :: ((wsX1_strangersApart_r1 ++ wsX1_strangersApart_r2) ++ wsX10)
def wsX1_leastFar_r1 : List Cond := [Cond.methodLink RX1 36 yX1_pieces, Cond.instanceMethod yX1_pieces, Cond.selects RX1 yX1_pieces yX1_pieces, Cond.initialized RX1, Cond.code yX1_pieces cX1_pieces 1 (some .int), Cond.fieldLink RX1 22 "CutOnce$Picture" "w" "I", Cond.fieldLink RX1 26 "CutOnce$Picture" "h" "I", Cond.methodLink RX1 70 yX1_strangersApart, Cond.instanceMethod yX1_strangersApart, Cond.selects RX1 yX1_strangersApart yX1_strangersApart, Cond.code yX1_strangersApart cX1_strangersApart 7 (some .int), Cond.methodLink RX1 73 yX1_isFlat, Cond.instanceMethod yX1_isFlat, Cond.selects RX1 yX1_isFlat yX1_isFlat, Cond.code yX1_isFlat cX1_isFlat 3 (some .boolean), Cond.methodLink RX1 43 yX1_sideAt, Cond.instanceMethod yX1_sideAt, Cond.selects RX1 yX1_sideAt yX1_sideAt, Cond.code yX1_sideAt cX1_sideAt 4 (some .int), Cond.fieldLink RX1 15 "CutOnce$Picture" "sideOfEdge" "[I", Cond.methodLink RX1 77 yX1_farness, Cond.instanceMethod yX1_farness, Cond.selects RX1 yX1_farness yX1_farness, Cond.code yX1_farness cX1_farness 7 (some .int)]
def wsX1_leastFar_r2 : List Cond := [Cond.methodLink RX1 54 Lib.Math.abs.name, Cond.static Lib.Math.abs.name, Cond.initialized "java/lang/Math", Cond.code Lib.Math.abs.name Lib.Math.abs.code 1 (some .int), Cond.methodLink RX1 51 yX1_edgeHeight, Cond.instanceMethod yX1_edgeHeight, Cond.selects RX1 yX1_edgeHeight yX1_edgeHeight, Cond.code yX1_edgeHeight cX1_edgeHeight 5 (some .int), Cond.methodLink RX1 47 yX1_heightAt, Cond.instanceMethod yX1_heightAt, Cond.selects RX1 yX1_heightAt yX1_heightAt, Cond.code yX1_heightAt cX1_heightAt 5 (some .int), Cond.fieldLink RX1 9 "CutOnce$Picture" "heights" "[I"]
def wsX1_leastFar : List Cond := .code yX1_leastFar cX1_leastFar 5 (some .int) :: ((wsX1_leastFar_r1 ++ wsX1_leastFar_r2) ++ wsX10)
def wsX1_pairsWithin_r1 : List Cond := [Cond.methodLink RX1 36 yX1_pieces, Cond.instanceMethod yX1_pieces, Cond.selects RX1 yX1_pieces yX1_pieces, Cond.initialized RX1, Cond.code yX1_pieces cX1_pieces 1 (some .int), Cond.fieldLink RX1 22 "CutOnce$Picture" "w" "I", Cond.fieldLink RX1 26 "CutOnce$Picture" "h" "I", Cond.methodLink RX1 70 yX1_strangersApart, Cond.instanceMethod yX1_strangersApart, Cond.selects RX1 yX1_strangersApart yX1_strangersApart, Cond.code yX1_strangersApart cX1_strangersApart 7 (some .int), Cond.methodLink RX1 73 yX1_isFlat, Cond.instanceMethod yX1_isFlat, Cond.selects RX1 yX1_isFlat yX1_isFlat, Cond.code yX1_isFlat cX1_isFlat 3 (some .boolean), Cond.methodLink RX1 43 yX1_sideAt, Cond.instanceMethod yX1_sideAt, Cond.selects RX1 yX1_sideAt yX1_sideAt, Cond.code yX1_sideAt cX1_sideAt 4 (some .int), Cond.fieldLink RX1 15 "CutOnce$Picture" "sideOfEdge" "[I", Cond.methodLink RX1 77 yX1_farness, Cond.instanceMethod yX1_farness, Cond.selects RX1 yX1_farness yX1_farness, Cond.code yX1_farness cX1_farness 7 (some .int)]
def wsX1_pairsWithin_r2 : List Cond := [Cond.methodLink RX1 54 Lib.Math.abs.name, Cond.static Lib.Math.abs.name, Cond.initialized "java/lang/Math", Cond.code Lib.Math.abs.name Lib.Math.abs.code 1 (some .int), Cond.methodLink RX1 51 yX1_edgeHeight, Cond.instanceMethod yX1_edgeHeight, Cond.selects RX1 yX1_edgeHeight yX1_edgeHeight, Cond.code yX1_edgeHeight cX1_edgeHeight 5 (some .int), Cond.methodLink RX1 47 yX1_heightAt, Cond.instanceMethod yX1_heightAt, Cond.selects RX1 yX1_heightAt yX1_heightAt, Cond.code yX1_heightAt cX1_heightAt 5 (some .int), Cond.fieldLink RX1 9 "CutOnce$Picture" "heights" "[I"]
def wsX1_pairsWithin : List Cond := .code yX1_pairsWithin cX1_pairsWithin 6 (some .int) :: ((wsX1_pairsWithin_r1 ++ wsX1_pairsWithin_r2) ++ wsX10)
def wsX2_init : List Cond := .code yX2_init cX2_init 1 none :: ([.methodLink RX2 3 objectInit, .instanceMethod objectInit, .code objectInit ⟨#[0xb1]⟩ 1 none, .arrayClass .int, .fieldLink RX2 9 "CutOnce$Pile" "pieceOf" "[I", .fieldLink RX2 15 "CutOnce$Pile" "turnOf" "[I"] ++ wsX20)
def wsX2_size : List Cond := .code yX2_size cX2_size 1 (some .int) :: ([.fieldLink RX2 18 "CutOnce$Pile" "count" "I"] ++ wsX20)
def wsX2_isFull : List Cond := .code yX2_isFull cX2_isFull 1 (some .boolean) :: ([.fieldLink RX2 18 "CutOnce$Pile" "count" "I"] ++ wsX20)
def wsX2_hasPlace : List Cond := .code yX2_hasPlace cX2_hasPlace 2 (some .boolean) :: ([.fieldLink RX2 18 "CutOnce$Pile" "count" "I"] ++ wsX20)
def wsX2_pieceAt : List Cond := .code yX2_pieceAt cX2_pieceAt 2 (some .int) :: ([.fieldLink RX2 9 "CutOnce$Pile" "pieceOf" "[I", .methodLink RX2 22 yX2_hasPlace, .instanceMethod yX2_hasPlace, .selects RX2 yX2_hasPlace yX2_hasPlace, .initialized RX2, .code yX2_hasPlace cX2_hasPlace 2 (some .boolean), .fieldLink RX2 18 "CutOnce$Pile" "count" "I"] ++ wsX20)
def wsX2_turnAt : List Cond := .code yX2_turnAt cX2_turnAt 2 (some .int) :: ([.fieldLink RX2 15 "CutOnce$Pile" "turnOf" "[I", .methodLink RX2 22 yX2_hasPlace, .instanceMethod yX2_hasPlace, .selects RX2 yX2_hasPlace yX2_hasPlace, .initialized RX2, .code yX2_hasPlace cX2_hasPlace 2 (some .boolean), .fieldLink RX2 18 "CutOnce$Pile" "count" "I"] ++ wsX20)
def wsX2_clearAll : List Cond := .code yX2_clearAll cX2_clearAll 1 none :: ([.fieldLink RX2 18 "CutOnce$Pile" "count" "I"] ++ wsX20)
def wsX2_append : List Cond := .code yX2_append cX2_append 3 none :: ([.fieldLink RX2 9 "CutOnce$Pile" "pieceOf" "[I", .fieldLink RX2 18 "CutOnce$Pile" "count" "I", .fieldLink RX2 15 "CutOnce$Pile" "turnOf" "[I", .methodLink RX2 26 yX2_isFull, .instanceMethod yX2_isFull, .selects RX2 yX2_isFull yX2_isFull, .initialized RX2, .code yX2_isFull cX2_isFull 1 (some .boolean)] ++ wsX20)
def wsX2_setTurn : List Cond := .code yX2_setTurn cX2_setTurn 3 none :: ([.fieldLink RX2 15 "CutOnce$Pile" "turnOf" "[I", .methodLink RX2 22 yX2_hasPlace, .instanceMethod yX2_hasPlace, .selects RX2 yX2_hasPlace yX2_hasPlace, .initialized RX2, .code yX2_hasPlace cX2_hasPlace 2 (some .boolean), .fieldLink RX2 18 "CutOnce$Pile" "count" "I"] ++ wsX20)
def wsX2_swapPieces : List Cond := .code yX2_swapPieces cX2_swapPieces 4 none :: ([.fieldLink RX2 9 "CutOnce$Pile" "pieceOf" "[I", .methodLink RX2 22 yX2_hasPlace, .instanceMethod yX2_hasPlace, .selects RX2 yX2_hasPlace yX2_hasPlace, .initialized RX2, .code yX2_hasPlace cX2_hasPlace 2 (some .boolean), .fieldLink RX2 18 "CutOnce$Pile" "count" "I"] ++ wsX20)
def wsX2_removeAt : List Cond := .code yX2_removeAt cX2_removeAt 3 none :: ([.fieldLink RX2 18 "CutOnce$Pile" "count" "I", .fieldLink RX2 9 "CutOnce$Pile" "pieceOf" "[I", .fieldLink RX2 15 "CutOnce$Pile" "turnOf" "[I", .methodLink RX2 22 yX2_hasPlace, .instanceMethod yX2_hasPlace, .selects RX2 yX2_hasPlace yX2_hasPlace, .initialized RX2, .code yX2_hasPlace cX2_hasPlace 2 (some .boolean)] ++ wsX20)
def wsX2_timesOf : List Cond := .code yX2_timesOf cX2_timesOf 4 (some .int) :: ([.fieldLink RX2 18 "CutOnce$Pile" "count" "I", .fieldLink RX2 9 "CutOnce$Pile" "pieceOf" "[I"] ++ wsX20)
def wsX3_init : List Cond := .code yX3_init cX3_init 3 none :: ([.methodLink RX3 3 objectInit, .instanceMethod objectInit, .code objectInit ⟨#[0xb1]⟩ 1 none, .arrayClass .int, .fieldLink RX3 9 "CutOnce$Search" "shown" "[I", .fieldLink RX3 15 "CutOnce$Search" "fitting" "[I", .fieldLink RX3 18 "CutOnce$Search" "wanted" "[I", .arrayClass .boolean, .fieldLink RX3 21 "CutOnce$Search" "used" "[Z", .fieldLink RX3 25 "CutOnce$Search" "lying" "[I", .fieldLink RX3 28 "CutOnce$Search" "joinedLying" "[I", .fieldLink RX3 31 "CutOnce$Search" "goal" "LCutOnce$Picture;", .fieldLink RX3 35 "CutOnce$Search" "pile" "LCutOnce$Pile;"] ++ wsX30)
def wsX3_trialsCounted : List Cond := .code yX3_trialsCounted cX3_trialsCounted 1 (some .int) :: ([.fieldLink RX3 39 "CutOnce$Search" "trialCount" "I"] ++ wsX30)
def wsX3_hasJoined : List Cond := .code yX3_hasJoined cX3_hasJoined 1 (some .boolean) :: ([.fieldLink RX3 43 "CutOnce$Search" "joinedOnce" "Z"] ++ wsX30)
def wsX3_forgetJoined : List Cond := .code yX3_forgetJoined cX3_forgetJoined 1 none :: ([.fieldLink RX3 43 "CutOnce$Search" "joinedOnce" "Z"] ++ wsX30)
def wsX3_joinedFrom : List Cond := .code yX3_joinedFrom cX3_joinedFrom 2 (some .int) :: ([.fieldLink RX3 31 "CutOnce$Search" "goal" "LCutOnce$Picture;", .fieldLink RX3 28 "CutOnce$Search" "joinedLying" "[I", .methodLink RX3 47 yX1_hasPiece, .instanceMethod yX1_hasPiece, .selects RX1 yX1_hasPiece yX1_hasPiece, .initialized RX1, .code yX1_hasPiece cX1_hasPiece 2 (some .boolean), .methodLink RX1 36 yX1_pieces, .instanceMethod yX1_pieces, .selects RX1 yX1_pieces yX1_pieces, .code yX1_pieces cX1_pieces 1 (some .int), .fieldLink RX1 22 "CutOnce$Picture" "w" "I", .fieldLink RX1 26 "CutOnce$Picture" "h" "I"] ++ wsX30 ++ wsX10)
def wsX3_joinedTurn : List Cond := .code yX3_joinedTurn cX3_joinedTurn 2 (some .int) :: ([.fieldLink RX3 31 "CutOnce$Search" "goal" "LCutOnce$Picture;", .fieldLink RX3 28 "CutOnce$Search" "joinedLying" "[I", .methodLink RX3 47 yX1_hasPiece, .instanceMethod yX1_hasPiece, .selects RX1 yX1_hasPiece yX1_hasPiece, .initialized RX1, .code yX1_hasPiece cX1_hasPiece 2 (some .boolean), .methodLink RX1 36 yX1_pieces, .instanceMethod yX1_pieces, .selects RX1 yX1_pieces yX1_pieces, .code yX1_pieces cX1_pieces 1 (some .int), .fieldLink RX1 22 "CutOnce$Picture" "w" "I", .fieldLink RX1 26 "CutOnce$Picture" "h" "I"] ++ wsX30 ++ wsX10)
def wsX3_codeOf : List Cond := .code yX3_codeOf cX3_codeOf 5 (some .int) :: ([.fieldLink RX3 31 "CutOnce$Search" "goal" "LCutOnce$Picture;", .methodLink RX3 100 yX1_edgeHeight, .instanceMethod yX1_edgeHeight, .selects RX1 yX1_edgeHeight yX1_edgeHeight, .initialized RX1, .code yX1_edgeHeight cX1_edgeHeight 5 (some .int), .methodLink RX1 43 yX1_sideAt, .instanceMethod yX1_sideAt, .selects RX1 yX1_sideAt yX1_sideAt, .code yX1_sideAt cX1_sideAt 4 (some .int), .fieldLink RX1 15 "CutOnce$Picture" "sideOfEdge" "[I", .methodLink RX1 47 yX1_heightAt, .instanceMethod yX1_heightAt, .selects RX1 yX1_heightAt yX1_heightAt, .code yX1_heightAt cX1_heightAt 5 (some .int), .fieldLink RX1 9 "CutOnce$Picture" "heights" "[I"] ++ wsX30 ++ wsX10)
def wsX3_mateOf : List Cond := .code yX3_mateOf cX3_mateOf 5 (some .int) :: ([.fieldLink RX3 31 "CutOnce$Search" "goal" "LCutOnce$Picture;", .methodLink RX3 100 yX1_edgeHeight, .instanceMethod yX1_edgeHeight, .selects RX1 yX1_edgeHeight yX1_edgeHeight, .initialized RX1, .code yX1_edgeHeight cX1_edgeHeight 5 (some .int), .methodLink RX1 43 yX1_sideAt, .instanceMethod yX1_sideAt, .selects RX1 yX1_sideAt yX1_sideAt, .code yX1_sideAt cX1_sideAt 4 (some .int), .fieldLink RX1 15 "CutOnce$Picture" "sideOfEdge" "[I", .methodLink RX1 47 yX1_heightAt, .instanceMethod yX1_heightAt, .selects RX1 yX1_heightAt yX1_heightAt, .code yX1_heightAt cX1_heightAt 5 (some .int), .fieldLink RX1 9 "CutOnce$Picture" "heights" "[I"] ++ wsX30 ++ wsX10)
def wsX3_readEdges_r1 : List Cond := [Cond.fieldLink RX3 35 "CutOnce$Search" "pile" "LCutOnce$Pile;", Cond.fieldLink RX3 31 "CutOnce$Search" "goal" "LCutOnce$Picture;", Cond.fieldLink RX3 9 "CutOnce$Search" "shown" "[I", Cond.fieldLink RX3 15 "CutOnce$Search" "fitting" "[I", Cond.methodLink RX3 82 yX2_pieceAt, Cond.instanceMethod yX2_pieceAt, Cond.selects RX2 yX2_pieceAt yX2_pieceAt, Cond.initialized RX2, Cond.code yX2_pieceAt cX2_pieceAt 2 (some .int), Cond.fieldLink RX2 9 "CutOnce$Pile" "pieceOf" "[I", Cond.methodLink RX2 22 yX2_hasPlace, Cond.instanceMethod yX2_hasPlace, Cond.selects RX2 yX2_hasPlace yX2_hasPlace, Cond.code yX2_hasPlace cX2_hasPlace 2 (some .boolean), Cond.fieldLink RX2 18 "CutOnce$Pile" "count" "I", Cond.methodLink RX3 86 yX1_isFlat, Cond.instanceMethod yX1_isFlat, Cond.selects RX1 yX1_isFlat yX1_isFlat, Cond.initialized RX1, Cond.code yX1_isFlat cX1_isFlat 3 (some .boolean), Cond.methodLink RX1 43 yX1_sideAt, Cond.instanceMethod yX1_sideAt, Cond.selects RX1 yX1_sideAt yX1_sideAt, Cond.code yX1_sideAt cX1_sideAt 4 (some .int)]
def wsX3_readEdges_r2 : List Cond := [Cond.fieldLink RX1 15 "CutOnce$Picture" "sideOfEdge" "[I", Cond.methodLink RX3 90 yX3_codeOf, Cond.instanceMethod yX3_codeOf, Cond.selects RX3 yX3_codeOf yX3_codeOf, Cond.initialized RX3, Cond.code yX3_codeOf cX3_codeOf 5 (some .int), Cond.methodLink RX3 100 yX1_edgeHeight, Cond.instanceMethod yX1_edgeHeight, Cond.selects RX1 yX1_edgeHeight yX1_edgeHeight, Cond.code yX1_edgeHeight cX1_edgeHeight 5 (some .int), Cond.methodLink RX1 47 yX1_heightAt, Cond.instanceMethod yX1_heightAt, Cond.selects RX1 yX1_heightAt yX1_heightAt, Cond.code yX1_heightAt cX1_heightAt 5 (some .int), Cond.fieldLink RX1 9 "CutOnce$Picture" "heights" "[I", Cond.methodLink RX3 94 yX3_mateOf, Cond.instanceMethod yX3_mateOf, Cond.selects RX3 yX3_mateOf yX3_mateOf, Cond.code yX3_mateOf cX3_mateOf 5 (some .int), Cond.methodLink RX3 97 yX2_turnAt, Cond.instanceMethod yX2_turnAt, Cond.selects RX2 yX2_turnAt yX2_turnAt, Cond.code yX2_turnAt cX2_turnAt 2 (some .int), Cond.fieldLink RX2 15 "CutOnce$Pile" "turnOf" "[I"]
def wsX3_readEdges : List Cond := .code yX3_readEdges cX3_readEdges 9 none :: ((wsX3_readEdges_r1 ++ wsX3_readEdges_r2) ++ wsX30 ++ wsX20 ++ wsX10)
def wsX3_lookAround : List Cond := .code yX3_lookAround cX3_lookAround 5 none :: ([.fieldLink RX3 31 "CutOnce$Search" "goal" "LCutOnce$Picture;", .fieldLink RX3 15 "CutOnce$Search" "fitting" "[I", .fieldLink RX3 25 "CutOnce$Search" "lying" "[I", .fieldLink RX3 18 "CutOnce$Search" "wanted" "[I", .methodLink RX3 111 yX1_nextTo, .instanceMethod yX1_nextTo, .selects RX1 yX1_nextTo yX1_nextTo, .initialized RX1, .code yX1_nextTo cX1_nextTo 3 (some .int), .fieldLink RX1 22 "CutOnce$Picture" "w" "I", .methodLink RX3 86 yX1_isFlat, .instanceMethod yX1_isFlat, .selects RX1 yX1_isFlat yX1_isFlat, .code yX1_isFlat cX1_isFlat 3 (some .boolean), .methodLink RX1 43 yX1_sideAt, .instanceMethod yX1_sideAt, .selects RX1 yX1_sideAt yX1_sideAt, .code yX1_sideAt cX1_sideAt 4 (some .int), .fieldLink RX1 15 "CutOnce$Picture" "sideOfEdge" "[I"] ++ wsX30 ++ wsX10)
def wsX3_fits : List Cond := .code yX3_fits cX3_fits 5 (some .boolean) :: ([.fieldLink RX3 18 "CutOnce$Search" "wanted" "[I", .fieldLink RX3 9 "CutOnce$Search" "shown" "[I", .fieldLink RX3 25 "CutOnce$Search" "lying" "[I"] ++ wsX30)
def wsX3_fillFrom_r1 : List Cond := [Cond.fieldLink RX3 31 "CutOnce$Search" "goal" "LCutOnce$Picture;", Cond.fieldLink RX3 60 "CutOnce$Search" "found" "I", Cond.fieldLink RX3 35 "CutOnce$Search" "pile" "LCutOnce$Pile;", Cond.fieldLink RX3 21 "CutOnce$Search" "used" "[Z", Cond.fieldLink RX3 39 "CutOnce$Search" "trialCount" "I", Cond.constant RX3 107 (60000), Cond.fieldLink RX3 57 "CutOnce$Search" "spent" "Z", Cond.fieldLink RX3 25 "CutOnce$Search" "lying" "[I", Cond.fieldLink RX3 76 "CutOnce$Search" "firstOnly" "Z", Cond.methodLink RX3 63 yX1_pieces, Cond.instanceMethod yX1_pieces, Cond.selects RX1 yX1_pieces yX1_pieces, Cond.initialized RX1, Cond.code yX1_pieces cX1_pieces 1 (some .int), Cond.fieldLink RX1 22 "CutOnce$Picture" "w" "I", Cond.fieldLink RX1 26 "CutOnce$Picture" "h" "I", Cond.methodLink RX3 104 yX3_lookAround, Cond.instanceMethod yX3_lookAround, Cond.selects RX3 yX3_lookAround yX3_lookAround, Cond.initialized RX3, Cond.code yX3_lookAround cX3_lookAround 5 none, Cond.fieldLink RX3 15 "CutOnce$Search" "fitting" "[I", Cond.fieldLink RX3 18 "CutOnce$Search" "wanted" "[I", Cond.methodLink RX3 111 yX1_nextTo]
def wsX3_fillFrom_r2 : List Cond := [Cond.instanceMethod yX1_nextTo, Cond.selects RX1 yX1_nextTo yX1_nextTo, Cond.code yX1_nextTo cX1_nextTo 3 (some .int), Cond.methodLink RX3 86 yX1_isFlat, Cond.instanceMethod yX1_isFlat, Cond.selects RX1 yX1_isFlat yX1_isFlat, Cond.code yX1_isFlat cX1_isFlat 3 (some .boolean), Cond.methodLink RX1 43 yX1_sideAt, Cond.instanceMethod yX1_sideAt, Cond.selects RX1 yX1_sideAt yX1_sideAt, Cond.code yX1_sideAt cX1_sideAt 4 (some .int), Cond.fieldLink RX1 15 "CutOnce$Picture" "sideOfEdge" "[I", Cond.methodLink RX3 67 yX2_size, Cond.instanceMethod yX2_size, Cond.selects RX2 yX2_size yX2_size, Cond.initialized RX2, Cond.code yX2_size cX2_size 1 (some .int), Cond.fieldLink RX2 18 "CutOnce$Pile" "count" "I", Cond.methodLink RX3 108 yX3_fits, Cond.instanceMethod yX3_fits, Cond.selects RX3 yX3_fits yX3_fits, Cond.code yX3_fits cX3_fits 5 (some .boolean), Cond.fieldLink RX3 9 "CutOnce$Search" "shown" "[I", Cond.methodLink RX3 79 yX3_fillFrom]
def wsX3_fillFrom_r3 : List Cond := [Cond.instanceMethod yX3_fillFrom, Cond.selects RX3 yX3_fillFrom yX3_fillFrom]
def wsX3_fillFrom : List Cond := .code yX3_fillFrom cX3_fillFrom 4 none :: ((wsX3_fillFrom_r1 ++ (wsX3_fillFrom_r2 ++ wsX3_fillFrom_r3)) ++ wsX30 ++ wsX10 ++ wsX20)
def wsX3_run_r1 : List Cond := [Cond.fieldLink RX3 35 "CutOnce$Search" "pile" "LCutOnce$Pile;", Cond.fieldLink RX3 21 "CutOnce$Search" "used" "[Z", Cond.fieldLink RX3 76 "CutOnce$Search" "firstOnly" "Z", Cond.fieldLink RX3 57 "CutOnce$Search" "spent" "Z", Cond.fieldLink RX3 60 "CutOnce$Search" "found" "I", Cond.fieldLink RX3 39 "CutOnce$Search" "trialCount" "I", Cond.methodLink RX3 67 yX2_size, Cond.instanceMethod yX2_size, Cond.selects RX2 yX2_size yX2_size, Cond.initialized RX2, Cond.code yX2_size cX2_size 1 (some .int), Cond.fieldLink RX2 18 "CutOnce$Pile" "count" "I", Cond.methodLink RX3 72 yX3_readEdges, Cond.instanceMethod yX3_readEdges, Cond.selects RX3 yX3_readEdges yX3_readEdges, Cond.initialized RX3, Cond.code yX3_readEdges cX3_readEdges 9 none, Cond.fieldLink RX3 31 "CutOnce$Search" "goal" "LCutOnce$Picture;", Cond.fieldLink RX3 9 "CutOnce$Search" "shown" "[I", Cond.fieldLink RX3 15 "CutOnce$Search" "fitting" "[I", Cond.methodLink RX3 82 yX2_pieceAt, Cond.instanceMethod yX2_pieceAt, Cond.selects RX2 yX2_pieceAt yX2_pieceAt, Cond.code yX2_pieceAt cX2_pieceAt 2 (some .int)]
def wsX3_run_r2 : List Cond := [Cond.fieldLink RX2 9 "CutOnce$Pile" "pieceOf" "[I", Cond.methodLink RX2 22 yX2_hasPlace, Cond.instanceMethod yX2_hasPlace, Cond.selects RX2 yX2_hasPlace yX2_hasPlace, Cond.code yX2_hasPlace cX2_hasPlace 2 (some .boolean), Cond.methodLink RX3 86 yX1_isFlat, Cond.instanceMethod yX1_isFlat, Cond.selects RX1 yX1_isFlat yX1_isFlat, Cond.initialized RX1, Cond.code yX1_isFlat cX1_isFlat 3 (some .boolean), Cond.methodLink RX1 43 yX1_sideAt, Cond.instanceMethod yX1_sideAt, Cond.selects RX1 yX1_sideAt yX1_sideAt, Cond.code yX1_sideAt cX1_sideAt 4 (some .int), Cond.fieldLink RX1 15 "CutOnce$Picture" "sideOfEdge" "[I", Cond.methodLink RX3 90 yX3_codeOf, Cond.instanceMethod yX3_codeOf, Cond.selects RX3 yX3_codeOf yX3_codeOf, Cond.code yX3_codeOf cX3_codeOf 5 (some .int), Cond.methodLink RX3 100 yX1_edgeHeight, Cond.instanceMethod yX1_edgeHeight, Cond.selects RX1 yX1_edgeHeight yX1_edgeHeight, Cond.code yX1_edgeHeight cX1_edgeHeight 5 (some .int), Cond.methodLink RX1 47 yX1_heightAt]
def wsX3_run_r3 : List Cond := [Cond.instanceMethod yX1_heightAt, Cond.selects RX1 yX1_heightAt yX1_heightAt, Cond.code yX1_heightAt cX1_heightAt 5 (some .int), Cond.fieldLink RX1 9 "CutOnce$Picture" "heights" "[I", Cond.methodLink RX3 94 yX3_mateOf, Cond.instanceMethod yX3_mateOf, Cond.selects RX3 yX3_mateOf yX3_mateOf, Cond.code yX3_mateOf cX3_mateOf 5 (some .int), Cond.methodLink RX3 97 yX2_turnAt, Cond.instanceMethod yX2_turnAt, Cond.selects RX2 yX2_turnAt yX2_turnAt, Cond.code yX2_turnAt cX2_turnAt 2 (some .int), Cond.fieldLink RX2 15 "CutOnce$Pile" "turnOf" "[I", Cond.methodLink RX3 79 yX3_fillFrom, Cond.instanceMethod yX3_fillFrom, Cond.selects RX3 yX3_fillFrom yX3_fillFrom, Cond.code yX3_fillFrom cX3_fillFrom 4 none, Cond.constant RX3 107 (60000), Cond.fieldLink RX3 25 "CutOnce$Search" "lying" "[I", Cond.methodLink RX3 63 yX1_pieces, Cond.instanceMethod yX1_pieces, Cond.selects RX1 yX1_pieces yX1_pieces, Cond.code yX1_pieces cX1_pieces 1 (some .int), Cond.fieldLink RX1 22 "CutOnce$Picture" "w" "I"]
def wsX3_run_r4 : List Cond := [Cond.fieldLink RX1 26 "CutOnce$Picture" "h" "I", Cond.methodLink RX3 104 yX3_lookAround, Cond.instanceMethod yX3_lookAround, Cond.selects RX3 yX3_lookAround yX3_lookAround, Cond.code yX3_lookAround cX3_lookAround 5 none, Cond.fieldLink RX3 18 "CutOnce$Search" "wanted" "[I", Cond.methodLink RX3 111 yX1_nextTo, Cond.instanceMethod yX1_nextTo, Cond.selects RX1 yX1_nextTo yX1_nextTo, Cond.code yX1_nextTo cX1_nextTo 3 (some .int), Cond.methodLink RX3 108 yX3_fits, Cond.instanceMethod yX3_fits, Cond.selects RX3 yX3_fits yX3_fits, Cond.code yX3_fits cX3_fits 5 (some .boolean)]
def wsX3_run : List Cond := .code yX3_run cX3_run 3 none :: ((wsX3_run_r1 ++ (wsX3_run_r2 ++ (wsX3_run_r3 ++ wsX3_run_r4))) ++ wsX30 ++ wsX20 ++ wsX10)
def wsX3_countWays_r1 : List Cond := [Cond.fieldLink RX3 57 "CutOnce$Search" "spent" "Z", Cond.fieldLink RX3 60 "CutOnce$Search" "found" "I", Cond.methodLink RX3 53 yX3_run, Cond.instanceMethod yX3_run, Cond.selects RX3 yX3_run yX3_run, Cond.initialized RX3, Cond.code yX3_run cX3_run 3 none, Cond.fieldLink RX3 35 "CutOnce$Search" "pile" "LCutOnce$Pile;", Cond.fieldLink RX3 21 "CutOnce$Search" "used" "[Z", Cond.fieldLink RX3 76 "CutOnce$Search" "firstOnly" "Z", Cond.fieldLink RX3 39 "CutOnce$Search" "trialCount" "I", Cond.methodLink RX3 67 yX2_size, Cond.instanceMethod yX2_size, Cond.selects RX2 yX2_size yX2_size, Cond.initialized RX2, Cond.code yX2_size cX2_size 1 (some .int), Cond.fieldLink RX2 18 "CutOnce$Pile" "count" "I", Cond.methodLink RX3 72 yX3_readEdges, Cond.instanceMethod yX3_readEdges, Cond.selects RX3 yX3_readEdges yX3_readEdges, Cond.code yX3_readEdges cX3_readEdges 9 none, Cond.fieldLink RX3 31 "CutOnce$Search" "goal" "LCutOnce$Picture;", Cond.fieldLink RX3 9 "CutOnce$Search" "shown" "[I", Cond.fieldLink RX3 15 "CutOnce$Search" "fitting" "[I"]
def wsX3_countWays_r2 : List Cond := [Cond.methodLink RX3 82 yX2_pieceAt, Cond.instanceMethod yX2_pieceAt, Cond.selects RX2 yX2_pieceAt yX2_pieceAt, Cond.code yX2_pieceAt cX2_pieceAt 2 (some .int), Cond.fieldLink RX2 9 "CutOnce$Pile" "pieceOf" "[I", Cond.methodLink RX2 22 yX2_hasPlace, Cond.instanceMethod yX2_hasPlace, Cond.selects RX2 yX2_hasPlace yX2_hasPlace, Cond.code yX2_hasPlace cX2_hasPlace 2 (some .boolean), Cond.methodLink RX3 86 yX1_isFlat, Cond.instanceMethod yX1_isFlat, Cond.selects RX1 yX1_isFlat yX1_isFlat, Cond.initialized RX1, Cond.code yX1_isFlat cX1_isFlat 3 (some .boolean), Cond.methodLink RX1 43 yX1_sideAt, Cond.instanceMethod yX1_sideAt, Cond.selects RX1 yX1_sideAt yX1_sideAt, Cond.code yX1_sideAt cX1_sideAt 4 (some .int), Cond.fieldLink RX1 15 "CutOnce$Picture" "sideOfEdge" "[I", Cond.methodLink RX3 90 yX3_codeOf, Cond.instanceMethod yX3_codeOf, Cond.selects RX3 yX3_codeOf yX3_codeOf, Cond.code yX3_codeOf cX3_codeOf 5 (some .int), Cond.methodLink RX3 100 yX1_edgeHeight]
def wsX3_countWays_r3 : List Cond := [Cond.instanceMethod yX1_edgeHeight, Cond.selects RX1 yX1_edgeHeight yX1_edgeHeight, Cond.code yX1_edgeHeight cX1_edgeHeight 5 (some .int), Cond.methodLink RX1 47 yX1_heightAt, Cond.instanceMethod yX1_heightAt, Cond.selects RX1 yX1_heightAt yX1_heightAt, Cond.code yX1_heightAt cX1_heightAt 5 (some .int), Cond.fieldLink RX1 9 "CutOnce$Picture" "heights" "[I", Cond.methodLink RX3 94 yX3_mateOf, Cond.instanceMethod yX3_mateOf, Cond.selects RX3 yX3_mateOf yX3_mateOf, Cond.code yX3_mateOf cX3_mateOf 5 (some .int), Cond.methodLink RX3 97 yX2_turnAt, Cond.instanceMethod yX2_turnAt, Cond.selects RX2 yX2_turnAt yX2_turnAt, Cond.code yX2_turnAt cX2_turnAt 2 (some .int), Cond.fieldLink RX2 15 "CutOnce$Pile" "turnOf" "[I", Cond.methodLink RX3 79 yX3_fillFrom, Cond.instanceMethod yX3_fillFrom, Cond.selects RX3 yX3_fillFrom yX3_fillFrom, Cond.code yX3_fillFrom cX3_fillFrom 4 none, Cond.constant RX3 107 (60000), Cond.fieldLink RX3 25 "CutOnce$Search" "lying" "[I", Cond.methodLink RX3 63 yX1_pieces]
def wsX3_countWays_r4 : List Cond := [Cond.instanceMethod yX1_pieces, Cond.selects RX1 yX1_pieces yX1_pieces, Cond.code yX1_pieces cX1_pieces 1 (some .int), Cond.fieldLink RX1 22 "CutOnce$Picture" "w" "I", Cond.fieldLink RX1 26 "CutOnce$Picture" "h" "I", Cond.methodLink RX3 104 yX3_lookAround, Cond.instanceMethod yX3_lookAround, Cond.selects RX3 yX3_lookAround yX3_lookAround, Cond.code yX3_lookAround cX3_lookAround 5 none, Cond.fieldLink RX3 18 "CutOnce$Search" "wanted" "[I", Cond.methodLink RX3 111 yX1_nextTo, Cond.instanceMethod yX1_nextTo, Cond.selects RX1 yX1_nextTo yX1_nextTo, Cond.code yX1_nextTo cX1_nextTo 3 (some .int), Cond.methodLink RX3 108 yX3_fits, Cond.instanceMethod yX3_fits, Cond.selects RX3 yX3_fits yX3_fits, Cond.code yX3_fits cX3_fits 5 (some .boolean)]
def wsX3_countWays : List Cond := .code yX3_countWays cX3_countWays 1 (some .int) :: ((wsX3_countWays_r1 ++ (wsX3_countWays_r2 ++ (wsX3_countWays_r3 ++ wsX3_countWays_r4))) ++ wsX30 ++ wsX20 ++ wsX10)
def wsX3_findFirst_r1 : List Cond := [Cond.fieldLink RX3 57 "CutOnce$Search" "spent" "Z", Cond.fieldLink RX3 60 "CutOnce$Search" "found" "I", Cond.fieldLink RX3 43 "CutOnce$Search" "joinedOnce" "Z", Cond.fieldLink RX3 31 "CutOnce$Search" "goal" "LCutOnce$Picture;", Cond.fieldLink RX3 28 "CutOnce$Search" "joinedLying" "[I", Cond.fieldLink RX3 25 "CutOnce$Search" "lying" "[I", Cond.methodLink RX3 53 yX3_run, Cond.instanceMethod yX3_run, Cond.selects RX3 yX3_run yX3_run, Cond.initialized RX3, Cond.code yX3_run cX3_run 3 none, Cond.fieldLink RX3 35 "CutOnce$Search" "pile" "LCutOnce$Pile;", Cond.fieldLink RX3 21 "CutOnce$Search" "used" "[Z", Cond.fieldLink RX3 76 "CutOnce$Search" "firstOnly" "Z", Cond.fieldLink RX3 39 "CutOnce$Search" "trialCount" "I", Cond.methodLink RX3 67 yX2_size, Cond.instanceMethod yX2_size, Cond.selects RX2 yX2_size yX2_size, Cond.initialized RX2, Cond.code yX2_size cX2_size 1 (some .int), Cond.fieldLink RX2 18 "CutOnce$Pile" "count" "I", Cond.methodLink RX3 72 yX3_readEdges, Cond.instanceMethod yX3_readEdges, Cond.selects RX3 yX3_readEdges yX3_readEdges]
def wsX3_findFirst_r2 : List Cond := [Cond.code yX3_readEdges cX3_readEdges 9 none, Cond.fieldLink RX3 9 "CutOnce$Search" "shown" "[I", Cond.fieldLink RX3 15 "CutOnce$Search" "fitting" "[I", Cond.methodLink RX3 82 yX2_pieceAt, Cond.instanceMethod yX2_pieceAt, Cond.selects RX2 yX2_pieceAt yX2_pieceAt, Cond.code yX2_pieceAt cX2_pieceAt 2 (some .int), Cond.fieldLink RX2 9 "CutOnce$Pile" "pieceOf" "[I", Cond.methodLink RX2 22 yX2_hasPlace, Cond.instanceMethod yX2_hasPlace, Cond.selects RX2 yX2_hasPlace yX2_hasPlace, Cond.code yX2_hasPlace cX2_hasPlace 2 (some .boolean), Cond.methodLink RX3 86 yX1_isFlat, Cond.instanceMethod yX1_isFlat, Cond.selects RX1 yX1_isFlat yX1_isFlat, Cond.initialized RX1, Cond.code yX1_isFlat cX1_isFlat 3 (some .boolean), Cond.methodLink RX1 43 yX1_sideAt, Cond.instanceMethod yX1_sideAt, Cond.selects RX1 yX1_sideAt yX1_sideAt, Cond.code yX1_sideAt cX1_sideAt 4 (some .int), Cond.fieldLink RX1 15 "CutOnce$Picture" "sideOfEdge" "[I", Cond.methodLink RX3 90 yX3_codeOf, Cond.instanceMethod yX3_codeOf]
def wsX3_findFirst_r3 : List Cond := [Cond.selects RX3 yX3_codeOf yX3_codeOf, Cond.code yX3_codeOf cX3_codeOf 5 (some .int), Cond.methodLink RX3 100 yX1_edgeHeight, Cond.instanceMethod yX1_edgeHeight, Cond.selects RX1 yX1_edgeHeight yX1_edgeHeight, Cond.code yX1_edgeHeight cX1_edgeHeight 5 (some .int), Cond.methodLink RX1 47 yX1_heightAt, Cond.instanceMethod yX1_heightAt, Cond.selects RX1 yX1_heightAt yX1_heightAt, Cond.code yX1_heightAt cX1_heightAt 5 (some .int), Cond.fieldLink RX1 9 "CutOnce$Picture" "heights" "[I", Cond.methodLink RX3 94 yX3_mateOf, Cond.instanceMethod yX3_mateOf, Cond.selects RX3 yX3_mateOf yX3_mateOf, Cond.code yX3_mateOf cX3_mateOf 5 (some .int), Cond.methodLink RX3 97 yX2_turnAt, Cond.instanceMethod yX2_turnAt, Cond.selects RX2 yX2_turnAt yX2_turnAt, Cond.code yX2_turnAt cX2_turnAt 2 (some .int), Cond.fieldLink RX2 15 "CutOnce$Pile" "turnOf" "[I", Cond.methodLink RX3 79 yX3_fillFrom, Cond.instanceMethod yX3_fillFrom, Cond.selects RX3 yX3_fillFrom yX3_fillFrom, Cond.code yX3_fillFrom cX3_fillFrom 4 none]
def wsX3_findFirst_r4 : List Cond := [Cond.constant RX3 107 (60000), Cond.methodLink RX3 63 yX1_pieces, Cond.instanceMethod yX1_pieces, Cond.selects RX1 yX1_pieces yX1_pieces, Cond.code yX1_pieces cX1_pieces 1 (some .int), Cond.fieldLink RX1 22 "CutOnce$Picture" "w" "I", Cond.fieldLink RX1 26 "CutOnce$Picture" "h" "I", Cond.methodLink RX3 104 yX3_lookAround, Cond.instanceMethod yX3_lookAround, Cond.selects RX3 yX3_lookAround yX3_lookAround, Cond.code yX3_lookAround cX3_lookAround 5 none, Cond.fieldLink RX3 18 "CutOnce$Search" "wanted" "[I", Cond.methodLink RX3 111 yX1_nextTo, Cond.instanceMethod yX1_nextTo, Cond.selects RX1 yX1_nextTo yX1_nextTo, Cond.code yX1_nextTo cX1_nextTo 3 (some .int), Cond.methodLink RX3 108 yX3_fits, Cond.instanceMethod yX3_fits, Cond.selects RX3 yX3_fits yX3_fits, Cond.code yX3_fits cX3_fits 5 (some .boolean)]
def wsX3_findFirst : List Cond := .code yX3_findFirst cX3_findFirst 2 (some .int) :: ((wsX3_findFirst_r1 ++ (wsX3_findFirst_r2 ++ (wsX3_findFirst_r3 ++ wsX3_findFirst_r4))) ++ wsX30 ++ wsX20 ++ wsX10)
def wsX4_init : List Cond := .code yX4_init cX4_init 1 none :: ([.methodLink RX4 3 objectInit, .instanceMethod objectInit, .code objectInit ⟨#[0xb1]⟩ 1 none, .arrayClass .int, .fieldLink RX4 9 "CutOnce$Sheet" "cells" "[I"] ++ wsX40)
def wsX4_isThere : List Cond := .code yX4_isThere cX4_isThere 1 (some .boolean) :: ([.fieldLink RX4 15 "CutOnce$Sheet" "there" "Z"] ++ wsX40)
def wsX4_laneHeld : List Cond := .code yX4_laneHeld cX4_laneHeld 1 (some .int) :: ([.fieldLink RX4 19 "CutOnce$Sheet" "lane" "I"] ++ wsX40)
def wsX4_isOfOther : List Cond := .code yX4_isOfOther cX4_isOfOther 2 (some .boolean) :: ([.fieldLink RX4 15 "CutOnce$Sheet" "there" "Z", .fieldLink RX4 19 "CutOnce$Sheet" "lane" "I"] ++ wsX40)
def wsX4_renew : List Cond := .code yX4_renew cX4_renew 4 none :: ([.fieldLink RX4 15 "CutOnce$Sheet" "there" "Z", .fieldLink RX4 19 "CutOnce$Sheet" "lane" "I", .methodLink RX4 23 Lib.Math.max.name, .static Lib.Math.max.name, .initialized "java/lang/Math", .code Lib.Math.max.name Lib.Math.max.code 2 (some .int), .methodLink RX4 29 Lib.Math.min.name, .static Lib.Math.min.name, .code Lib.Math.min.name Lib.Math.min.code 2 (some .int), .fieldLink RX4 32 "CutOnce$Sheet" "length" "I", .fieldLink RX4 9 "CutOnce$Sheet" "cells" "[I"] ++ wsX40)
def wsX4_drop : List Cond := .code yX4_drop cX4_drop 1 none :: ([.fieldLink RX4 15 "CutOnce$Sheet" "there" "Z", .fieldLink RX4 32 "CutOnce$Sheet" "length" "I"] ++ wsX40)
def wsX4_holds : List Cond := .code yX4_holds cX4_holds 4 (some .boolean) :: ([.fieldLink RX4 32 "CutOnce$Sheet" "length" "I"] ++ wsX40)
def wsX4_read : List Cond := .code yX4_read cX4_read 2 (some .int) :: ([.fieldLink RX4 9 "CutOnce$Sheet" "cells" "[I", .methodLink RX4 35 yX4_holds, .instanceMethod yX4_holds, .selects RX4 yX4_holds yX4_holds, .initialized RX4, .code yX4_holds cX4_holds 4 (some .boolean), .fieldLink RX4 32 "CutOnce$Sheet" "length" "I"] ++ wsX40)
def wsX4_cutToLane : List Cond := .code yX4_cutToLane cX4_cutToLane 2 (some .int) :: ([.fieldLink RX4 19 "CutOnce$Sheet" "lane" "I"] ++ wsX40)
def wsX4_write : List Cond := .code yX4_write cX4_write 3 none :: ([.fieldLink RX4 9 "CutOnce$Sheet" "cells" "[I", .methodLink RX4 35 yX4_holds, .instanceMethod yX4_holds, .selects RX4 yX4_holds yX4_holds, .initialized RX4, .code yX4_holds cX4_holds 4 (some .boolean), .fieldLink RX4 32 "CutOnce$Sheet" "length" "I", .methodLink RX4 39 yX4_cutToLane, .instanceMethod yX4_cutToLane, .selects RX4 yX4_cutToLane yX4_cutToLane, .code yX4_cutToLane cX4_cutToLane 2 (some .int), .fieldLink RX4 19 "CutOnce$Sheet" "lane" "I"] ++ wsX40)
def wsX4_writeFrom : List Cond := .code yX4_writeFrom cX4_writeFrom 5 none :: ([.fieldLink RX4 9 "CutOnce$Sheet" "cells" "[I", .methodLink RX4 43 arraycopyName, .native arraycopyName, .static arraycopyName, .initialized "java/lang/System", .methodLink RX4 35 yX4_holds, .instanceMethod yX4_holds, .selects RX4 yX4_holds yX4_holds, .initialized RX4, .code yX4_holds cX4_holds 4 (some .boolean), .fieldLink RX4 32 "CutOnce$Sheet" "length" "I"] ++ wsX40)
def wsX5_init_r1 : List Cond := [Cond.methodLink RX5 3 objectInit, Cond.instanceMethod objectInit, Cond.code objectInit ⟨#[0xb1]⟩ 1 none, Cond.classLink RX5 9 RX1, Cond.instantiable RX1 4, Cond.initialized RX1, Cond.fieldLink RX5 12 "CutOnce" "thePicture" "LCutOnce$Picture;", Cond.classLink RX5 18 RX2, Cond.instantiable RX2 3, Cond.initialized RX2, Cond.fieldLink RX5 21 "CutOnce" "thePile" "LCutOnce$Pile;", Cond.classLink RX5 25 RX3, Cond.instantiable RX3 13, Cond.initialized RX3, Cond.fieldLink RX5 30 "CutOnce" "theSearch" "LCutOnce$Search;", Cond.classLink RX5 34 RX0, Cond.instantiable RX0 1, Cond.initialized RX0, Cond.fieldLink RX5 37 "CutOnce" "theDraw" "LCutOnce$Draw;", Cond.classLink RX5 41 RX4, Cond.fieldLink RX5 43 "CutOnce" "sheets" "[LCutOnce$Sheet;", Cond.instantiable RX4 4, Cond.initialized RX4, Cond.methodLink RX5 11 yX1_init]
def wsX5_init_r2 : List Cond := [Cond.instanceMethod yX1_init, Cond.code yX1_init cX1_init 1 none, Cond.methodLink RX1 3 objectInit, Cond.arrayClass .int, Cond.fieldLink RX1 9 "CutOnce$Picture" "heights" "[I", Cond.fieldLink RX1 15 "CutOnce$Picture" "sideOfEdge" "[I", Cond.methodLink RX1 18 yX1_cutAnew, Cond.instanceMethod yX1_cutAnew, Cond.selects RX1 yX1_cutAnew yX1_cutAnew, Cond.code yX1_cutAnew cX1_cutAnew 5 none, Cond.fieldLink RX1 22 "CutOnce$Picture" "w" "I", Cond.fieldLink RX1 26 "CutOnce$Picture" "h" "I", Cond.methodLink RX1 29 yX1_layEdges, Cond.instanceMethod yX1_layEdges, Cond.selects RX1 yX1_layEdges yX1_layEdges, Cond.code yX1_layEdges cX1_layEdges 6 none, Cond.instanceMethod yX2_init, Cond.code yX2_init cX2_init 1 none, Cond.methodLink RX2 3 objectInit, Cond.fieldLink RX2 9 "CutOnce$Pile" "pieceOf" "[I", Cond.fieldLink RX2 15 "CutOnce$Pile" "turnOf" "[I", Cond.methodLink RX5 27 yX3_init, Cond.instanceMethod yX3_init, Cond.code yX3_init cX3_init 3 none]
def wsX5_init_r3 : List Cond := [Cond.methodLink RX3 3 objectInit, Cond.fieldLink RX3 9 "CutOnce$Search" "shown" "[I", Cond.fieldLink RX3 15 "CutOnce$Search" "fitting" "[I", Cond.fieldLink RX3 18 "CutOnce$Search" "wanted" "[I", Cond.arrayClass .boolean, Cond.fieldLink RX3 21 "CutOnce$Search" "used" "[Z", Cond.fieldLink RX3 25 "CutOnce$Search" "lying" "[I", Cond.fieldLink RX3 28 "CutOnce$Search" "joinedLying" "[I", Cond.fieldLink RX3 31 "CutOnce$Search" "goal" "LCutOnce$Picture;", Cond.fieldLink RX3 35 "CutOnce$Search" "pile" "LCutOnce$Pile;", Cond.instanceMethod yX0_init, Cond.code yX0_init cX0_init 1 none, Cond.methodLink RX0 1 objectInit, Cond.instanceMethod yX4_init, Cond.code yX4_init cX4_init 1 none, Cond.methodLink RX4 3 objectInit, Cond.fieldLink RX4 9 "CutOnce$Sheet" "cells" "[I"]
def wsX5_init : List Cond := .code yX5_init cX5_init 2 none :: ((wsX5_init_r1 ++ (wsX5_init_r2 ++ wsX5_init_r3)) ++ wsX10 ++ wsX50 ++ wsX20 ++ wsX30 ++ wsX00 ++ wsX40)
def wsX5_picture_r1 : List Cond := [Cond.fieldLink RX5 12 "CutOnce" "thePicture" "LCutOnce$Picture;", Cond.fieldLink RX5 21 "CutOnce" "thePile" "LCutOnce$Pile;", Cond.fieldLink RX5 30 "CutOnce" "theSearch" "LCutOnce$Search;", Cond.methodLink RX5 48 yX1_cutAnew, Cond.instanceMethod yX1_cutAnew, Cond.selects RX1 yX1_cutAnew yX1_cutAnew, Cond.initialized RX1, Cond.code yX1_cutAnew cX1_cutAnew 5 none, Cond.fieldLink RX1 22 "CutOnce$Picture" "w" "I", Cond.fieldLink RX1 26 "CutOnce$Picture" "h" "I", Cond.fieldLink RX1 9 "CutOnce$Picture" "heights" "[I", Cond.methodLink RX1 29 yX1_layEdges, Cond.instanceMethod yX1_layEdges, Cond.selects RX1 yX1_layEdges yX1_layEdges, Cond.code yX1_layEdges cX1_layEdges 6 none, Cond.fieldLink RX1 15 "CutOnce$Picture" "sideOfEdge" "[I", Cond.methodLink RX5 52 yX2_clearAll, Cond.instanceMethod yX2_clearAll, Cond.selects RX2 yX2_clearAll yX2_clearAll, Cond.initialized RX2, Cond.code yX2_clearAll cX2_clearAll 1 none, Cond.fieldLink RX2 18 "CutOnce$Pile" "count" "I", Cond.methodLink RX5 55 yX3_forgetJoined, Cond.instanceMethod yX3_forgetJoined]
def wsX5_picture_r2 : List Cond := [Cond.selects RX3 yX3_forgetJoined yX3_forgetJoined, Cond.initialized RX3, Cond.code yX3_forgetJoined cX3_forgetJoined 1 none, Cond.fieldLink RX3 43 "CutOnce$Search" "joinedOnce" "Z", Cond.methodLink RX5 58 yX1_sides, Cond.instanceMethod yX1_sides, Cond.selects RX1 yX1_sides yX1_sides, Cond.code yX1_sides cX1_sides 1 (some .int)]
def wsX5_picture : List Cond := .code yX5_picture cX5_picture 3 (some .int) :: ((wsX5_picture_r1 ++ wsX5_picture_r2) ++ wsX50 ++ wsX10 ++ wsX20 ++ wsX30)
def wsX5_make_r1 : List Cond := [Cond.fieldLink RX5 37 "CutOnce" "theDraw" "LCutOnce$Draw;", Cond.fieldLink RX5 12 "CutOnce" "thePicture" "LCutOnce$Picture;", Cond.fieldLink RX5 30 "CutOnce" "theSearch" "LCutOnce$Search;", Cond.methodLink RX5 62 yX0_begin, Cond.instanceMethod yX0_begin, Cond.selects RX0 yX0_begin yX0_begin, Cond.initialized RX0, Cond.code yX0_begin cX0_begin 3 none, Cond.fieldLink RX0 7 "CutOnce$Draw" "now" "J", Cond.methodLink RX5 58 yX1_sides, Cond.instanceMethod yX1_sides, Cond.selects RX1 yX1_sides yX1_sides, Cond.initialized RX1, Cond.code yX1_sides cX1_sides 1 (some .int), Cond.fieldLink RX1 22 "CutOnce$Picture" "w" "I", Cond.fieldLink RX1 26 "CutOnce$Picture" "h" "I", Cond.methodLink RX5 66 yX0_below, Cond.instanceMethod yX0_below, Cond.selects RX0 yX0_below yX0_below, Cond.code yX0_below cX0_below 2 (some .int), Cond.constantLong RX0 13 (6364136223846793005), Cond.constantLong RX0 15 (1442695040888963407), Cond.constantLong RX0 17 (2147483647), Cond.constantLong RX0 19 (4096)]
def wsX5_make_r2 : List Cond := [Cond.methodLink RX5 70 yX1_setHeight, Cond.instanceMethod yX1_setHeight, Cond.selects RX1 yX1_setHeight yX1_setHeight, Cond.code yX1_setHeight cX1_setHeight 5 none, Cond.fieldLink RX1 9 "CutOnce$Picture" "heights" "[I", Cond.methodLink RX5 55 yX3_forgetJoined, Cond.instanceMethod yX3_forgetJoined, Cond.selects RX3 yX3_forgetJoined yX3_forgetJoined, Cond.initialized RX3, Cond.code yX3_forgetJoined cX3_forgetJoined 1 none, Cond.fieldLink RX3 43 "CutOnce$Search" "joinedOnce" "Z"]
def wsX5_make : List Cond := .code yX5_make cX5_make 5 (some .int) :: ((wsX5_make_r1 ++ wsX5_make_r2) ++ wsX50 ++ wsX00 ++ wsX10 ++ wsX30)
def wsX5_isHeightPlace : List Cond := .code yX5_isHeightPlace cX5_isHeightPlace 1 (some .boolean) :: ([])
def wsX5_isHeight : List Cond := .code yX5_isHeight cX5_isHeight 1 (some .boolean) :: ([])
def wsX5_bend_r1 : List Cond := [Cond.fieldLink RX5 12 "CutOnce" "thePicture" "LCutOnce$Picture;", Cond.constantLong RX5 84 (-9223372036854775808), Cond.fieldLink RX5 30 "CutOnce" "theSearch" "LCutOnce$Search;", Cond.methodLink RX5 74 yX1_hasSide, Cond.instanceMethod yX1_hasSide, Cond.selects RX1 yX1_hasSide yX1_hasSide, Cond.initialized RX1, Cond.code yX1_hasSide cX1_hasSide 2 (some .boolean), Cond.methodLink RX1 32 yX1_sides, Cond.instanceMethod yX1_sides, Cond.selects RX1 yX1_sides yX1_sides, Cond.code yX1_sides cX1_sides 1 (some .int), Cond.fieldLink RX1 22 "CutOnce$Picture" "w" "I", Cond.fieldLink RX1 26 "CutOnce$Picture" "h" "I", Cond.methodLink RX5 78 yX5_isHeightPlace, Cond.static yX5_isHeightPlace, Cond.initialized RX5, Cond.code yX5_isHeightPlace cX5_isHeightPlace 1 (some .boolean), Cond.methodLink RX5 81 yX5_isHeight, Cond.static yX5_isHeight, Cond.code yX5_isHeight cX5_isHeight 1 (some .boolean), Cond.methodLink RX5 86 yX1_heightAt, Cond.instanceMethod yX1_heightAt, Cond.selects RX1 yX1_heightAt yX1_heightAt]
def wsX5_bend_r2 : List Cond := [Cond.code yX1_heightAt cX1_heightAt 5 (some .int), Cond.fieldLink RX1 9 "CutOnce$Picture" "heights" "[I", Cond.methodLink RX5 70 yX1_setHeight, Cond.instanceMethod yX1_setHeight, Cond.selects RX1 yX1_setHeight yX1_setHeight, Cond.code yX1_setHeight cX1_setHeight 5 none, Cond.methodLink RX5 55 yX3_forgetJoined, Cond.instanceMethod yX3_forgetJoined, Cond.selects RX3 yX3_forgetJoined yX3_forgetJoined, Cond.initialized RX3, Cond.code yX3_forgetJoined cX3_forgetJoined 1 none, Cond.fieldLink RX3 43 "CutOnce$Search" "joinedOnce" "Z"]
def wsX5_bend : List Cond := .code yX5_bend cX5_bend 5 (some .long) :: ((wsX5_bend_r1 ++ wsX5_bend_r2) ++ wsX50 ++ wsX10 ++ wsX30)
def wsX5_height : List Cond := .code yX5_height cX5_height 3 (some .long) :: ([.fieldLink RX5 12 "CutOnce" "thePicture" "LCutOnce$Picture;", .constantLong RX5 84 (-9223372036854775808), .methodLink RX5 74 yX1_hasSide, .instanceMethod yX1_hasSide, .selects RX1 yX1_hasSide yX1_hasSide, .initialized RX1, .code yX1_hasSide cX1_hasSide 2 (some .boolean), .methodLink RX1 32 yX1_sides, .instanceMethod yX1_sides, .selects RX1 yX1_sides yX1_sides, .code yX1_sides cX1_sides 1 (some .int), .fieldLink RX1 22 "CutOnce$Picture" "w" "I", .fieldLink RX1 26 "CutOnce$Picture" "h" "I", .methodLink RX5 78 yX5_isHeightPlace, .static yX5_isHeightPlace, .initialized RX5, .code yX5_isHeightPlace cX5_isHeightPlace 1 (some .boolean), .methodLink RX5 86 yX1_heightAt, .instanceMethod yX1_heightAt, .selects RX1 yX1_heightAt yX1_heightAt, .code yX1_heightAt cX1_heightAt 5 (some .int), .fieldLink RX1 9 "CutOnce$Picture" "heights" "[I"] ++ wsX50 ++ wsX10)
def wsX5_isSheet : List Cond := .code yX5_isSheet cX5_isSheet 1 (some .boolean) :: ([])
def wsX5_isLane : List Cond := .code yX5_isLane cX5_isLane 1 (some .boolean) :: ([])
def wsX5_come : List Cond := .code yX5_come cX5_come 2 (some .int) :: ([.fieldLink RX5 90 "CutOnce" "latestFault" "I"] ++ wsX50)
def wsX5_areHeights : List Cond := .code yX5_areHeights cX5_areHeights 4 (some .boolean) :: ([.methodLink RX5 234 yX4_read, .instanceMethod yX4_read, .selects RX4 yX4_read yX4_read, .initialized RX4, .code yX4_read cX4_read 2 (some .int), .fieldLink RX4 9 "CutOnce$Sheet" "cells" "[I", .methodLink RX4 35 yX4_holds, .instanceMethod yX4_holds, .selects RX4 yX4_holds yX4_holds, .code yX4_holds cX4_holds 4 (some .boolean), .fieldLink RX4 32 "CutOnce$Sheet" "length" "I", .methodLink RX5 81 yX5_isHeight, .static yX5_isHeight, .initialized RX5, .code yX5_isHeight cX5_isHeight 1 (some .boolean)] ++ wsX40)
def wsX5_shapeFrom : List Cond := .code yX5_shapeFrom cX5_shapeFrom 7 none :: ([.fieldLink RX5 12 "CutOnce" "thePicture" "LCutOnce$Picture;", .methodLink RX5 234 yX4_read, .instanceMethod yX4_read, .selects RX4 yX4_read yX4_read, .initialized RX4, .code yX4_read cX4_read 2 (some .int), .fieldLink RX4 9 "CutOnce$Sheet" "cells" "[I", .methodLink RX4 35 yX4_holds, .instanceMethod yX4_holds, .selects RX4 yX4_holds yX4_holds, .code yX4_holds cX4_holds 4 (some .boolean), .fieldLink RX4 32 "CutOnce$Sheet" "length" "I", .methodLink RX5 70 yX1_setHeight, .instanceMethod yX1_setHeight, .selects RX1 yX1_setHeight yX1_setHeight, .initialized RX1, .code yX1_setHeight cX1_setHeight 5 none, .fieldLink RX1 9 "CutOnce$Picture" "heights" "[I"] ++ wsX50 ++ wsX40 ++ wsX10)
def wsX5_shape_r1 : List Cond := [Cond.fieldLink RX5 90 "CutOnce" "latestFault" "I", Cond.fieldLink RX5 12 "CutOnce" "thePicture" "LCutOnce$Picture;", Cond.fieldLink RX5 43 "CutOnce" "sheets" "[LCutOnce$Sheet;", Cond.constantLong RX5 110 (5), Cond.fieldLink RX5 30 "CutOnce" "theSearch" "LCutOnce$Search;", Cond.methodLink RX5 94 yX5_isSheet, Cond.static yX5_isSheet, Cond.initialized RX5, Cond.code yX5_isSheet cX5_isSheet 1 (some .boolean), Cond.methodLink RX5 74 yX1_hasSide, Cond.instanceMethod yX1_hasSide, Cond.selects RX1 yX1_hasSide yX1_hasSide, Cond.initialized RX1, Cond.code yX1_hasSide cX1_hasSide 2 (some .boolean), Cond.methodLink RX1 32 yX1_sides, Cond.instanceMethod yX1_sides, Cond.selects RX1 yX1_sides yX1_sides, Cond.code yX1_sides cX1_sides 1 (some .int), Cond.fieldLink RX1 22 "CutOnce$Picture" "w" "I", Cond.fieldLink RX1 26 "CutOnce$Picture" "h" "I", Cond.methodLink RX5 97 yX5_isLane, Cond.static yX5_isLane, Cond.code yX5_isLane cX5_isLane 1 (some .boolean), Cond.methodLink RX5 100 yX4_isOfOther]
def wsX5_shape_r2 : List Cond := [Cond.instanceMethod yX4_isOfOther, Cond.selects RX4 yX4_isOfOther yX4_isOfOther, Cond.initialized RX4, Cond.code yX4_isOfOther cX4_isOfOther 2 (some .boolean), Cond.fieldLink RX4 15 "CutOnce$Sheet" "there" "Z", Cond.fieldLink RX4 19 "CutOnce$Sheet" "lane" "I", Cond.methodLink RX5 103 yX5_come, Cond.instanceMethod yX5_come, Cond.selects RX5 yX5_come yX5_come, Cond.code yX5_come cX5_come 2 (some .int), Cond.methodLink RX5 106 yX4_isThere, Cond.instanceMethod yX4_isThere, Cond.selects RX4 yX4_isThere yX4_isThere, Cond.code yX4_isThere cX4_isThere 1 (some .boolean), Cond.methodLink RX5 112 yX4_holds, Cond.instanceMethod yX4_holds, Cond.selects RX4 yX4_holds yX4_holds, Cond.code yX4_holds cX4_holds 4 (some .boolean), Cond.fieldLink RX4 32 "CutOnce$Sheet" "length" "I", Cond.methodLink RX5 58 yX1_sides, Cond.methodLink RX5 116 yX5_areHeights, Cond.static yX5_areHeights, Cond.code yX5_areHeights cX5_areHeights 4 (some .boolean), Cond.methodLink RX5 234 yX4_read]
def wsX5_shape_r3 : List Cond := [Cond.instanceMethod yX4_read, Cond.selects RX4 yX4_read yX4_read, Cond.code yX4_read cX4_read 2 (some .int), Cond.fieldLink RX4 9 "CutOnce$Sheet" "cells" "[I", Cond.methodLink RX4 35 yX4_holds, Cond.methodLink RX5 81 yX5_isHeight, Cond.static yX5_isHeight, Cond.code yX5_isHeight cX5_isHeight 1 (some .boolean), Cond.methodLink RX5 120 yX5_shapeFrom, Cond.instanceMethod yX5_shapeFrom, Cond.selects RX5 yX5_shapeFrom yX5_shapeFrom, Cond.code yX5_shapeFrom cX5_shapeFrom 7 none, Cond.methodLink RX5 70 yX1_setHeight, Cond.instanceMethod yX1_setHeight, Cond.selects RX1 yX1_setHeight yX1_setHeight, Cond.code yX1_setHeight cX1_setHeight 5 none, Cond.fieldLink RX1 9 "CutOnce$Picture" "heights" "[I", Cond.methodLink RX5 55 yX3_forgetJoined, Cond.instanceMethod yX3_forgetJoined, Cond.selects RX3 yX3_forgetJoined yX3_forgetJoined, Cond.initialized RX3, Cond.code yX3_forgetJoined cX3_forgetJoined 1 none, Cond.fieldLink RX3 43 "CutOnce$Search" "joinedOnce" "Z"]
def wsX5_shape : List Cond := .code yX5_shape cX5_shape 7 (some .int) :: ((wsX5_shape_r1 ++ (wsX5_shape_r2 ++ wsX5_shape_r3)) ++ wsX50 ++ wsX10 ++ wsX40 ++ wsX30)
def wsX5_sideOf : List Cond := .code yX5_sideOf cX5_sideOf 3 (some .int) :: ([.fieldLink RX5 12 "CutOnce" "thePicture" "LCutOnce$Picture;", .methodLink RX5 124 yX1_hasEdge, .instanceMethod yX1_hasEdge, .selects RX1 yX1_hasEdge yX1_hasEdge, .initialized RX1, .code yX1_hasEdge cX1_hasEdge 3 (some .boolean), .methodLink RX1 39 yX1_hasPiece, .instanceMethod yX1_hasPiece, .selects RX1 yX1_hasPiece yX1_hasPiece, .code yX1_hasPiece cX1_hasPiece 2 (some .boolean), .methodLink RX1 36 yX1_pieces, .instanceMethod yX1_pieces, .selects RX1 yX1_pieces yX1_pieces, .code yX1_pieces cX1_pieces 1 (some .int), .fieldLink RX1 22 "CutOnce$Picture" "w" "I", .fieldLink RX1 26 "CutOnce$Picture" "h" "I", .methodLink RX5 128 yX1_sideAt, .instanceMethod yX1_sideAt, .selects RX1 yX1_sideAt yX1_sideAt, .code yX1_sideAt cX1_sideAt 4 (some .int), .fieldLink RX1 15 "CutOnce$Picture" "sideOfEdge" "[I"] ++ wsX50 ++ wsX10)
def wsX5_edge_r1 : List Cond := [Cond.fieldLink RX5 12 "CutOnce" "thePicture" "LCutOnce$Picture;", Cond.constantLong RX5 84 (-9223372036854775808), Cond.methodLink RX5 124 yX1_hasEdge, Cond.instanceMethod yX1_hasEdge, Cond.selects RX1 yX1_hasEdge yX1_hasEdge, Cond.initialized RX1, Cond.code yX1_hasEdge cX1_hasEdge 3 (some .boolean), Cond.methodLink RX1 39 yX1_hasPiece, Cond.instanceMethod yX1_hasPiece, Cond.selects RX1 yX1_hasPiece yX1_hasPiece, Cond.code yX1_hasPiece cX1_hasPiece 2 (some .boolean), Cond.methodLink RX1 36 yX1_pieces, Cond.instanceMethod yX1_pieces, Cond.selects RX1 yX1_pieces yX1_pieces, Cond.code yX1_pieces cX1_pieces 1 (some .int), Cond.fieldLink RX1 22 "CutOnce$Picture" "w" "I", Cond.fieldLink RX1 26 "CutOnce$Picture" "h" "I", Cond.methodLink RX5 78 yX5_isHeightPlace, Cond.static yX5_isHeightPlace, Cond.initialized RX5, Cond.code yX5_isHeightPlace cX5_isHeightPlace 1 (some .boolean), Cond.methodLink RX5 132 yX1_isFlat, Cond.instanceMethod yX1_isFlat, Cond.selects RX1 yX1_isFlat yX1_isFlat]
def wsX5_edge_r2 : List Cond := [Cond.code yX1_isFlat cX1_isFlat 3 (some .boolean), Cond.methodLink RX1 43 yX1_sideAt, Cond.instanceMethod yX1_sideAt, Cond.selects RX1 yX1_sideAt yX1_sideAt, Cond.code yX1_sideAt cX1_sideAt 4 (some .int), Cond.fieldLink RX1 15 "CutOnce$Picture" "sideOfEdge" "[I", Cond.methodLink RX5 135 yX1_edgeHeight, Cond.instanceMethod yX1_edgeHeight, Cond.selects RX1 yX1_edgeHeight yX1_edgeHeight, Cond.code yX1_edgeHeight cX1_edgeHeight 5 (some .int), Cond.methodLink RX1 47 yX1_heightAt, Cond.instanceMethod yX1_heightAt, Cond.selects RX1 yX1_heightAt yX1_heightAt, Cond.code yX1_heightAt cX1_heightAt 5 (some .int), Cond.fieldLink RX1 9 "CutOnce$Picture" "heights" "[I"]
def wsX5_edge : List Cond := .code yX5_edge cX5_edge 4 (some .long) :: ((wsX5_edge_r1 ++ wsX5_edge_r2) ++ wsX50 ++ wsX10)
def wsX5_far_r1 : List Cond := [Cond.fieldLink RX5 12 "CutOnce" "thePicture" "LCutOnce$Picture;", Cond.methodLink RX5 124 yX1_hasEdge, Cond.instanceMethod yX1_hasEdge, Cond.selects RX1 yX1_hasEdge yX1_hasEdge, Cond.initialized RX1, Cond.code yX1_hasEdge cX1_hasEdge 3 (some .boolean), Cond.methodLink RX1 39 yX1_hasPiece, Cond.instanceMethod yX1_hasPiece, Cond.selects RX1 yX1_hasPiece yX1_hasPiece, Cond.code yX1_hasPiece cX1_hasPiece 2 (some .boolean), Cond.methodLink RX1 36 yX1_pieces, Cond.instanceMethod yX1_pieces, Cond.selects RX1 yX1_pieces yX1_pieces, Cond.code yX1_pieces cX1_pieces 1 (some .int), Cond.fieldLink RX1 22 "CutOnce$Picture" "w" "I", Cond.fieldLink RX1 26 "CutOnce$Picture" "h" "I", Cond.methodLink RX5 132 yX1_isFlat, Cond.instanceMethod yX1_isFlat, Cond.selects RX1 yX1_isFlat yX1_isFlat, Cond.code yX1_isFlat cX1_isFlat 3 (some .boolean), Cond.methodLink RX1 43 yX1_sideAt, Cond.instanceMethod yX1_sideAt, Cond.selects RX1 yX1_sideAt yX1_sideAt, Cond.code yX1_sideAt cX1_sideAt 4 (some .int)]
def wsX5_far_r2 : List Cond := [Cond.fieldLink RX1 15 "CutOnce$Picture" "sideOfEdge" "[I", Cond.methodLink RX5 138 yX1_farness, Cond.instanceMethod yX1_farness, Cond.selects RX1 yX1_farness yX1_farness, Cond.code yX1_farness cX1_farness 7 (some .int), Cond.methodLink RX1 54 Lib.Math.abs.name, Cond.static Lib.Math.abs.name, Cond.initialized "java/lang/Math", Cond.code Lib.Math.abs.name Lib.Math.abs.code 1 (some .int), Cond.methodLink RX1 51 yX1_edgeHeight, Cond.instanceMethod yX1_edgeHeight, Cond.selects RX1 yX1_edgeHeight yX1_edgeHeight, Cond.code yX1_edgeHeight cX1_edgeHeight 5 (some .int), Cond.methodLink RX1 47 yX1_heightAt, Cond.instanceMethod yX1_heightAt, Cond.selects RX1 yX1_heightAt yX1_heightAt, Cond.code yX1_heightAt cX1_heightAt 5 (some .int), Cond.fieldLink RX1 9 "CutOnce$Picture" "heights" "[I"]
def wsX5_far : List Cond := .code yX5_far cX5_far 5 (some .int) :: ((wsX5_far_r1 ++ wsX5_far_r2) ++ wsX50 ++ wsX10)
def wsX5_kind_r1 : List Cond := [Cond.fieldLink RX5 12 "CutOnce" "thePicture" "LCutOnce$Picture;", Cond.methodLink RX5 74 yX1_hasSide, Cond.instanceMethod yX1_hasSide, Cond.selects RX1 yX1_hasSide yX1_hasSide, Cond.initialized RX1, Cond.code yX1_hasSide cX1_hasSide 2 (some .boolean), Cond.methodLink RX1 32 yX1_sides, Cond.instanceMethod yX1_sides, Cond.selects RX1 yX1_sides yX1_sides, Cond.code yX1_sides cX1_sides 1 (some .int), Cond.fieldLink RX1 22 "CutOnce$Picture" "w" "I", Cond.fieldLink RX1 26 "CutOnce$Picture" "h" "I", Cond.methodLink RX5 142 yX1_kindAt, Cond.instanceMethod yX1_kindAt, Cond.selects RX1 yX1_kindAt yX1_kindAt, Cond.code yX1_kindAt cX1_kindAt 3 (some .int), Cond.methodLink RX1 60 yX1_bulges, Cond.instanceMethod yX1_bulges, Cond.selects RX1 yX1_bulges yX1_bulges, Cond.code yX1_bulges cX1_bulges 6 (some .boolean), Cond.methodLink RX1 47 yX1_heightAt, Cond.instanceMethod yX1_heightAt, Cond.selects RX1 yX1_heightAt yX1_heightAt, Cond.code yX1_heightAt cX1_heightAt 5 (some .int)]
def wsX5_kind_r2 : List Cond := [Cond.fieldLink RX1 9 "CutOnce$Picture" "heights" "[I", Cond.methodLink RX1 63 yX1_differing, Cond.instanceMethod yX1_differing, Cond.selects RX1 yX1_differing yX1_differing, Cond.code yX1_differing cX1_differing 6 (some .int)]
def wsX5_kind : List Cond := .code yX5_kind cX5_kind 2 (some .int) :: ((wsX5_kind_r1 ++ wsX5_kind_r2) ++ wsX50 ++ wsX10)
def wsX5_unlike_r1 : List Cond := [Cond.fieldLink RX5 12 "CutOnce" "thePicture" "LCutOnce$Picture;", Cond.methodLink RX5 145 yX1_leastFar, Cond.instanceMethod yX1_leastFar, Cond.selects RX1 yX1_leastFar yX1_leastFar, Cond.initialized RX1, Cond.code yX1_leastFar cX1_leastFar 5 (some .int), Cond.methodLink RX1 36 yX1_pieces, Cond.instanceMethod yX1_pieces, Cond.selects RX1 yX1_pieces yX1_pieces, Cond.code yX1_pieces cX1_pieces 1 (some .int), Cond.fieldLink RX1 22 "CutOnce$Picture" "w" "I", Cond.fieldLink RX1 26 "CutOnce$Picture" "h" "I", Cond.methodLink RX1 70 yX1_strangersApart, Cond.instanceMethod yX1_strangersApart, Cond.selects RX1 yX1_strangersApart yX1_strangersApart, Cond.code yX1_strangersApart cX1_strangersApart 7 (some .int), Cond.methodLink RX1 73 yX1_isFlat, Cond.instanceMethod yX1_isFlat, Cond.selects RX1 yX1_isFlat yX1_isFlat, Cond.code yX1_isFlat cX1_isFlat 3 (some .boolean), Cond.methodLink RX1 43 yX1_sideAt, Cond.instanceMethod yX1_sideAt, Cond.selects RX1 yX1_sideAt yX1_sideAt, Cond.code yX1_sideAt cX1_sideAt 4 (some .int)]
def wsX5_unlike_r2 : List Cond := [Cond.fieldLink RX1 15 "CutOnce$Picture" "sideOfEdge" "[I", Cond.methodLink RX1 77 yX1_farness, Cond.instanceMethod yX1_farness, Cond.selects RX1 yX1_farness yX1_farness, Cond.code yX1_farness cX1_farness 7 (some .int), Cond.methodLink RX1 54 Lib.Math.abs.name, Cond.static Lib.Math.abs.name, Cond.initialized "java/lang/Math", Cond.code Lib.Math.abs.name Lib.Math.abs.code 1 (some .int), Cond.methodLink RX1 51 yX1_edgeHeight, Cond.instanceMethod yX1_edgeHeight, Cond.selects RX1 yX1_edgeHeight yX1_edgeHeight, Cond.code yX1_edgeHeight cX1_edgeHeight 5 (some .int), Cond.methodLink RX1 47 yX1_heightAt, Cond.instanceMethod yX1_heightAt, Cond.selects RX1 yX1_heightAt yX1_heightAt, Cond.code yX1_heightAt cX1_heightAt 5 (some .int), Cond.fieldLink RX1 9 "CutOnce$Picture" "heights" "[I"]
def wsX5_unlike : List Cond := .code yX5_unlike cX5_unlike 2 (some .int) :: ((wsX5_unlike_r1 ++ wsX5_unlike_r2) ++ wsX50 ++ wsX10)
def wsX5_traps_r1 : List Cond := [Cond.fieldLink RX5 12 "CutOnce" "thePicture" "LCutOnce$Picture;", Cond.methodLink RX5 148 yX1_pairsWithin, Cond.instanceMethod yX1_pairsWithin, Cond.selects RX1 yX1_pairsWithin yX1_pairsWithin, Cond.initialized RX1, Cond.code yX1_pairsWithin cX1_pairsWithin 6 (some .int), Cond.methodLink RX1 36 yX1_pieces, Cond.instanceMethod yX1_pieces, Cond.selects RX1 yX1_pieces yX1_pieces, Cond.code yX1_pieces cX1_pieces 1 (some .int), Cond.fieldLink RX1 22 "CutOnce$Picture" "w" "I", Cond.fieldLink RX1 26 "CutOnce$Picture" "h" "I", Cond.methodLink RX1 70 yX1_strangersApart, Cond.instanceMethod yX1_strangersApart, Cond.selects RX1 yX1_strangersApart yX1_strangersApart, Cond.code yX1_strangersApart cX1_strangersApart 7 (some .int), Cond.methodLink RX1 73 yX1_isFlat, Cond.instanceMethod yX1_isFlat, Cond.selects RX1 yX1_isFlat yX1_isFlat, Cond.code yX1_isFlat cX1_isFlat 3 (some .boolean), Cond.methodLink RX1 43 yX1_sideAt, Cond.instanceMethod yX1_sideAt, Cond.selects RX1 yX1_sideAt yX1_sideAt, Cond.code yX1_sideAt cX1_sideAt 4 (some .int)]
def wsX5_traps_r2 : List Cond := [Cond.fieldLink RX1 15 "CutOnce$Picture" "sideOfEdge" "[I", Cond.methodLink RX1 77 yX1_farness, Cond.instanceMethod yX1_farness, Cond.selects RX1 yX1_farness yX1_farness, Cond.code yX1_farness cX1_farness 7 (some .int), Cond.methodLink RX1 54 Lib.Math.abs.name, Cond.static Lib.Math.abs.name, Cond.initialized "java/lang/Math", Cond.code Lib.Math.abs.name Lib.Math.abs.code 1 (some .int), Cond.methodLink RX1 51 yX1_edgeHeight, Cond.instanceMethod yX1_edgeHeight, Cond.selects RX1 yX1_edgeHeight yX1_edgeHeight, Cond.code yX1_edgeHeight cX1_edgeHeight 5 (some .int), Cond.methodLink RX1 47 yX1_heightAt, Cond.instanceMethod yX1_heightAt, Cond.selects RX1 yX1_heightAt yX1_heightAt, Cond.code yX1_heightAt cX1_heightAt 5 (some .int), Cond.fieldLink RX1 9 "CutOnce$Picture" "heights" "[I"]
def wsX5_traps : List Cond := .code yX5_traps cX5_traps 2 (some .int) :: ((wsX5_traps_r1 ++ wsX5_traps_r2) ++ wsX50 ++ wsX10)
def wsX5_alike_r1 : List Cond := [Cond.fieldLink RX5 12 "CutOnce" "thePicture" "LCutOnce$Picture;", Cond.fieldLink RX5 30 "CutOnce" "theSearch" "LCutOnce$Search;", Cond.methodLink RX5 74 yX1_hasSide, Cond.instanceMethod yX1_hasSide, Cond.selects RX1 yX1_hasSide yX1_hasSide, Cond.initialized RX1, Cond.code yX1_hasSide cX1_hasSide 2 (some .boolean), Cond.methodLink RX1 32 yX1_sides, Cond.instanceMethod yX1_sides, Cond.selects RX1 yX1_sides yX1_sides, Cond.code yX1_sides cX1_sides 1 (some .int), Cond.fieldLink RX1 22 "CutOnce$Picture" "w" "I", Cond.fieldLink RX1 26 "CutOnce$Picture" "h" "I", Cond.methodLink RX5 55 yX3_forgetJoined, Cond.instanceMethod yX3_forgetJoined, Cond.selects RX3 yX3_forgetJoined yX3_forgetJoined, Cond.initialized RX3, Cond.code yX3_forgetJoined cX3_forgetJoined 1 none, Cond.fieldLink RX3 43 "CutOnce$Search" "joinedOnce" "Z", Cond.methodLink RX5 151 yX1_giveShape, Cond.instanceMethod yX1_giveShape, Cond.selects RX1 yX1_giveShape yX1_giveShape, Cond.code yX1_giveShape cX1_giveShape 6 (some .int), Cond.methodLink RX1 63 yX1_differing]
def wsX5_alike_r2 : List Cond := [Cond.instanceMethod yX1_differing, Cond.selects RX1 yX1_differing yX1_differing, Cond.code yX1_differing cX1_differing 6 (some .int), Cond.methodLink RX1 47 yX1_heightAt, Cond.instanceMethod yX1_heightAt, Cond.selects RX1 yX1_heightAt yX1_heightAt, Cond.code yX1_heightAt cX1_heightAt 5 (some .int), Cond.fieldLink RX1 9 "CutOnce$Picture" "heights" "[I", Cond.methodLink RX1 66 yX1_setHeight, Cond.instanceMethod yX1_setHeight, Cond.selects RX1 yX1_setHeight yX1_setHeight, Cond.code yX1_setHeight cX1_setHeight 5 none]
def wsX5_alike : List Cond := .code yX5_alike cX5_alike 4 (some .int) :: ((wsX5_alike_r1 ++ wsX5_alike_r2) ++ wsX50 ++ wsX10 ++ wsX30)
def wsX5_lay_r1 : List Cond := [Cond.fieldLink RX5 12 "CutOnce" "thePicture" "LCutOnce$Picture;", Cond.fieldLink RX5 21 "CutOnce" "thePile" "LCutOnce$Pile;", Cond.fieldLink RX5 30 "CutOnce" "theSearch" "LCutOnce$Search;", Cond.methodLink RX5 154 yX1_hasPiece, Cond.instanceMethod yX1_hasPiece, Cond.selects RX1 yX1_hasPiece yX1_hasPiece, Cond.initialized RX1, Cond.code yX1_hasPiece cX1_hasPiece 2 (some .boolean), Cond.methodLink RX1 36 yX1_pieces, Cond.instanceMethod yX1_pieces, Cond.selects RX1 yX1_pieces yX1_pieces, Cond.code yX1_pieces cX1_pieces 1 (some .int), Cond.fieldLink RX1 22 "CutOnce$Picture" "w" "I", Cond.fieldLink RX1 26 "CutOnce$Picture" "h" "I", Cond.methodLink RX5 157 yX2_isFull, Cond.instanceMethod yX2_isFull, Cond.selects RX2 yX2_isFull yX2_isFull, Cond.initialized RX2, Cond.code yX2_isFull cX2_isFull 1 (some .boolean), Cond.fieldLink RX2 18 "CutOnce$Pile" "count" "I", Cond.methodLink RX5 160 yX2_append, Cond.instanceMethod yX2_append, Cond.selects RX2 yX2_append yX2_append, Cond.code yX2_append cX2_append 3 none]
def wsX5_lay_r2 : List Cond := [Cond.fieldLink RX2 9 "CutOnce$Pile" "pieceOf" "[I", Cond.fieldLink RX2 15 "CutOnce$Pile" "turnOf" "[I", Cond.methodLink RX2 26 yX2_isFull, Cond.methodLink RX5 55 yX3_forgetJoined, Cond.instanceMethod yX3_forgetJoined, Cond.selects RX3 yX3_forgetJoined yX3_forgetJoined, Cond.initialized RX3, Cond.code yX3_forgetJoined cX3_forgetJoined 1 none, Cond.fieldLink RX3 43 "CutOnce$Search" "joinedOnce" "Z", Cond.methodLink RX5 163 yX2_size, Cond.instanceMethod yX2_size, Cond.selects RX2 yX2_size yX2_size, Cond.code yX2_size cX2_size 1 (some .int)]
def wsX5_lay : List Cond := .code yX5_lay cX5_lay 3 (some .int) :: ((wsX5_lay_r1 ++ wsX5_lay_r2) ++ wsX50 ++ wsX10 ++ wsX20 ++ wsX30)
def wsX5_heap_r1 : List Cond := [Cond.fieldLink RX5 21 "CutOnce" "thePile" "LCutOnce$Pile;", Cond.fieldLink RX5 12 "CutOnce" "thePicture" "LCutOnce$Picture;", Cond.fieldLink RX5 37 "CutOnce" "theDraw" "LCutOnce$Draw;", Cond.fieldLink RX5 30 "CutOnce" "theSearch" "LCutOnce$Search;", Cond.methodLink RX5 52 yX2_clearAll, Cond.instanceMethod yX2_clearAll, Cond.selects RX2 yX2_clearAll yX2_clearAll, Cond.initialized RX2, Cond.code yX2_clearAll cX2_clearAll 1 none, Cond.fieldLink RX2 18 "CutOnce$Pile" "count" "I", Cond.methodLink RX5 166 yX1_pieces, Cond.instanceMethod yX1_pieces, Cond.selects RX1 yX1_pieces yX1_pieces, Cond.initialized RX1, Cond.code yX1_pieces cX1_pieces 1 (some .int), Cond.fieldLink RX1 22 "CutOnce$Picture" "w" "I", Cond.fieldLink RX1 26 "CutOnce$Picture" "h" "I", Cond.methodLink RX5 160 yX2_append, Cond.instanceMethod yX2_append, Cond.selects RX2 yX2_append yX2_append, Cond.code yX2_append cX2_append 3 none, Cond.fieldLink RX2 9 "CutOnce$Pile" "pieceOf" "[I", Cond.fieldLink RX2 15 "CutOnce$Pile" "turnOf" "[I", Cond.methodLink RX2 26 yX2_isFull]
def wsX5_heap_r2 : List Cond := [Cond.instanceMethod yX2_isFull, Cond.selects RX2 yX2_isFull yX2_isFull, Cond.code yX2_isFull cX2_isFull 1 (some .boolean), Cond.methodLink RX5 62 yX0_begin, Cond.instanceMethod yX0_begin, Cond.selects RX0 yX0_begin yX0_begin, Cond.initialized RX0, Cond.code yX0_begin cX0_begin 3 none, Cond.fieldLink RX0 7 "CutOnce$Draw" "now" "J", Cond.methodLink RX5 163 yX2_size, Cond.instanceMethod yX2_size, Cond.selects RX2 yX2_size yX2_size, Cond.code yX2_size cX2_size 1 (some .int), Cond.methodLink RX5 66 yX0_below, Cond.instanceMethod yX0_below, Cond.selects RX0 yX0_below yX0_below, Cond.code yX0_below cX0_below 2 (some .int), Cond.constantLong RX0 13 (6364136223846793005), Cond.constantLong RX0 15 (1442695040888963407), Cond.constantLong RX0 17 (2147483647), Cond.constantLong RX0 19 (4096), Cond.methodLink RX5 169 yX2_swapPieces, Cond.instanceMethod yX2_swapPieces, Cond.selects RX2 yX2_swapPieces yX2_swapPieces]
def wsX5_heap_r3 : List Cond := [Cond.code yX2_swapPieces cX2_swapPieces 4 none, Cond.methodLink RX2 22 yX2_hasPlace, Cond.instanceMethod yX2_hasPlace, Cond.selects RX2 yX2_hasPlace yX2_hasPlace, Cond.code yX2_hasPlace cX2_hasPlace 2 (some .boolean), Cond.methodLink RX5 172 yX2_setTurn, Cond.instanceMethod yX2_setTurn, Cond.selects RX2 yX2_setTurn yX2_setTurn, Cond.code yX2_setTurn cX2_setTurn 3 none, Cond.methodLink RX5 55 yX3_forgetJoined, Cond.instanceMethod yX3_forgetJoined, Cond.selects RX3 yX3_forgetJoined yX3_forgetJoined, Cond.initialized RX3, Cond.code yX3_forgetJoined cX3_forgetJoined 1 none, Cond.fieldLink RX3 43 "CutOnce$Search" "joinedOnce" "Z"]
def wsX5_heap : List Cond := .code yX5_heap cX5_heap 4 (some .int) :: ((wsX5_heap_r1 ++ (wsX5_heap_r2 ++ wsX5_heap_r3)) ++ wsX50 ++ wsX20 ++ wsX10 ++ wsX00 ++ wsX30)
def wsX5_take_r1 : List Cond := [Cond.fieldLink RX5 21 "CutOnce" "thePile" "LCutOnce$Pile;", Cond.fieldLink RX5 30 "CutOnce" "theSearch" "LCutOnce$Search;", Cond.methodLink RX5 175 yX2_hasPlace, Cond.instanceMethod yX2_hasPlace, Cond.selects RX2 yX2_hasPlace yX2_hasPlace, Cond.initialized RX2, Cond.code yX2_hasPlace cX2_hasPlace 2 (some .boolean), Cond.fieldLink RX2 18 "CutOnce$Pile" "count" "I", Cond.methodLink RX5 178 yX2_pieceAt, Cond.instanceMethod yX2_pieceAt, Cond.selects RX2 yX2_pieceAt yX2_pieceAt, Cond.code yX2_pieceAt cX2_pieceAt 2 (some .int), Cond.fieldLink RX2 9 "CutOnce$Pile" "pieceOf" "[I", Cond.methodLink RX2 22 yX2_hasPlace, Cond.methodLink RX5 181 yX2_removeAt, Cond.instanceMethod yX2_removeAt, Cond.selects RX2 yX2_removeAt yX2_removeAt, Cond.code yX2_removeAt cX2_removeAt 3 none, Cond.fieldLink RX2 15 "CutOnce$Pile" "turnOf" "[I", Cond.methodLink RX5 55 yX3_forgetJoined, Cond.instanceMethod yX3_forgetJoined, Cond.selects RX3 yX3_forgetJoined yX3_forgetJoined, Cond.initialized RX3, Cond.code yX3_forgetJoined cX3_forgetJoined 1 none]
def wsX5_take_r2 : List Cond := [Cond.fieldLink RX3 43 "CutOnce$Search" "joinedOnce" "Z"]
def wsX5_take : List Cond := .code yX5_take cX5_take 3 (some .int) :: ((wsX5_take_r1 ++ wsX5_take_r2) ++ wsX50 ++ wsX20 ++ wsX30)
def wsX5_heaped : List Cond := .code yX5_heaped cX5_heaped 3 (some .int) :: ([.fieldLink RX5 21 "CutOnce" "thePile" "LCutOnce$Pile;", .methodLink RX5 175 yX2_hasPlace, .instanceMethod yX2_hasPlace, .selects RX2 yX2_hasPlace yX2_hasPlace, .initialized RX2, .code yX2_hasPlace cX2_hasPlace 2 (some .boolean), .fieldLink RX2 18 "CutOnce$Pile" "count" "I", .methodLink RX5 178 yX2_pieceAt, .instanceMethod yX2_pieceAt, .selects RX2 yX2_pieceAt yX2_pieceAt, .code yX2_pieceAt cX2_pieceAt 2 (some .int), .fieldLink RX2 9 "CutOnce$Pile" "pieceOf" "[I", .methodLink RX2 22 yX2_hasPlace, .methodLink RX5 185 yX2_turnAt, .instanceMethod yX2_turnAt, .selects RX2 yX2_turnAt yX2_turnAt, .code yX2_turnAt cX2_turnAt 2 (some .int), .fieldLink RX2 15 "CutOnce$Pile" "turnOf" "[I"] ++ wsX50 ++ wsX20)
def wsX5_isMissingWhat : List Cond := .code yX5_isMissingWhat cX5_isMissingWhat 1 (some .boolean) :: ([])
def wsX5_isMissing : List Cond := .code yX5_isMissing cX5_isMissing 4 (some .boolean) :: ([.fieldLink RX5 21 "CutOnce" "thePile" "LCutOnce$Pile;", .methodLink RX5 215 yX2_timesOf, .instanceMethod yX2_timesOf, .selects RX2 yX2_timesOf yX2_timesOf, .initialized RX2, .code yX2_timesOf cX2_timesOf 4 (some .int), .fieldLink RX2 18 "CutOnce$Pile" "count" "I", .fieldLink RX2 9 "CutOnce$Pile" "pieceOf" "[I"] ++ wsX50 ++ wsX20)
def wsX5_countMissing : List Cond := .code yX5_countMissing cX5_countMissing 4 (some .int) :: ([.fieldLink RX5 12 "CutOnce" "thePicture" "LCutOnce$Picture;", .methodLink RX5 166 yX1_pieces, .instanceMethod yX1_pieces, .selects RX1 yX1_pieces yX1_pieces, .initialized RX1, .code yX1_pieces cX1_pieces 1 (some .int), .fieldLink RX1 22 "CutOnce$Picture" "w" "I", .fieldLink RX1 26 "CutOnce$Picture" "h" "I", .methodLink RX5 258 yX5_isMissing, .instanceMethod yX5_isMissing, .selects RX5 yX5_isMissing yX5_isMissing, .initialized RX5, .code yX5_isMissing cX5_isMissing 4 (some .boolean), .fieldLink RX5 21 "CutOnce" "thePile" "LCutOnce$Pile;", .methodLink RX5 215 yX2_timesOf, .instanceMethod yX2_timesOf, .selects RX2 yX2_timesOf yX2_timesOf, .initialized RX2, .code yX2_timesOf cX2_timesOf 4 (some .int), .fieldLink RX2 18 "CutOnce$Pile" "count" "I", .fieldLink RX2 9 "CutOnce$Pile" "pieceOf" "[I"] ++ wsX50 ++ wsX10 ++ wsX20)
def wsX5_missing_r1 : List Cond := [Cond.methodLink RX5 188 yX5_isMissingWhat, Cond.static yX5_isMissingWhat, Cond.initialized RX5, Cond.code yX5_isMissingWhat cX5_isMissingWhat 1 (some .boolean), Cond.methodLink RX5 191 yX5_countMissing, Cond.instanceMethod yX5_countMissing, Cond.selects RX5 yX5_countMissing yX5_countMissing, Cond.code yX5_countMissing cX5_countMissing 4 (some .int), Cond.fieldLink RX5 12 "CutOnce" "thePicture" "LCutOnce$Picture;", Cond.methodLink RX5 166 yX1_pieces, Cond.instanceMethod yX1_pieces, Cond.selects RX1 yX1_pieces yX1_pieces, Cond.initialized RX1, Cond.code yX1_pieces cX1_pieces 1 (some .int), Cond.fieldLink RX1 22 "CutOnce$Picture" "w" "I", Cond.fieldLink RX1 26 "CutOnce$Picture" "h" "I", Cond.methodLink RX5 258 yX5_isMissing, Cond.instanceMethod yX5_isMissing, Cond.selects RX5 yX5_isMissing yX5_isMissing, Cond.code yX5_isMissing cX5_isMissing 4 (some .boolean), Cond.fieldLink RX5 21 "CutOnce" "thePile" "LCutOnce$Pile;", Cond.methodLink RX5 215 yX2_timesOf, Cond.instanceMethod yX2_timesOf, Cond.selects RX2 yX2_timesOf yX2_timesOf]
def wsX5_missing_r2 : List Cond := [Cond.initialized RX2, Cond.code yX2_timesOf cX2_timesOf 4 (some .int), Cond.fieldLink RX2 18 "CutOnce$Pile" "count" "I", Cond.fieldLink RX2 9 "CutOnce$Pile" "pieceOf" "[I"]
def wsX5_missing : List Cond := .code yX5_missing cX5_missing 2 (some .int) :: ((wsX5_missing_r1 ++ wsX5_missing_r2) ++ wsX50 ++ wsX10 ++ wsX20)
def wsX5_missingPiece : List Cond := .code yX5_missingPiece cX5_missingPiece 5 (some .int) :: ([.fieldLink RX5 12 "CutOnce" "thePicture" "LCutOnce$Picture;", .methodLink RX5 166 yX1_pieces, .instanceMethod yX1_pieces, .selects RX1 yX1_pieces yX1_pieces, .initialized RX1, .code yX1_pieces cX1_pieces 1 (some .int), .fieldLink RX1 22 "CutOnce$Picture" "w" "I", .fieldLink RX1 26 "CutOnce$Picture" "h" "I", .methodLink RX5 258 yX5_isMissing, .instanceMethod yX5_isMissing, .selects RX5 yX5_isMissing yX5_isMissing, .initialized RX5, .code yX5_isMissing cX5_isMissing 4 (some .boolean), .fieldLink RX5 21 "CutOnce" "thePile" "LCutOnce$Pile;", .methodLink RX5 215 yX2_timesOf, .instanceMethod yX2_timesOf, .selects RX2 yX2_timesOf yX2_timesOf, .initialized RX2, .code yX2_timesOf cX2_timesOf 4 (some .int), .fieldLink RX2 18 "CutOnce$Pile" "count" "I", .fieldLink RX2 9 "CutOnce$Pile" "pieceOf" "[I"] ++ wsX50 ++ wsX10 ++ wsX20)
def wsX5_missed_r1 : List Cond := [Cond.methodLink RX5 188 yX5_isMissingWhat, Cond.static yX5_isMissingWhat, Cond.initialized RX5, Cond.code yX5_isMissingWhat cX5_isMissingWhat 1 (some .boolean), Cond.methodLink RX5 194 yX5_missingPiece, Cond.instanceMethod yX5_missingPiece, Cond.selects RX5 yX5_missingPiece yX5_missingPiece, Cond.code yX5_missingPiece cX5_missingPiece 5 (some .int), Cond.fieldLink RX5 12 "CutOnce" "thePicture" "LCutOnce$Picture;", Cond.methodLink RX5 166 yX1_pieces, Cond.instanceMethod yX1_pieces, Cond.selects RX1 yX1_pieces yX1_pieces, Cond.initialized RX1, Cond.code yX1_pieces cX1_pieces 1 (some .int), Cond.fieldLink RX1 22 "CutOnce$Picture" "w" "I", Cond.fieldLink RX1 26 "CutOnce$Picture" "h" "I", Cond.methodLink RX5 258 yX5_isMissing, Cond.instanceMethod yX5_isMissing, Cond.selects RX5 yX5_isMissing yX5_isMissing, Cond.code yX5_isMissing cX5_isMissing 4 (some .boolean), Cond.fieldLink RX5 21 "CutOnce" "thePile" "LCutOnce$Pile;", Cond.methodLink RX5 215 yX2_timesOf, Cond.instanceMethod yX2_timesOf, Cond.selects RX2 yX2_timesOf yX2_timesOf]
def wsX5_missed_r2 : List Cond := [Cond.initialized RX2, Cond.code yX2_timesOf cX2_timesOf 4 (some .int), Cond.fieldLink RX2 18 "CutOnce$Pile" "count" "I", Cond.fieldLink RX2 9 "CutOnce$Pile" "pieceOf" "[I"]
def wsX5_missed : List Cond := .code yX5_missed cX5_missed 3 (some .int) :: ((wsX5_missed_r1 ++ wsX5_missed_r2) ++ wsX50 ++ wsX10 ++ wsX20)
def wsX5_ways_r1 : List Cond := [Cond.fieldLink RX5 30 "CutOnce" "theSearch" "LCutOnce$Search;", Cond.methodLink RX5 197 yX3_countWays, Cond.instanceMethod yX3_countWays, Cond.selects RX3 yX3_countWays yX3_countWays, Cond.initialized RX3, Cond.code yX3_countWays cX3_countWays 1 (some .int), Cond.fieldLink RX3 57 "CutOnce$Search" "spent" "Z", Cond.fieldLink RX3 60 "CutOnce$Search" "found" "I", Cond.methodLink RX3 53 yX3_run, Cond.instanceMethod yX3_run, Cond.selects RX3 yX3_run yX3_run, Cond.code yX3_run cX3_run 3 none, Cond.fieldLink RX3 35 "CutOnce$Search" "pile" "LCutOnce$Pile;", Cond.fieldLink RX3 21 "CutOnce$Search" "used" "[Z", Cond.fieldLink RX3 76 "CutOnce$Search" "firstOnly" "Z", Cond.fieldLink RX3 39 "CutOnce$Search" "trialCount" "I", Cond.methodLink RX3 67 yX2_size, Cond.instanceMethod yX2_size, Cond.selects RX2 yX2_size yX2_size, Cond.initialized RX2, Cond.code yX2_size cX2_size 1 (some .int), Cond.fieldLink RX2 18 "CutOnce$Pile" "count" "I", Cond.methodLink RX3 72 yX3_readEdges, Cond.instanceMethod yX3_readEdges]
def wsX5_ways_r2 : List Cond := [Cond.selects RX3 yX3_readEdges yX3_readEdges, Cond.code yX3_readEdges cX3_readEdges 9 none, Cond.fieldLink RX3 31 "CutOnce$Search" "goal" "LCutOnce$Picture;", Cond.fieldLink RX3 9 "CutOnce$Search" "shown" "[I", Cond.fieldLink RX3 15 "CutOnce$Search" "fitting" "[I", Cond.methodLink RX3 82 yX2_pieceAt, Cond.instanceMethod yX2_pieceAt, Cond.selects RX2 yX2_pieceAt yX2_pieceAt, Cond.code yX2_pieceAt cX2_pieceAt 2 (some .int), Cond.fieldLink RX2 9 "CutOnce$Pile" "pieceOf" "[I", Cond.methodLink RX2 22 yX2_hasPlace, Cond.instanceMethod yX2_hasPlace, Cond.selects RX2 yX2_hasPlace yX2_hasPlace, Cond.code yX2_hasPlace cX2_hasPlace 2 (some .boolean), Cond.methodLink RX3 86 yX1_isFlat, Cond.instanceMethod yX1_isFlat, Cond.selects RX1 yX1_isFlat yX1_isFlat, Cond.initialized RX1, Cond.code yX1_isFlat cX1_isFlat 3 (some .boolean), Cond.methodLink RX1 43 yX1_sideAt, Cond.instanceMethod yX1_sideAt, Cond.selects RX1 yX1_sideAt yX1_sideAt, Cond.code yX1_sideAt cX1_sideAt 4 (some .int), Cond.fieldLink RX1 15 "CutOnce$Picture" "sideOfEdge" "[I"]
def wsX5_ways_r3 : List Cond := [Cond.methodLink RX3 90 yX3_codeOf, Cond.instanceMethod yX3_codeOf, Cond.selects RX3 yX3_codeOf yX3_codeOf, Cond.code yX3_codeOf cX3_codeOf 5 (some .int), Cond.methodLink RX3 100 yX1_edgeHeight, Cond.instanceMethod yX1_edgeHeight, Cond.selects RX1 yX1_edgeHeight yX1_edgeHeight, Cond.code yX1_edgeHeight cX1_edgeHeight 5 (some .int), Cond.methodLink RX1 47 yX1_heightAt, Cond.instanceMethod yX1_heightAt, Cond.selects RX1 yX1_heightAt yX1_heightAt, Cond.code yX1_heightAt cX1_heightAt 5 (some .int), Cond.fieldLink RX1 9 "CutOnce$Picture" "heights" "[I", Cond.methodLink RX3 94 yX3_mateOf, Cond.instanceMethod yX3_mateOf, Cond.selects RX3 yX3_mateOf yX3_mateOf, Cond.code yX3_mateOf cX3_mateOf 5 (some .int), Cond.methodLink RX3 97 yX2_turnAt, Cond.instanceMethod yX2_turnAt, Cond.selects RX2 yX2_turnAt yX2_turnAt, Cond.code yX2_turnAt cX2_turnAt 2 (some .int), Cond.fieldLink RX2 15 "CutOnce$Pile" "turnOf" "[I", Cond.methodLink RX3 79 yX3_fillFrom, Cond.instanceMethod yX3_fillFrom]
def wsX5_ways_r4 : List Cond := [Cond.selects RX3 yX3_fillFrom yX3_fillFrom, Cond.code yX3_fillFrom cX3_fillFrom 4 none, Cond.constant RX3 107 (60000), Cond.fieldLink RX3 25 "CutOnce$Search" "lying" "[I", Cond.methodLink RX3 63 yX1_pieces, Cond.instanceMethod yX1_pieces, Cond.selects RX1 yX1_pieces yX1_pieces, Cond.code yX1_pieces cX1_pieces 1 (some .int), Cond.fieldLink RX1 22 "CutOnce$Picture" "w" "I", Cond.fieldLink RX1 26 "CutOnce$Picture" "h" "I", Cond.methodLink RX3 104 yX3_lookAround, Cond.instanceMethod yX3_lookAround, Cond.selects RX3 yX3_lookAround yX3_lookAround, Cond.code yX3_lookAround cX3_lookAround 5 none, Cond.fieldLink RX3 18 "CutOnce$Search" "wanted" "[I", Cond.methodLink RX3 111 yX1_nextTo, Cond.instanceMethod yX1_nextTo, Cond.selects RX1 yX1_nextTo yX1_nextTo, Cond.code yX1_nextTo cX1_nextTo 3 (some .int), Cond.methodLink RX3 108 yX3_fits, Cond.instanceMethod yX3_fits, Cond.selects RX3 yX3_fits yX3_fits, Cond.code yX3_fits cX3_fits 5 (some .boolean)]
def wsX5_ways : List Cond := .code yX5_ways cX5_ways 1 (some .int) :: ((wsX5_ways_r1 ++ (wsX5_ways_r2 ++ (wsX5_ways_r3 ++ wsX5_ways_r4))) ++ wsX50 ++ wsX30 ++ wsX20 ++ wsX10)
def wsX5_join_r1 : List Cond := [Cond.fieldLink RX5 30 "CutOnce" "theSearch" "LCutOnce$Search;", Cond.methodLink RX5 200 yX3_findFirst, Cond.instanceMethod yX3_findFirst, Cond.selects RX3 yX3_findFirst yX3_findFirst, Cond.initialized RX3, Cond.code yX3_findFirst cX3_findFirst 2 (some .int), Cond.fieldLink RX3 57 "CutOnce$Search" "spent" "Z", Cond.fieldLink RX3 60 "CutOnce$Search" "found" "I", Cond.fieldLink RX3 43 "CutOnce$Search" "joinedOnce" "Z", Cond.fieldLink RX3 31 "CutOnce$Search" "goal" "LCutOnce$Picture;", Cond.fieldLink RX3 28 "CutOnce$Search" "joinedLying" "[I", Cond.fieldLink RX3 25 "CutOnce$Search" "lying" "[I", Cond.methodLink RX3 53 yX3_run, Cond.instanceMethod yX3_run, Cond.selects RX3 yX3_run yX3_run, Cond.code yX3_run cX3_run 3 none, Cond.fieldLink RX3 35 "CutOnce$Search" "pile" "LCutOnce$Pile;", Cond.fieldLink RX3 21 "CutOnce$Search" "used" "[Z", Cond.fieldLink RX3 76 "CutOnce$Search" "firstOnly" "Z", Cond.fieldLink RX3 39 "CutOnce$Search" "trialCount" "I", Cond.methodLink RX3 67 yX2_size, Cond.instanceMethod yX2_size, Cond.selects RX2 yX2_size yX2_size, Cond.initialized RX2]
def wsX5_join_r2 : List Cond := [Cond.code yX2_size cX2_size 1 (some .int), Cond.fieldLink RX2 18 "CutOnce$Pile" "count" "I", Cond.methodLink RX3 72 yX3_readEdges, Cond.instanceMethod yX3_readEdges, Cond.selects RX3 yX3_readEdges yX3_readEdges, Cond.code yX3_readEdges cX3_readEdges 9 none, Cond.fieldLink RX3 9 "CutOnce$Search" "shown" "[I", Cond.fieldLink RX3 15 "CutOnce$Search" "fitting" "[I", Cond.methodLink RX3 82 yX2_pieceAt, Cond.instanceMethod yX2_pieceAt, Cond.selects RX2 yX2_pieceAt yX2_pieceAt, Cond.code yX2_pieceAt cX2_pieceAt 2 (some .int), Cond.fieldLink RX2 9 "CutOnce$Pile" "pieceOf" "[I", Cond.methodLink RX2 22 yX2_hasPlace, Cond.instanceMethod yX2_hasPlace, Cond.selects RX2 yX2_hasPlace yX2_hasPlace, Cond.code yX2_hasPlace cX2_hasPlace 2 (some .boolean), Cond.methodLink RX3 86 yX1_isFlat, Cond.instanceMethod yX1_isFlat, Cond.selects RX1 yX1_isFlat yX1_isFlat, Cond.initialized RX1, Cond.code yX1_isFlat cX1_isFlat 3 (some .boolean), Cond.methodLink RX1 43 yX1_sideAt, Cond.instanceMethod yX1_sideAt]
def wsX5_join_r3 : List Cond := [Cond.selects RX1 yX1_sideAt yX1_sideAt, Cond.code yX1_sideAt cX1_sideAt 4 (some .int), Cond.fieldLink RX1 15 "CutOnce$Picture" "sideOfEdge" "[I", Cond.methodLink RX3 90 yX3_codeOf, Cond.instanceMethod yX3_codeOf, Cond.selects RX3 yX3_codeOf yX3_codeOf, Cond.code yX3_codeOf cX3_codeOf 5 (some .int), Cond.methodLink RX3 100 yX1_edgeHeight, Cond.instanceMethod yX1_edgeHeight, Cond.selects RX1 yX1_edgeHeight yX1_edgeHeight, Cond.code yX1_edgeHeight cX1_edgeHeight 5 (some .int), Cond.methodLink RX1 47 yX1_heightAt, Cond.instanceMethod yX1_heightAt, Cond.selects RX1 yX1_heightAt yX1_heightAt, Cond.code yX1_heightAt cX1_heightAt 5 (some .int), Cond.fieldLink RX1 9 "CutOnce$Picture" "heights" "[I", Cond.methodLink RX3 94 yX3_mateOf, Cond.instanceMethod yX3_mateOf, Cond.selects RX3 yX3_mateOf yX3_mateOf, Cond.code yX3_mateOf cX3_mateOf 5 (some .int), Cond.methodLink RX3 97 yX2_turnAt, Cond.instanceMethod yX2_turnAt, Cond.selects RX2 yX2_turnAt yX2_turnAt, Cond.code yX2_turnAt cX2_turnAt 2 (some .int)]
def wsX5_join_r4 : List Cond := [Cond.fieldLink RX2 15 "CutOnce$Pile" "turnOf" "[I", Cond.methodLink RX3 79 yX3_fillFrom, Cond.instanceMethod yX3_fillFrom, Cond.selects RX3 yX3_fillFrom yX3_fillFrom, Cond.code yX3_fillFrom cX3_fillFrom 4 none, Cond.constant RX3 107 (60000), Cond.methodLink RX3 63 yX1_pieces, Cond.instanceMethod yX1_pieces, Cond.selects RX1 yX1_pieces yX1_pieces, Cond.code yX1_pieces cX1_pieces 1 (some .int), Cond.fieldLink RX1 22 "CutOnce$Picture" "w" "I", Cond.fieldLink RX1 26 "CutOnce$Picture" "h" "I", Cond.methodLink RX3 104 yX3_lookAround, Cond.instanceMethod yX3_lookAround, Cond.selects RX3 yX3_lookAround yX3_lookAround, Cond.code yX3_lookAround cX3_lookAround 5 none, Cond.fieldLink RX3 18 "CutOnce$Search" "wanted" "[I", Cond.methodLink RX3 111 yX1_nextTo, Cond.instanceMethod yX1_nextTo, Cond.selects RX1 yX1_nextTo yX1_nextTo, Cond.code yX1_nextTo cX1_nextTo 3 (some .int), Cond.methodLink RX3 108 yX3_fits, Cond.instanceMethod yX3_fits, Cond.selects RX3 yX3_fits yX3_fits]
def wsX5_join_r5 : List Cond := [Cond.code yX3_fits cX3_fits 5 (some .boolean)]
def wsX5_join : List Cond := .code yX5_join cX5_join 1 (some .int) :: ((wsX5_join_r1 ++ (wsX5_join_r2 ++ (wsX5_join_r3 ++ (wsX5_join_r4 ++ wsX5_join_r5)))) ++ wsX50 ++ wsX30 ++ wsX20 ++ wsX10)
def wsX5_joined_r1 : List Cond := [Cond.fieldLink RX5 30 "CutOnce" "theSearch" "LCutOnce$Search;", Cond.fieldLink RX5 12 "CutOnce" "thePicture" "LCutOnce$Picture;", Cond.methodLink RX5 203 yX3_hasJoined, Cond.instanceMethod yX3_hasJoined, Cond.selects RX3 yX3_hasJoined yX3_hasJoined, Cond.initialized RX3, Cond.code yX3_hasJoined cX3_hasJoined 1 (some .boolean), Cond.fieldLink RX3 43 "CutOnce$Search" "joinedOnce" "Z", Cond.methodLink RX5 154 yX1_hasPiece, Cond.instanceMethod yX1_hasPiece, Cond.selects RX1 yX1_hasPiece yX1_hasPiece, Cond.initialized RX1, Cond.code yX1_hasPiece cX1_hasPiece 2 (some .boolean), Cond.methodLink RX1 36 yX1_pieces, Cond.instanceMethod yX1_pieces, Cond.selects RX1 yX1_pieces yX1_pieces, Cond.code yX1_pieces cX1_pieces 1 (some .int), Cond.fieldLink RX1 22 "CutOnce$Picture" "w" "I", Cond.fieldLink RX1 26 "CutOnce$Picture" "h" "I", Cond.methodLink RX5 206 yX3_joinedFrom, Cond.instanceMethod yX3_joinedFrom, Cond.selects RX3 yX3_joinedFrom yX3_joinedFrom, Cond.code yX3_joinedFrom cX3_joinedFrom 2 (some .int), Cond.fieldLink RX3 31 "CutOnce$Search" "goal" "LCutOnce$Picture;"]
def wsX5_joined_r2 : List Cond := [Cond.fieldLink RX3 28 "CutOnce$Search" "joinedLying" "[I", Cond.methodLink RX3 47 yX1_hasPiece, Cond.methodLink RX5 209 yX3_joinedTurn, Cond.instanceMethod yX3_joinedTurn, Cond.selects RX3 yX3_joinedTurn yX3_joinedTurn, Cond.code yX3_joinedTurn cX3_joinedTurn 2 (some .int)]
def wsX5_joined : List Cond := .code yX5_joined cX5_joined 3 (some .int) :: ((wsX5_joined_r1 ++ wsX5_joined_r2) ++ wsX50 ++ wsX30 ++ wsX10)
def wsX5_trials : List Cond := .code yX5_trials cX5_trials 1 (some .int) :: ([.fieldLink RX5 30 "CutOnce" "theSearch" "LCutOnce$Search;", .methodLink RX5 212 yX3_trialsCounted, .instanceMethod yX3_trialsCounted, .selects RX3 yX3_trialsCounted yX3_trialsCounted, .initialized RX3, .code yX3_trialsCounted cX3_trialsCounted 1 (some .int), .fieldLink RX3 39 "CutOnce$Search" "trialCount" "I"] ++ wsX50 ++ wsX30)
def wsX5_known_r1 : List Cond := [Cond.fieldLink RX5 12 "CutOnce" "thePicture" "LCutOnce$Picture;", Cond.fieldLink RX5 21 "CutOnce" "thePile" "LCutOnce$Pile;", Cond.methodLink RX5 154 yX1_hasPiece, Cond.instanceMethod yX1_hasPiece, Cond.selects RX1 yX1_hasPiece yX1_hasPiece, Cond.initialized RX1, Cond.code yX1_hasPiece cX1_hasPiece 2 (some .boolean), Cond.methodLink RX1 36 yX1_pieces, Cond.instanceMethod yX1_pieces, Cond.selects RX1 yX1_pieces yX1_pieces, Cond.code yX1_pieces cX1_pieces 1 (some .int), Cond.fieldLink RX1 22 "CutOnce$Picture" "w" "I", Cond.fieldLink RX1 26 "CutOnce$Picture" "h" "I", Cond.methodLink RX5 215 yX2_timesOf, Cond.instanceMethod yX2_timesOf, Cond.selects RX2 yX2_timesOf yX2_timesOf, Cond.initialized RX2, Cond.code yX2_timesOf cX2_timesOf 4 (some .int), Cond.fieldLink RX2 18 "CutOnce$Pile" "count" "I", Cond.fieldLink RX2 9 "CutOnce$Pile" "pieceOf" "[I", Cond.methodLink RX5 132 yX1_isFlat, Cond.instanceMethod yX1_isFlat, Cond.selects RX1 yX1_isFlat yX1_isFlat, Cond.code yX1_isFlat cX1_isFlat 3 (some .boolean)]
def wsX5_known_r2 : List Cond := [Cond.methodLink RX1 43 yX1_sideAt, Cond.instanceMethod yX1_sideAt, Cond.selects RX1 yX1_sideAt yX1_sideAt, Cond.code yX1_sideAt cX1_sideAt 4 (some .int), Cond.fieldLink RX1 15 "CutOnce$Picture" "sideOfEdge" "[I", Cond.methodLink RX5 218 yX1_nextTo, Cond.instanceMethod yX1_nextTo, Cond.selects RX1 yX1_nextTo yX1_nextTo, Cond.code yX1_nextTo cX1_nextTo 3 (some .int)]
def wsX5_known : List Cond := .code yX5_known cX5_known 4 (some .int) :: ((wsX5_known_r1 ++ wsX5_known_r2) ++ wsX50 ++ wsX10 ++ wsX20)
def wsX5_sheet_r1 : List Cond := [Cond.fieldLink RX5 90 "CutOnce" "latestFault" "I", Cond.fieldLink RX5 43 "CutOnce" "sheets" "[LCutOnce$Sheet;", Cond.methodLink RX5 94 yX5_isSheet, Cond.static yX5_isSheet, Cond.initialized RX5, Cond.code yX5_isSheet cX5_isSheet 1 (some .boolean), Cond.methodLink RX5 97 yX5_isLane, Cond.static yX5_isLane, Cond.code yX5_isLane cX5_isLane 1 (some .boolean), Cond.methodLink RX5 103 yX5_come, Cond.instanceMethod yX5_come, Cond.selects RX5 yX5_come yX5_come, Cond.code yX5_come cX5_come 2 (some .int), Cond.methodLink RX5 221 yX4_renew, Cond.instanceMethod yX4_renew, Cond.selects RX4 yX4_renew yX4_renew, Cond.initialized RX4, Cond.code yX4_renew cX4_renew 4 none, Cond.fieldLink RX4 15 "CutOnce$Sheet" "there" "Z", Cond.fieldLink RX4 19 "CutOnce$Sheet" "lane" "I", Cond.methodLink RX4 23 Lib.Math.max.name, Cond.static Lib.Math.max.name, Cond.initialized "java/lang/Math", Cond.code Lib.Math.max.name Lib.Math.max.code 2 (some .int)]
def wsX5_sheet_r2 : List Cond := [Cond.methodLink RX4 29 Lib.Math.min.name, Cond.static Lib.Math.min.name, Cond.code Lib.Math.min.name Lib.Math.min.code 2 (some .int), Cond.fieldLink RX4 32 "CutOnce$Sheet" "length" "I", Cond.fieldLink RX4 9 "CutOnce$Sheet" "cells" "[I"]
def wsX5_sheet : List Cond := .code yX5_sheet cX5_sheet 4 (some .int) :: ((wsX5_sheet_r1 ++ wsX5_sheet_r2) ++ wsX50 ++ wsX40)
def wsX5_lose : List Cond := .code yX5_lose cX5_lose 3 (some .int) :: ([.fieldLink RX5 43 "CutOnce" "sheets" "[LCutOnce$Sheet;", .methodLink RX5 94 yX5_isSheet, .static yX5_isSheet, .initialized RX5, .code yX5_isSheet cX5_isSheet 1 (some .boolean), .methodLink RX5 106 yX4_isThere, .instanceMethod yX4_isThere, .selects RX4 yX4_isThere yX4_isThere, .initialized RX4, .code yX4_isThere cX4_isThere 1 (some .boolean), .fieldLink RX4 15 "CutOnce$Sheet" "there" "Z", .methodLink RX5 224 yX4_drop, .instanceMethod yX4_drop, .selects RX4 yX4_drop yX4_drop, .code yX4_drop cX4_drop 1 none, .fieldLink RX4 32 "CutOnce$Sheet" "length" "I"] ++ wsX50 ++ wsX40)
def wsX5_put_r1 : List Cond := [Cond.fieldLink RX5 90 "CutOnce" "latestFault" "I", Cond.fieldLink RX5 43 "CutOnce" "sheets" "[LCutOnce$Sheet;", Cond.methodLink RX5 94 yX5_isSheet, Cond.static yX5_isSheet, Cond.initialized RX5, Cond.code yX5_isSheet cX5_isSheet 1 (some .boolean), Cond.methodLink RX5 106 yX4_isThere, Cond.instanceMethod yX4_isThere, Cond.selects RX4 yX4_isThere yX4_isThere, Cond.initialized RX4, Cond.code yX4_isThere cX4_isThere 1 (some .boolean), Cond.fieldLink RX4 15 "CutOnce$Sheet" "there" "Z", Cond.methodLink RX5 103 yX5_come, Cond.instanceMethod yX5_come, Cond.selects RX5 yX5_come yX5_come, Cond.code yX5_come cX5_come 2 (some .int), Cond.methodLink RX5 112 yX4_holds, Cond.instanceMethod yX4_holds, Cond.selects RX4 yX4_holds yX4_holds, Cond.code yX4_holds cX4_holds 4 (some .boolean), Cond.fieldLink RX4 32 "CutOnce$Sheet" "length" "I", Cond.methodLink RX5 227 yX4_write, Cond.instanceMethod yX4_write, Cond.selects RX4 yX4_write yX4_write]
def wsX5_put_r2 : List Cond := [Cond.code yX4_write cX4_write 3 none, Cond.fieldLink RX4 9 "CutOnce$Sheet" "cells" "[I", Cond.methodLink RX4 35 yX4_holds, Cond.methodLink RX4 39 yX4_cutToLane, Cond.instanceMethod yX4_cutToLane, Cond.selects RX4 yX4_cutToLane yX4_cutToLane, Cond.code yX4_cutToLane cX4_cutToLane 2 (some .int), Cond.fieldLink RX4 19 "CutOnce$Sheet" "lane" "I"]
def wsX5_put : List Cond := .code yX5_put cX5_put 4 (some .int) :: ((wsX5_put_r1 ++ wsX5_put_r2) ++ wsX50 ++ wsX40)
def wsX5_comeLost : List Cond := .code yX5_comeLost cX5_comeLost 2 (some .long) :: ([.fieldLink RX5 90 "CutOnce" "latestFault" "I", .constantLong RX5 84 (-9223372036854775808)] ++ wsX50)
def wsX5_cell_r1 : List Cond := [Cond.fieldLink RX5 90 "CutOnce" "latestFault" "I", Cond.constantLong RX5 84 (-9223372036854775808), Cond.fieldLink RX5 43 "CutOnce" "sheets" "[LCutOnce$Sheet;", Cond.methodLink RX5 94 yX5_isSheet, Cond.static yX5_isSheet, Cond.initialized RX5, Cond.code yX5_isSheet cX5_isSheet 1 (some .boolean), Cond.methodLink RX5 97 yX5_isLane, Cond.static yX5_isLane, Cond.code yX5_isLane cX5_isLane 1 (some .boolean), Cond.methodLink RX5 100 yX4_isOfOther, Cond.instanceMethod yX4_isOfOther, Cond.selects RX4 yX4_isOfOther yX4_isOfOther, Cond.initialized RX4, Cond.code yX4_isOfOther cX4_isOfOther 2 (some .boolean), Cond.fieldLink RX4 15 "CutOnce$Sheet" "there" "Z", Cond.fieldLink RX4 19 "CutOnce$Sheet" "lane" "I", Cond.methodLink RX5 230 yX5_comeLost, Cond.instanceMethod yX5_comeLost, Cond.selects RX5 yX5_comeLost yX5_comeLost, Cond.code yX5_comeLost cX5_comeLost 2 (some .long), Cond.methodLink RX5 106 yX4_isThere, Cond.instanceMethod yX4_isThere, Cond.selects RX4 yX4_isThere yX4_isThere]
def wsX5_cell_r2 : List Cond := [Cond.code yX4_isThere cX4_isThere 1 (some .boolean), Cond.methodLink RX5 112 yX4_holds, Cond.instanceMethod yX4_holds, Cond.selects RX4 yX4_holds yX4_holds, Cond.code yX4_holds cX4_holds 4 (some .boolean), Cond.fieldLink RX4 32 "CutOnce$Sheet" "length" "I", Cond.methodLink RX5 234 yX4_read, Cond.instanceMethod yX4_read, Cond.selects RX4 yX4_read yX4_read, Cond.code yX4_read cX4_read 2 (some .int), Cond.fieldLink RX4 9 "CutOnce$Sheet" "cells" "[I", Cond.methodLink RX4 35 yX4_holds]
def wsX5_cell : List Cond := .code yX5_cell cX5_cell 4 (some .long) :: ((wsX5_cell_r1 ++ wsX5_cell_r2) ++ wsX50 ++ wsX40)
def wsX5_copy_r1 : List Cond := [Cond.fieldLink RX5 90 "CutOnce" "latestFault" "I", Cond.fieldLink RX5 43 "CutOnce" "sheets" "[LCutOnce$Sheet;", Cond.methodLink RX5 94 yX5_isSheet, Cond.static yX5_isSheet, Cond.initialized RX5, Cond.code yX5_isSheet cX5_isSheet 1 (some .boolean), Cond.methodLink RX5 106 yX4_isThere, Cond.instanceMethod yX4_isThere, Cond.selects RX4 yX4_isThere yX4_isThere, Cond.initialized RX4, Cond.code yX4_isThere cX4_isThere 1 (some .boolean), Cond.fieldLink RX4 15 "CutOnce$Sheet" "there" "Z", Cond.methodLink RX5 103 yX5_come, Cond.instanceMethod yX5_come, Cond.selects RX5 yX5_come yX5_come, Cond.code yX5_come cX5_come 2 (some .int), Cond.methodLink RX5 237 yX4_laneHeld, Cond.instanceMethod yX4_laneHeld, Cond.selects RX4 yX4_laneHeld yX4_laneHeld, Cond.code yX4_laneHeld cX4_laneHeld 1 (some .int), Cond.fieldLink RX4 19 "CutOnce$Sheet" "lane" "I", Cond.methodLink RX5 100 yX4_isOfOther, Cond.instanceMethod yX4_isOfOther, Cond.selects RX4 yX4_isOfOther yX4_isOfOther]
def wsX5_copy_r2 : List Cond := [Cond.code yX4_isOfOther cX4_isOfOther 2 (some .boolean), Cond.methodLink RX5 112 yX4_holds, Cond.instanceMethod yX4_holds, Cond.selects RX4 yX4_holds yX4_holds, Cond.code yX4_holds cX4_holds 4 (some .boolean), Cond.fieldLink RX4 32 "CutOnce$Sheet" "length" "I", Cond.methodLink RX5 240 yX4_writeFrom, Cond.instanceMethod yX4_writeFrom, Cond.selects RX4 yX4_writeFrom yX4_writeFrom, Cond.code yX4_writeFrom cX4_writeFrom 5 none, Cond.fieldLink RX4 9 "CutOnce$Sheet" "cells" "[I", Cond.methodLink RX4 43 arraycopyName, Cond.native arraycopyName, Cond.static arraycopyName, Cond.initialized "java/lang/System", Cond.methodLink RX4 35 yX4_holds]
def wsX5_copy : List Cond := .code yX5_copy cX5_copy 8 (some .int) :: ((wsX5_copy_r1 ++ wsX5_copy_r2) ++ wsX50 ++ wsX40)
def wsX5_leave : List Cond := .code yX5_leave cX5_leave 2 none :: ([.fieldLink RX5 249 "CutOnce" "traceLeft" "I"] ++ wsX50)
def wsX5_sumBody : List Cond := .code yX5_sumBody cX5_sumBody 2 (some .int) :: ([.fieldLink RX5 12 "CutOnce" "thePicture" "LCutOnce$Picture;", .methodLink RX5 243 yX5_leave, .instanceMethod yX5_leave, .selects RX5 yX5_leave yX5_leave, .initialized RX5, .code yX5_leave cX5_leave 2 none, .fieldLink RX5 249 "CutOnce" "traceLeft" "I", .methodLink RX5 261 yX1_sumOf, .instanceMethod yX1_sumOf, .selects RX1 yX1_sumOf yX1_sumOf, .initialized RX1, .code yX1_sumOf cX1_sumOf 4 (some .int), .methodLink RX1 47 yX1_heightAt, .instanceMethod yX1_heightAt, .selects RX1 yX1_heightAt yX1_heightAt, .code yX1_heightAt cX1_heightAt 5 (some .int), .fieldLink RX1 9 "CutOnce$Picture" "heights" "[I"] ++ wsX50 ++ wsX10)
def wsX5_tell_r1 : List Cond := [Cond.fieldLink RX5 12 "CutOnce" "thePicture" "LCutOnce$Picture;", Cond.methodLink RX5 74 yX1_hasSide, Cond.instanceMethod yX1_hasSide, Cond.selects RX1 yX1_hasSide yX1_hasSide, Cond.initialized RX1, Cond.code yX1_hasSide cX1_hasSide 2 (some .boolean), Cond.methodLink RX1 32 yX1_sides, Cond.instanceMethod yX1_sides, Cond.selects RX1 yX1_sides yX1_sides, Cond.code yX1_sides cX1_sides 1 (some .int), Cond.fieldLink RX1 22 "CutOnce$Picture" "w" "I", Cond.fieldLink RX1 26 "CutOnce$Picture" "h" "I", Cond.methodLink RX5 142 yX1_kindAt, Cond.instanceMethod yX1_kindAt, Cond.selects RX1 yX1_kindAt yX1_kindAt, Cond.code yX1_kindAt cX1_kindAt 3 (some .int), Cond.methodLink RX1 60 yX1_bulges, Cond.instanceMethod yX1_bulges, Cond.selects RX1 yX1_bulges yX1_bulges, Cond.code yX1_bulges cX1_bulges 6 (some .boolean), Cond.methodLink RX1 47 yX1_heightAt, Cond.instanceMethod yX1_heightAt, Cond.selects RX1 yX1_heightAt yX1_heightAt, Cond.code yX1_heightAt cX1_heightAt 5 (some .int)]
def wsX5_tell_r2 : List Cond := [Cond.fieldLink RX1 9 "CutOnce$Picture" "heights" "[I", Cond.methodLink RX1 63 yX1_differing, Cond.instanceMethod yX1_differing, Cond.selects RX1 yX1_differing yX1_differing, Cond.code yX1_differing cX1_differing 6 (some .int), Cond.methodLink RX5 243 yX5_leave, Cond.instanceMethod yX5_leave, Cond.selects RX5 yX5_leave yX5_leave, Cond.initialized RX5, Cond.code yX5_leave cX5_leave 2 none, Cond.fieldLink RX5 249 "CutOnce" "traceLeft" "I", Cond.methodLink RX5 246 yX5_sumBody, Cond.instanceMethod yX5_sumBody, Cond.selects RX5 yX5_sumBody yX5_sumBody, Cond.code yX5_sumBody cX5_sumBody 2 (some .int), Cond.methodLink RX5 261 yX1_sumOf, Cond.instanceMethod yX1_sumOf, Cond.selects RX1 yX1_sumOf yX1_sumOf, Cond.code yX1_sumOf cX1_sumOf 4 (some .int)]
def wsX5_tell : List Cond := .code yX5_tell cX5_tell 2 (some .int) :: ((wsX5_tell_r1 ++ wsX5_tell_r2) ++ wsX50 ++ wsX10)
def wsX5_mark_r1 : List Cond := [Cond.fieldLink RX5 12 "CutOnce" "thePicture" "LCutOnce$Picture;", Cond.methodLink RX5 74 yX1_hasSide, Cond.instanceMethod yX1_hasSide, Cond.selects RX1 yX1_hasSide yX1_hasSide, Cond.initialized RX1, Cond.code yX1_hasSide cX1_hasSide 2 (some .boolean), Cond.methodLink RX1 32 yX1_sides, Cond.instanceMethod yX1_sides, Cond.selects RX1 yX1_sides yX1_sides, Cond.code yX1_sides cX1_sides 1 (some .int), Cond.fieldLink RX1 22 "CutOnce$Picture" "w" "I", Cond.fieldLink RX1 26 "CutOnce$Picture" "h" "I", Cond.methodLink RX5 142 yX1_kindAt, Cond.instanceMethod yX1_kindAt, Cond.selects RX1 yX1_kindAt yX1_kindAt, Cond.code yX1_kindAt cX1_kindAt 3 (some .int), Cond.methodLink RX1 60 yX1_bulges, Cond.instanceMethod yX1_bulges, Cond.selects RX1 yX1_bulges yX1_bulges, Cond.code yX1_bulges cX1_bulges 6 (some .boolean), Cond.methodLink RX1 47 yX1_heightAt, Cond.instanceMethod yX1_heightAt, Cond.selects RX1 yX1_heightAt yX1_heightAt, Cond.code yX1_heightAt cX1_heightAt 5 (some .int)]
def wsX5_mark_r2 : List Cond := [Cond.fieldLink RX1 9 "CutOnce$Picture" "heights" "[I", Cond.methodLink RX1 63 yX1_differing, Cond.instanceMethod yX1_differing, Cond.selects RX1 yX1_differing yX1_differing, Cond.code yX1_differing cX1_differing 6 (some .int), Cond.methodLink RX5 243 yX5_leave, Cond.instanceMethod yX5_leave, Cond.selects RX5 yX5_leave yX5_leave, Cond.initialized RX5, Cond.code yX5_leave cX5_leave 2 none, Cond.fieldLink RX5 249 "CutOnce" "traceLeft" "I"]
def wsX5_mark : List Cond := .code yX5_mark cX5_mark 2 (some .int) :: ((wsX5_mark_r1 ++ wsX5_mark_r2) ++ wsX50 ++ wsX10)
def wsX5_as_r1 : List Cond := [Cond.fieldLink RX5 90 "CutOnce" "latestFault" "I", Cond.fieldLink RX5 12 "CutOnce" "thePicture" "LCutOnce$Picture;", Cond.methodLink RX5 74 yX1_hasSide, Cond.instanceMethod yX1_hasSide, Cond.selects RX1 yX1_hasSide yX1_hasSide, Cond.initialized RX1, Cond.code yX1_hasSide cX1_hasSide 2 (some .boolean), Cond.methodLink RX1 32 yX1_sides, Cond.instanceMethod yX1_sides, Cond.selects RX1 yX1_sides yX1_sides, Cond.code yX1_sides cX1_sides 1 (some .int), Cond.fieldLink RX1 22 "CutOnce$Picture" "w" "I", Cond.fieldLink RX1 26 "CutOnce$Picture" "h" "I", Cond.methodLink RX5 142 yX1_kindAt, Cond.instanceMethod yX1_kindAt, Cond.selects RX1 yX1_kindAt yX1_kindAt, Cond.code yX1_kindAt cX1_kindAt 3 (some .int), Cond.methodLink RX1 60 yX1_bulges, Cond.instanceMethod yX1_bulges, Cond.selects RX1 yX1_bulges yX1_bulges, Cond.code yX1_bulges cX1_bulges 6 (some .boolean), Cond.methodLink RX1 47 yX1_heightAt, Cond.instanceMethod yX1_heightAt, Cond.selects RX1 yX1_heightAt yX1_heightAt]
def wsX5_as_r2 : List Cond := [Cond.code yX1_heightAt cX1_heightAt 5 (some .int), Cond.fieldLink RX1 9 "CutOnce$Picture" "heights" "[I", Cond.methodLink RX1 63 yX1_differing, Cond.instanceMethod yX1_differing, Cond.selects RX1 yX1_differing yX1_differing, Cond.code yX1_differing cX1_differing 6 (some .int), Cond.methodLink RX5 103 yX5_come, Cond.instanceMethod yX5_come, Cond.selects RX5 yX5_come yX5_come, Cond.initialized RX5, Cond.code yX5_come cX5_come 2 (some .int)]
def wsX5_as : List Cond := .code yX5_as cX5_as 3 (some .int) :: ((wsX5_as_r1 ++ wsX5_as_r2) ++ wsX50 ++ wsX10)
def wsX5_trace : List Cond := .code yX5_trace cX5_trace 1 (some .int) :: ([.fieldLink RX5 249 "CutOnce" "traceLeft" "I"] ++ wsX50)
def wsX5_fault : List Cond := .code yX5_fault cX5_fault 1 (some .int) :: ([.fieldLink RX5 90 "CutOnce" "latestFault" "I"] ++ wsX50)
def wsX5_told_r1 : List Cond := [Cond.fieldLink RX5 12 "CutOnce" "thePicture" "LCutOnce$Picture;", Cond.fieldLink RX5 21 "CutOnce" "thePile" "LCutOnce$Pile;", Cond.methodLink RX5 252 yX1_width, Cond.instanceMethod yX1_width, Cond.selects RX1 yX1_width yX1_width, Cond.initialized RX1, Cond.code yX1_width cX1_width 1 (some .int), Cond.fieldLink RX1 22 "CutOnce$Picture" "w" "I", Cond.methodLink RX5 255 yX1_depth, Cond.instanceMethod yX1_depth, Cond.selects RX1 yX1_depth yX1_depth, Cond.code yX1_depth cX1_depth 1 (some .int), Cond.fieldLink RX1 26 "CutOnce$Picture" "h" "I", Cond.methodLink RX5 166 yX1_pieces, Cond.instanceMethod yX1_pieces, Cond.selects RX1 yX1_pieces yX1_pieces, Cond.code yX1_pieces cX1_pieces 1 (some .int), Cond.methodLink RX5 58 yX1_sides, Cond.instanceMethod yX1_sides, Cond.selects RX1 yX1_sides yX1_sides, Cond.code yX1_sides cX1_sides 1 (some .int), Cond.methodLink RX5 163 yX2_size, Cond.instanceMethod yX2_size, Cond.selects RX2 yX2_size yX2_size]
def wsX5_told_r2 : List Cond := [Cond.initialized RX2, Cond.code yX2_size cX2_size 1 (some .int), Cond.fieldLink RX2 18 "CutOnce$Pile" "count" "I"]
def wsX5_told : List Cond := .code yX5_told cX5_told 2 (some .int) :: ((wsX5_told_r1 ++ wsX5_told_r2) ++ wsX50 ++ wsX10 ++ wsX20)
def wsX6_init : List Cond := .code yX6_init cX6_init 2 none :: ([.methodLink RX6 1 objectInit, .instanceMethod objectInit, .code objectInit ⟨#[0xb1]⟩ 1 none, .arrayClass .int, .fieldLink RX6 7 "CutOnceModel" "heights" "[I", .fieldLink RX6 13 "CutOnceModel" "piece" "[I", .fieldLink RX6 16 "CutOnceModel" "turn" "[I", .fieldLink RX6 19 "CutOnceModel" "at" "[I", .fieldLink RX6 22 "CutOnceModel" "further" "[I", .arrayClass .boolean, .fieldLink RX6 25 "CutOnceModel" "isUsed" "[Z", .fieldLink RX6 29 "CutOnceModel" "joinedAt" "[I", .fieldLink RX6 32 "CutOnceModel" "joinedTurn" "[I", .fieldLink RX6 35 "CutOnceModel" "sheetSize" "[I", .fieldLink RX6 38 "CutOnceModel" "sheetLane" "[I", .fieldLink RX6 41 "CutOnceModel" "sheet" "[I", .fieldLink RX6 44 "CutOnceModel" "hands" "[I", .fieldLink RX6 47 "CutOnceModel" "wide" "I", .fieldLink RX6 51 "CutOnceModel" "high" "I"] ++ wsX60)
def wsX6_in : List Cond := .code yX6_in cX6_in 6 (some .boolean) :: ([])
def wsX6_lost : List Cond := .code yX6_lost cX6_lost 0 (some .long) :: ([.constantLong RX6 54 (-9223372036854775808)])
def wsX6_refused : List Cond := .code yX6_refused cX6_refused 2 (some .int) :: ([.fieldLink RX6 56 "CutOnceModel" "fault" "I"] ++ wsX60)
def wsX6_failed : List Cond := .code yX6_failed cX6_failed 2 (some .int) :: ([.fieldLink RX6 56 "CutOnceModel" "fault" "I"] ++ wsX60)
def wsX6_failedLong : List Cond := .code yX6_failedLong cX6_failedLong 2 (some .long) :: ([.fieldLink RX6 56 "CutOnceModel" "fault" "I", .methodLink RX6 59 yX6_lost, .static yX6_lost, .initialized RX6, .code yX6_lost cX6_lost 0 (some .long), .constantLong RX6 54 (-9223372036854775808)] ++ wsX60)
def wsX6_sizeOf : List Cond := .code yX6_sizeOf cX6_sizeOf 1 (some .int) :: ([])
def wsX6_across : List Cond := .code yX6_across cX6_across 1 (some .int) :: ([.fieldLink RX6 47 "CutOnceModel" "wide" "I", .fieldLink RX6 51 "CutOnceModel" "high" "I"] ++ wsX60)
def wsX6_sides : List Cond := .code yX6_sides cX6_sides 1 (some .int) :: ([.fieldLink RX6 47 "CutOnceModel" "wide" "I", .fieldLink RX6 51 "CutOnceModel" "high" "I", .methodLink RX6 63 yX6_across, .instanceMethod yX6_across, .selects RX6 yX6_across yX6_across, .initialized RX6, .code yX6_across cX6_across 1 (some .int)] ++ wsX60)
def wsX6_pieces : List Cond := .code yX6_pieces cX6_pieces 1 (some .int) :: ([.fieldLink RX6 47 "CutOnceModel" "wide" "I", .fieldLink RX6 51 "CutOnceModel" "high" "I"] ++ wsX60)
def wsX6_noSide : List Cond := .code yX6_noSide cX6_noSide 2 (some .boolean) :: ([.methodLink RX6 67 yX6_sides, .instanceMethod yX6_sides, .selects RX6 yX6_sides yX6_sides, .initialized RX6, .code yX6_sides cX6_sides 1 (some .int), .fieldLink RX6 47 "CutOnceModel" "wide" "I", .fieldLink RX6 51 "CutOnceModel" "high" "I", .methodLink RX6 63 yX6_across, .instanceMethod yX6_across, .selects RX6 yX6_across yX6_across, .code yX6_across cX6_across 1 (some .int), .methodLink RX6 70 yX6_in, .static yX6_in, .code yX6_in cX6_in 6 (some .boolean)] ++ wsX60)
def wsX6_noPiece : List Cond := .code yX6_noPiece cX6_noPiece 2 (some .boolean) :: ([.methodLink RX6 74 yX6_pieces, .instanceMethod yX6_pieces, .selects RX6 yX6_pieces yX6_pieces, .initialized RX6, .code yX6_pieces cX6_pieces 1 (some .int), .fieldLink RX6 47 "CutOnceModel" "wide" "I", .fieldLink RX6 51 "CutOnceModel" "high" "I", .methodLink RX6 70 yX6_in, .static yX6_in, .code yX6_in cX6_in 6 (some .boolean)] ++ wsX60)
def wsX6_changed : List Cond := .code yX6_changed cX6_changed 1 none :: ([.fieldLink RX6 77 "CutOnceModel" "isJoined" "Z"] ++ wsX60)
def wsX6_picture : List Cond := .code yX6_picture cX6_picture 4 (some .int) :: ([.constantLong RX6 81 (5), .fieldLink RX6 47 "CutOnceModel" "wide" "I", .fieldLink RX6 51 "CutOnceModel" "high" "I", .fieldLink RX6 7 "CutOnceModel" "heights" "[I", .fieldLink RX6 83 "CutOnceModel" "heaped" "I", .methodLink RX6 70 yX6_in, .static yX6_in, .initialized RX6, .code yX6_in cX6_in 6 (some .boolean), .methodLink RX6 86 yX6_changed, .instanceMethod yX6_changed, .selects RX6 yX6_changed yX6_changed, .code yX6_changed cX6_changed 1 none, .fieldLink RX6 77 "CutOnceModel" "isJoined" "Z", .methodLink RX6 67 yX6_sides, .instanceMethod yX6_sides, .selects RX6 yX6_sides yX6_sides, .code yX6_sides cX6_sides 1 (some .int), .methodLink RX6 63 yX6_across, .instanceMethod yX6_across, .selects RX6 yX6_across yX6_across, .code yX6_across cX6_across 1 (some .int)] ++ wsX60)
def wsX6_numberBelow : List Cond := .code yX6_numberBelow cX6_numberBelow 2 (some .int) :: ([.fieldLink RX6 89 "CutOnceModel" "draw" "J", .constantLong RX6 93 (6364136223846793005), .constantLong RX6 95 (1442695040888963407), .constantLong RX6 97 (2147483647), .constantLong RX6 99 (4096)] ++ wsX60)
def wsX6_make_r1 : List Cond := [Cond.fieldLink RX6 89 "CutOnceModel" "draw" "J", Cond.fieldLink RX6 7 "CutOnceModel" "heights" "[I", Cond.methodLink RX6 67 yX6_sides, Cond.instanceMethod yX6_sides, Cond.selects RX6 yX6_sides yX6_sides, Cond.initialized RX6, Cond.code yX6_sides cX6_sides 1 (some .int), Cond.fieldLink RX6 47 "CutOnceModel" "wide" "I", Cond.fieldLink RX6 51 "CutOnceModel" "high" "I", Cond.methodLink RX6 63 yX6_across, Cond.instanceMethod yX6_across, Cond.selects RX6 yX6_across yX6_across, Cond.code yX6_across cX6_across 1 (some .int), Cond.methodLink RX6 101 yX6_numberBelow, Cond.instanceMethod yX6_numberBelow, Cond.selects RX6 yX6_numberBelow yX6_numberBelow, Cond.code yX6_numberBelow cX6_numberBelow 2 (some .int), Cond.constantLong RX6 93 (6364136223846793005), Cond.constantLong RX6 95 (1442695040888963407), Cond.constantLong RX6 97 (2147483647), Cond.constantLong RX6 99 (4096), Cond.methodLink RX6 86 yX6_changed, Cond.instanceMethod yX6_changed, Cond.selects RX6 yX6_changed yX6_changed]
def wsX6_make_r2 : List Cond := [Cond.code yX6_changed cX6_changed 1 none, Cond.fieldLink RX6 77 "CutOnceModel" "isJoined" "Z"]
def wsX6_make : List Cond := .code yX6_make cX6_make 4 (some .int) :: ((wsX6_make_r1 ++ wsX6_make_r2) ++ wsX60)
def wsX6_bend_r1 : List Cond := [Cond.constantLong RX6 109 (4), Cond.constantLong RX6 111 (-9), Cond.constantLong RX6 113 (9), Cond.fieldLink RX6 7 "CutOnceModel" "heights" "[I", Cond.methodLink RX6 105 yX6_noSide, Cond.instanceMethod yX6_noSide, Cond.selects RX6 yX6_noSide yX6_noSide, Cond.initialized RX6, Cond.code yX6_noSide cX6_noSide 2 (some .boolean), Cond.methodLink RX6 67 yX6_sides, Cond.instanceMethod yX6_sides, Cond.selects RX6 yX6_sides yX6_sides, Cond.code yX6_sides cX6_sides 1 (some .int), Cond.fieldLink RX6 47 "CutOnceModel" "wide" "I", Cond.fieldLink RX6 51 "CutOnceModel" "high" "I", Cond.methodLink RX6 63 yX6_across, Cond.instanceMethod yX6_across, Cond.selects RX6 yX6_across yX6_across, Cond.code yX6_across cX6_across 1 (some .int), Cond.methodLink RX6 70 yX6_in, Cond.static yX6_in, Cond.code yX6_in cX6_in 6 (some .boolean), Cond.methodLink RX6 59 yX6_lost, Cond.static yX6_lost]
def wsX6_bend_r2 : List Cond := [Cond.code yX6_lost cX6_lost 0 (some .long), Cond.constantLong RX6 54 (-9223372036854775808), Cond.methodLink RX6 86 yX6_changed, Cond.instanceMethod yX6_changed, Cond.selects RX6 yX6_changed yX6_changed, Cond.code yX6_changed cX6_changed 1 none, Cond.fieldLink RX6 77 "CutOnceModel" "isJoined" "Z"]
def wsX6_bend : List Cond := .code yX6_bend cX6_bend 6 (some .long) :: ((wsX6_bend_r1 ++ wsX6_bend_r2) ++ wsX60)
def wsX6_height : List Cond := .code yX6_height cX6_height 3 (some .long) :: ([.constantLong RX6 109 (4), .fieldLink RX6 7 "CutOnceModel" "heights" "[I", .methodLink RX6 105 yX6_noSide, .instanceMethod yX6_noSide, .selects RX6 yX6_noSide yX6_noSide, .initialized RX6, .code yX6_noSide cX6_noSide 2 (some .boolean), .methodLink RX6 67 yX6_sides, .instanceMethod yX6_sides, .selects RX6 yX6_sides yX6_sides, .code yX6_sides cX6_sides 1 (some .int), .fieldLink RX6 47 "CutOnceModel" "wide" "I", .fieldLink RX6 51 "CutOnceModel" "high" "I", .methodLink RX6 63 yX6_across, .instanceMethod yX6_across, .selects RX6 yX6_across yX6_across, .code yX6_across cX6_across 1 (some .int), .methodLink RX6 70 yX6_in, .static yX6_in, .code yX6_in cX6_in 6 (some .boolean), .methodLink RX6 59 yX6_lost, .static yX6_lost, .code yX6_lost cX6_lost 0 (some .long), .constantLong RX6 54 (-9223372036854775808)] ++ wsX60)
def wsX6_sideAt : List Cond := .code yX6_sideAt cX6_sideAt 6 (some .int) :: ([.fieldLink RX6 47 "CutOnceModel" "wide" "I", .fieldLink RX6 51 "CutOnceModel" "high" "I", .methodLink RX6 63 yX6_across, .instanceMethod yX6_across, .selects RX6 yX6_across yX6_across, .initialized RX6, .code yX6_across cX6_across 1 (some .int)] ++ wsX60)
def wsX6_sideOf : List Cond := .code yX6_sideOf cX6_sideOf 3 (some .int) :: ([.constantLong RX6 118 (3), .methodLink RX6 115 yX6_noPiece, .instanceMethod yX6_noPiece, .selects RX6 yX6_noPiece yX6_noPiece, .initialized RX6, .code yX6_noPiece cX6_noPiece 2 (some .boolean), .methodLink RX6 74 yX6_pieces, .instanceMethod yX6_pieces, .selects RX6 yX6_pieces yX6_pieces, .code yX6_pieces cX6_pieces 1 (some .int), .fieldLink RX6 47 "CutOnceModel" "wide" "I", .fieldLink RX6 51 "CutOnceModel" "high" "I", .methodLink RX6 70 yX6_in, .static yX6_in, .code yX6_in cX6_in 6 (some .boolean), .methodLink RX6 120 yX6_sideAt, .instanceMethod yX6_sideAt, .selects RX6 yX6_sideAt yX6_sideAt, .code yX6_sideAt cX6_sideAt 6 (some .int), .methodLink RX6 63 yX6_across, .instanceMethod yX6_across, .selects RX6 yX6_across yX6_across, .code yX6_across cX6_across 1 (some .int)] ++ wsX60)
def wsX6_heightAt : List Cond := .code yX6_heightAt cX6_heightAt 5 (some .int) :: ([.fieldLink RX6 7 "CutOnceModel" "heights" "[I", .methodLink RX6 120 yX6_sideAt, .instanceMethod yX6_sideAt, .selects RX6 yX6_sideAt yX6_sideAt, .initialized RX6, .code yX6_sideAt cX6_sideAt 6 (some .int), .fieldLink RX6 47 "CutOnceModel" "wide" "I", .fieldLink RX6 51 "CutOnceModel" "high" "I", .methodLink RX6 63 yX6_across, .instanceMethod yX6_across, .selects RX6 yX6_across yX6_across, .code yX6_across cX6_across 1 (some .int)] ++ wsX60)
def wsX6_edge_r1 : List Cond := [Cond.constantLong RX6 118 (3), Cond.constantLong RX6 109 (4), Cond.methodLink RX6 115 yX6_noPiece, Cond.instanceMethod yX6_noPiece, Cond.selects RX6 yX6_noPiece yX6_noPiece, Cond.initialized RX6, Cond.code yX6_noPiece cX6_noPiece 2 (some .boolean), Cond.methodLink RX6 74 yX6_pieces, Cond.instanceMethod yX6_pieces, Cond.selects RX6 yX6_pieces yX6_pieces, Cond.code yX6_pieces cX6_pieces 1 (some .int), Cond.fieldLink RX6 47 "CutOnceModel" "wide" "I", Cond.fieldLink RX6 51 "CutOnceModel" "high" "I", Cond.methodLink RX6 70 yX6_in, Cond.static yX6_in, Cond.code yX6_in cX6_in 6 (some .boolean), Cond.methodLink RX6 120 yX6_sideAt, Cond.instanceMethod yX6_sideAt, Cond.selects RX6 yX6_sideAt yX6_sideAt, Cond.code yX6_sideAt cX6_sideAt 6 (some .int), Cond.methodLink RX6 63 yX6_across, Cond.instanceMethod yX6_across, Cond.selects RX6 yX6_across yX6_across, Cond.code yX6_across cX6_across 1 (some .int)]
def wsX6_edge_r2 : List Cond := [Cond.methodLink RX6 59 yX6_lost, Cond.static yX6_lost, Cond.code yX6_lost cX6_lost 0 (some .long), Cond.constantLong RX6 54 (-9223372036854775808), Cond.methodLink RX6 124 yX6_heightAt, Cond.instanceMethod yX6_heightAt, Cond.selects RX6 yX6_heightAt yX6_heightAt, Cond.code yX6_heightAt cX6_heightAt 5 (some .int), Cond.fieldLink RX6 7 "CutOnceModel" "heights" "[I"]
def wsX6_edge : List Cond := .code yX6_edge cX6_edge 4 (some .long) :: ((wsX6_edge_r1 ++ wsX6_edge_r2) ++ wsX60)
def wsX6_farOf : List Cond := .code yX6_farOf cX6_farOf 7 (some .int) :: ([.methodLink RX6 124 yX6_heightAt, .instanceMethod yX6_heightAt, .selects RX6 yX6_heightAt yX6_heightAt, .initialized RX6, .code yX6_heightAt cX6_heightAt 5 (some .int), .fieldLink RX6 7 "CutOnceModel" "heights" "[I", .methodLink RX6 120 yX6_sideAt, .instanceMethod yX6_sideAt, .selects RX6 yX6_sideAt yX6_sideAt, .code yX6_sideAt cX6_sideAt 6 (some .int), .fieldLink RX6 47 "CutOnceModel" "wide" "I", .fieldLink RX6 51 "CutOnceModel" "high" "I", .methodLink RX6 63 yX6_across, .instanceMethod yX6_across, .selects RX6 yX6_across yX6_across, .code yX6_across cX6_across 1 (some .int), .methodLink RX6 128 yX6_sizeOf, .static yX6_sizeOf, .code yX6_sizeOf cX6_sizeOf 1 (some .int)] ++ wsX60)
def wsX6_far_r1 : List Cond := [Cond.constantLong RX6 118 (3), Cond.methodLink RX6 115 yX6_noPiece, Cond.instanceMethod yX6_noPiece, Cond.selects RX6 yX6_noPiece yX6_noPiece, Cond.initialized RX6, Cond.code yX6_noPiece cX6_noPiece 2 (some .boolean), Cond.methodLink RX6 74 yX6_pieces, Cond.instanceMethod yX6_pieces, Cond.selects RX6 yX6_pieces yX6_pieces, Cond.code yX6_pieces cX6_pieces 1 (some .int), Cond.fieldLink RX6 47 "CutOnceModel" "wide" "I", Cond.fieldLink RX6 51 "CutOnceModel" "high" "I", Cond.methodLink RX6 70 yX6_in, Cond.static yX6_in, Cond.code yX6_in cX6_in 6 (some .boolean), Cond.methodLink RX6 120 yX6_sideAt, Cond.instanceMethod yX6_sideAt, Cond.selects RX6 yX6_sideAt yX6_sideAt, Cond.code yX6_sideAt cX6_sideAt 6 (some .int), Cond.methodLink RX6 63 yX6_across, Cond.instanceMethod yX6_across, Cond.selects RX6 yX6_across yX6_across, Cond.code yX6_across cX6_across 1 (some .int), Cond.methodLink RX6 131 yX6_farOf]
def wsX6_far_r2 : List Cond := [Cond.instanceMethod yX6_farOf, Cond.selects RX6 yX6_farOf yX6_farOf, Cond.code yX6_farOf cX6_farOf 7 (some .int), Cond.methodLink RX6 124 yX6_heightAt, Cond.instanceMethod yX6_heightAt, Cond.selects RX6 yX6_heightAt yX6_heightAt, Cond.code yX6_heightAt cX6_heightAt 5 (some .int), Cond.fieldLink RX6 7 "CutOnceModel" "heights" "[I", Cond.methodLink RX6 128 yX6_sizeOf, Cond.static yX6_sizeOf, Cond.code yX6_sizeOf cX6_sizeOf 1 (some .int)]
def wsX6_far : List Cond := .code yX6_far cX6_far 5 (some .int) :: ((wsX6_far_r1 ++ wsX6_far_r2) ++ wsX60)
def wsX6_isBulge : List Cond := .code yX6_isBulge cX6_isBulge 5 (some .boolean) :: ([.fieldLink RX6 7 "CutOnceModel" "heights" "[I"] ++ wsX60)
def wsX6_isLike : List Cond := .code yX6_isLike cX6_isLike 6 (some .boolean) :: ([.fieldLink RX6 7 "CutOnceModel" "heights" "[I"] ++ wsX60)
def wsX6_kindOf : List Cond := .code yX6_kindOf cX6_kindOf 3 (some .int) :: ([.methodLink RX6 135 yX6_isBulge, .instanceMethod yX6_isBulge, .selects RX6 yX6_isBulge yX6_isBulge, .initialized RX6, .code yX6_isBulge cX6_isBulge 5 (some .boolean), .fieldLink RX6 7 "CutOnceModel" "heights" "[I", .methodLink RX6 67 yX6_sides, .instanceMethod yX6_sides, .selects RX6 yX6_sides yX6_sides, .code yX6_sides cX6_sides 1 (some .int), .fieldLink RX6 47 "CutOnceModel" "wide" "I", .fieldLink RX6 51 "CutOnceModel" "high" "I", .methodLink RX6 63 yX6_across, .instanceMethod yX6_across, .selects RX6 yX6_across yX6_across, .code yX6_across cX6_across 1 (some .int), .methodLink RX6 138 yX6_isLike, .instanceMethod yX6_isLike, .selects RX6 yX6_isLike yX6_isLike, .code yX6_isLike cX6_isLike 6 (some .boolean)] ++ wsX60)
def wsX6_kind_r1 : List Cond := [Cond.methodLink RX6 105 yX6_noSide, Cond.instanceMethod yX6_noSide, Cond.selects RX6 yX6_noSide yX6_noSide, Cond.initialized RX6, Cond.code yX6_noSide cX6_noSide 2 (some .boolean), Cond.methodLink RX6 67 yX6_sides, Cond.instanceMethod yX6_sides, Cond.selects RX6 yX6_sides yX6_sides, Cond.code yX6_sides cX6_sides 1 (some .int), Cond.fieldLink RX6 47 "CutOnceModel" "wide" "I", Cond.fieldLink RX6 51 "CutOnceModel" "high" "I", Cond.methodLink RX6 63 yX6_across, Cond.instanceMethod yX6_across, Cond.selects RX6 yX6_across yX6_across, Cond.code yX6_across cX6_across 1 (some .int), Cond.methodLink RX6 70 yX6_in, Cond.static yX6_in, Cond.code yX6_in cX6_in 6 (some .boolean), Cond.methodLink RX6 142 yX6_kindOf, Cond.instanceMethod yX6_kindOf, Cond.selects RX6 yX6_kindOf yX6_kindOf, Cond.code yX6_kindOf cX6_kindOf 3 (some .int), Cond.methodLink RX6 135 yX6_isBulge, Cond.instanceMethod yX6_isBulge]
def wsX6_kind_r2 : List Cond := [Cond.selects RX6 yX6_isBulge yX6_isBulge, Cond.code yX6_isBulge cX6_isBulge 5 (some .boolean), Cond.fieldLink RX6 7 "CutOnceModel" "heights" "[I", Cond.methodLink RX6 138 yX6_isLike, Cond.instanceMethod yX6_isLike, Cond.selects RX6 yX6_isLike yX6_isLike, Cond.code yX6_isLike cX6_isLike 6 (some .boolean)]
def wsX6_kind : List Cond := .code yX6_kind cX6_kind 2 (some .int) :: ((wsX6_kind_r1 ++ wsX6_kind_r2) ++ wsX60)
def wsX6_goThrough_r1 : List Cond := [Cond.fieldLink RX6 145 "CutOnceModel" "leastFar" "I", Cond.fieldLink RX6 148 "CutOnceModel" "near" "I", Cond.methodLink RX6 74 yX6_pieces, Cond.instanceMethod yX6_pieces, Cond.selects RX6 yX6_pieces yX6_pieces, Cond.initialized RX6, Cond.code yX6_pieces cX6_pieces 1 (some .int), Cond.fieldLink RX6 47 "CutOnceModel" "wide" "I", Cond.fieldLink RX6 51 "CutOnceModel" "high" "I", Cond.methodLink RX6 120 yX6_sideAt, Cond.instanceMethod yX6_sideAt, Cond.selects RX6 yX6_sideAt yX6_sideAt, Cond.code yX6_sideAt cX6_sideAt 6 (some .int), Cond.methodLink RX6 63 yX6_across, Cond.instanceMethod yX6_across, Cond.selects RX6 yX6_across yX6_across, Cond.code yX6_across cX6_across 1 (some .int), Cond.methodLink RX6 131 yX6_farOf, Cond.instanceMethod yX6_farOf, Cond.selects RX6 yX6_farOf yX6_farOf, Cond.code yX6_farOf cX6_farOf 7 (some .int), Cond.methodLink RX6 124 yX6_heightAt, Cond.instanceMethod yX6_heightAt, Cond.selects RX6 yX6_heightAt yX6_heightAt]
def wsX6_goThrough_r2 : List Cond := [Cond.code yX6_heightAt cX6_heightAt 5 (some .int), Cond.fieldLink RX6 7 "CutOnceModel" "heights" "[I", Cond.methodLink RX6 128 yX6_sizeOf, Cond.static yX6_sizeOf, Cond.code yX6_sizeOf cX6_sizeOf 1 (some .int)]
def wsX6_goThrough : List Cond := .code yX6_goThrough cX6_goThrough 7 none :: ((wsX6_goThrough_r1 ++ wsX6_goThrough_r2) ++ wsX60)
def wsX6_unlike_r1 : List Cond := [Cond.fieldLink RX6 145 "CutOnceModel" "leastFar" "I", Cond.methodLink RX6 151 yX6_goThrough, Cond.instanceMethod yX6_goThrough, Cond.selects RX6 yX6_goThrough yX6_goThrough, Cond.initialized RX6, Cond.code yX6_goThrough cX6_goThrough 7 none, Cond.fieldLink RX6 148 "CutOnceModel" "near" "I", Cond.methodLink RX6 74 yX6_pieces, Cond.instanceMethod yX6_pieces, Cond.selects RX6 yX6_pieces yX6_pieces, Cond.code yX6_pieces cX6_pieces 1 (some .int), Cond.fieldLink RX6 47 "CutOnceModel" "wide" "I", Cond.fieldLink RX6 51 "CutOnceModel" "high" "I", Cond.methodLink RX6 120 yX6_sideAt, Cond.instanceMethod yX6_sideAt, Cond.selects RX6 yX6_sideAt yX6_sideAt, Cond.code yX6_sideAt cX6_sideAt 6 (some .int), Cond.methodLink RX6 63 yX6_across, Cond.instanceMethod yX6_across, Cond.selects RX6 yX6_across yX6_across, Cond.code yX6_across cX6_across 1 (some .int), Cond.methodLink RX6 131 yX6_farOf, Cond.instanceMethod yX6_farOf, Cond.selects RX6 yX6_farOf yX6_farOf]
def wsX6_unlike_r2 : List Cond := [Cond.code yX6_farOf cX6_farOf 7 (some .int), Cond.methodLink RX6 124 yX6_heightAt, Cond.instanceMethod yX6_heightAt, Cond.selects RX6 yX6_heightAt yX6_heightAt, Cond.code yX6_heightAt cX6_heightAt 5 (some .int), Cond.fieldLink RX6 7 "CutOnceModel" "heights" "[I", Cond.methodLink RX6 128 yX6_sizeOf, Cond.static yX6_sizeOf, Cond.code yX6_sizeOf cX6_sizeOf 1 (some .int)]
def wsX6_unlike : List Cond := .code yX6_unlike cX6_unlike 1 (some .int) :: ((wsX6_unlike_r1 ++ wsX6_unlike_r2) ++ wsX60)
def wsX6_traps_r1 : List Cond := [Cond.fieldLink RX6 148 "CutOnceModel" "near" "I", Cond.methodLink RX6 151 yX6_goThrough, Cond.instanceMethod yX6_goThrough, Cond.selects RX6 yX6_goThrough yX6_goThrough, Cond.initialized RX6, Cond.code yX6_goThrough cX6_goThrough 7 none, Cond.fieldLink RX6 145 "CutOnceModel" "leastFar" "I", Cond.methodLink RX6 74 yX6_pieces, Cond.instanceMethod yX6_pieces, Cond.selects RX6 yX6_pieces yX6_pieces, Cond.code yX6_pieces cX6_pieces 1 (some .int), Cond.fieldLink RX6 47 "CutOnceModel" "wide" "I", Cond.fieldLink RX6 51 "CutOnceModel" "high" "I", Cond.methodLink RX6 120 yX6_sideAt, Cond.instanceMethod yX6_sideAt, Cond.selects RX6 yX6_sideAt yX6_sideAt, Cond.code yX6_sideAt cX6_sideAt 6 (some .int), Cond.methodLink RX6 63 yX6_across, Cond.instanceMethod yX6_across, Cond.selects RX6 yX6_across yX6_across, Cond.code yX6_across cX6_across 1 (some .int), Cond.methodLink RX6 131 yX6_farOf, Cond.instanceMethod yX6_farOf, Cond.selects RX6 yX6_farOf yX6_farOf]
def wsX6_traps_r2 : List Cond := [Cond.code yX6_farOf cX6_farOf 7 (some .int), Cond.methodLink RX6 124 yX6_heightAt, Cond.instanceMethod yX6_heightAt, Cond.selects RX6 yX6_heightAt yX6_heightAt, Cond.code yX6_heightAt cX6_heightAt 5 (some .int), Cond.fieldLink RX6 7 "CutOnceModel" "heights" "[I", Cond.methodLink RX6 128 yX6_sizeOf, Cond.static yX6_sizeOf, Cond.code yX6_sizeOf cX6_sizeOf 1 (some .int)]
def wsX6_traps : List Cond := .code yX6_traps cX6_traps 2 (some .int) :: ((wsX6_traps_r1 ++ wsX6_traps_r2) ++ wsX60)
def wsX6_alike : List Cond := .code yX6_alike cX6_alike 7 (some .int) :: ([.fieldLink RX6 7 "CutOnceModel" "heights" "[I", .methodLink RX6 105 yX6_noSide, .instanceMethod yX6_noSide, .selects RX6 yX6_noSide yX6_noSide, .initialized RX6, .code yX6_noSide cX6_noSide 2 (some .boolean), .methodLink RX6 67 yX6_sides, .instanceMethod yX6_sides, .selects RX6 yX6_sides yX6_sides, .code yX6_sides cX6_sides 1 (some .int), .fieldLink RX6 47 "CutOnceModel" "wide" "I", .fieldLink RX6 51 "CutOnceModel" "high" "I", .methodLink RX6 63 yX6_across, .instanceMethod yX6_across, .selects RX6 yX6_across yX6_across, .code yX6_across cX6_across 1 (some .int), .methodLink RX6 70 yX6_in, .static yX6_in, .code yX6_in cX6_in 6 (some .boolean), .methodLink RX6 86 yX6_changed, .instanceMethod yX6_changed, .selects RX6 yX6_changed yX6_changed, .code yX6_changed cX6_changed 1 none, .fieldLink RX6 77 "CutOnceModel" "isJoined" "Z"] ++ wsX60)
def wsX6_lay : List Cond := .code yX6_lay cX6_lay 3 (some .int) :: ([.constantLong RX6 118 (3), .fieldLink RX6 83 "CutOnceModel" "heaped" "I", .fieldLink RX6 13 "CutOnceModel" "piece" "[I", .fieldLink RX6 16 "CutOnceModel" "turn" "[I", .methodLink RX6 115 yX6_noPiece, .instanceMethod yX6_noPiece, .selects RX6 yX6_noPiece yX6_noPiece, .initialized RX6, .code yX6_noPiece cX6_noPiece 2 (some .boolean), .methodLink RX6 74 yX6_pieces, .instanceMethod yX6_pieces, .selects RX6 yX6_pieces yX6_pieces, .code yX6_pieces cX6_pieces 1 (some .int), .fieldLink RX6 47 "CutOnceModel" "wide" "I", .fieldLink RX6 51 "CutOnceModel" "high" "I", .methodLink RX6 70 yX6_in, .static yX6_in, .code yX6_in cX6_in 6 (some .boolean), .methodLink RX6 86 yX6_changed, .instanceMethod yX6_changed, .selects RX6 yX6_changed yX6_changed, .code yX6_changed cX6_changed 1 none, .fieldLink RX6 77 "CutOnceModel" "isJoined" "Z"] ++ wsX60)
def wsX6_heap : List Cond := .code yX6_heap cX6_heap 6 (some .int) :: ([.fieldLink RX6 89 "CutOnceModel" "draw" "J", .fieldLink RX6 83 "CutOnceModel" "heaped" "I", .fieldLink RX6 13 "CutOnceModel" "piece" "[I", .fieldLink RX6 16 "CutOnceModel" "turn" "[I", .methodLink RX6 74 yX6_pieces, .instanceMethod yX6_pieces, .selects RX6 yX6_pieces yX6_pieces, .initialized RX6, .code yX6_pieces cX6_pieces 1 (some .int), .fieldLink RX6 47 "CutOnceModel" "wide" "I", .fieldLink RX6 51 "CutOnceModel" "high" "I", .methodLink RX6 101 yX6_numberBelow, .instanceMethod yX6_numberBelow, .selects RX6 yX6_numberBelow yX6_numberBelow, .code yX6_numberBelow cX6_numberBelow 2 (some .int), .constantLong RX6 93 (6364136223846793005), .constantLong RX6 95 (1442695040888963407), .constantLong RX6 97 (2147483647), .constantLong RX6 99 (4096), .methodLink RX6 86 yX6_changed, .instanceMethod yX6_changed, .selects RX6 yX6_changed yX6_changed, .code yX6_changed cX6_changed 1 none, .fieldLink RX6 77 "CutOnceModel" "isJoined" "Z"] ++ wsX60)
def wsX6_noPlace : List Cond := .code yX6_noPlace cX6_noPlace 2 (some .boolean) :: ([.fieldLink RX6 83 "CutOnceModel" "heaped" "I", .methodLink RX6 70 yX6_in, .static yX6_in, .initialized RX6, .code yX6_in cX6_in 6 (some .boolean)] ++ wsX60)
def wsX6_take : List Cond := .code yX6_take cX6_take 4 (some .int) :: ([.fieldLink RX6 13 "CutOnceModel" "piece" "[I", .fieldLink RX6 83 "CutOnceModel" "heaped" "I", .fieldLink RX6 16 "CutOnceModel" "turn" "[I", .methodLink RX6 155 yX6_noPlace, .instanceMethod yX6_noPlace, .selects RX6 yX6_noPlace yX6_noPlace, .initialized RX6, .code yX6_noPlace cX6_noPlace 2 (some .boolean), .methodLink RX6 70 yX6_in, .static yX6_in, .code yX6_in cX6_in 6 (some .boolean), .methodLink RX6 86 yX6_changed, .instanceMethod yX6_changed, .selects RX6 yX6_changed yX6_changed, .code yX6_changed cX6_changed 1 none, .fieldLink RX6 77 "CutOnceModel" "isJoined" "Z"] ++ wsX60)
def wsX6_heaped : List Cond := .code yX6_heaped cX6_heaped 3 (some .int) :: ([.fieldLink RX6 13 "CutOnceModel" "piece" "[I", .fieldLink RX6 16 "CutOnceModel" "turn" "[I", .methodLink RX6 155 yX6_noPlace, .instanceMethod yX6_noPlace, .selects RX6 yX6_noPlace yX6_noPlace, .initialized RX6, .code yX6_noPlace cX6_noPlace 2 (some .boolean), .fieldLink RX6 83 "CutOnceModel" "heaped" "I", .methodLink RX6 70 yX6_in, .static yX6_in, .code yX6_in cX6_in 6 (some .boolean)] ++ wsX60)
def wsX6_timesIn : List Cond := .code yX6_timesIn cX6_timesIn 4 (some .int) :: ([.fieldLink RX6 83 "CutOnceModel" "heaped" "I", .fieldLink RX6 13 "CutOnceModel" "piece" "[I"] ++ wsX60)
def wsX6_isMissing : List Cond := .code yX6_isMissing cX6_isMissing 3 (some .boolean) :: ([.methodLink RX6 158 yX6_timesIn, .instanceMethod yX6_timesIn, .selects RX6 yX6_timesIn yX6_timesIn, .initialized RX6, .code yX6_timesIn cX6_timesIn 4 (some .int), .fieldLink RX6 83 "CutOnceModel" "heaped" "I", .fieldLink RX6 13 "CutOnceModel" "piece" "[I"] ++ wsX60)
def wsX6_missing : List Cond := .code yX6_missing cX6_missing 4 (some .int) :: ([.methodLink RX6 70 yX6_in, .static yX6_in, .initialized RX6, .code yX6_in cX6_in 6 (some .boolean), .methodLink RX6 74 yX6_pieces, .instanceMethod yX6_pieces, .selects RX6 yX6_pieces yX6_pieces, .code yX6_pieces cX6_pieces 1 (some .int), .fieldLink RX6 47 "CutOnceModel" "wide" "I", .fieldLink RX6 51 "CutOnceModel" "high" "I", .methodLink RX6 161 yX6_isMissing, .instanceMethod yX6_isMissing, .selects RX6 yX6_isMissing yX6_isMissing, .code yX6_isMissing cX6_isMissing 3 (some .boolean), .methodLink RX6 158 yX6_timesIn, .instanceMethod yX6_timesIn, .selects RX6 yX6_timesIn yX6_timesIn, .code yX6_timesIn cX6_timesIn 4 (some .int), .fieldLink RX6 83 "CutOnceModel" "heaped" "I", .fieldLink RX6 13 "CutOnceModel" "piece" "[I"] ++ wsX60)
def wsX6_missed : List Cond := .code yX6_missed cX6_missed 5 (some .int) :: ([.methodLink RX6 70 yX6_in, .static yX6_in, .initialized RX6, .code yX6_in cX6_in 6 (some .boolean), .methodLink RX6 164 yX6_missing, .instanceMethod yX6_missing, .selects RX6 yX6_missing yX6_missing, .code yX6_missing cX6_missing 4 (some .int), .methodLink RX6 74 yX6_pieces, .instanceMethod yX6_pieces, .selects RX6 yX6_pieces yX6_pieces, .code yX6_pieces cX6_pieces 1 (some .int), .fieldLink RX6 47 "CutOnceModel" "wide" "I", .fieldLink RX6 51 "CutOnceModel" "high" "I", .methodLink RX6 161 yX6_isMissing, .instanceMethod yX6_isMissing, .selects RX6 yX6_isMissing yX6_isMissing, .code yX6_isMissing cX6_isMissing 3 (some .boolean), .methodLink RX6 158 yX6_timesIn, .instanceMethod yX6_timesIn, .selects RX6 yX6_timesIn yX6_timesIn, .code yX6_timesIn cX6_timesIn 4 (some .int), .fieldLink RX6 83 "CutOnceModel" "heaped" "I", .fieldLink RX6 13 "CutOnceModel" "piece" "[I"] ++ wsX60)
def wsX6_edgeOn : List Cond := .code yX6_edgeOn cX6_edgeOn 3 (some .int) :: ([.fieldLink RX6 16 "CutOnceModel" "turn" "[I", .fieldLink RX6 19 "CutOnceModel" "at" "[I", .fieldLink RX6 22 "CutOnceModel" "further" "[I"] ++ wsX60)
def wsX6_isFlat : List Cond := .code yX6_isFlat cX6_isFlat 3 (some .boolean) :: ([.fieldLink RX6 13 "CutOnceModel" "piece" "[I", .fieldLink RX6 19 "CutOnceModel" "at" "[I", .methodLink RX6 167 yX6_edgeOn, .instanceMethod yX6_edgeOn, .selects RX6 yX6_edgeOn yX6_edgeOn, .initialized RX6, .code yX6_edgeOn cX6_edgeOn 3 (some .int), .fieldLink RX6 16 "CutOnceModel" "turn" "[I", .fieldLink RX6 22 "CutOnceModel" "further" "[I", .methodLink RX6 120 yX6_sideAt, .instanceMethod yX6_sideAt, .selects RX6 yX6_sideAt yX6_sideAt, .code yX6_sideAt cX6_sideAt 6 (some .int), .fieldLink RX6 47 "CutOnceModel" "wide" "I", .fieldLink RX6 51 "CutOnceModel" "high" "I", .methodLink RX6 63 yX6_across, .instanceMethod yX6_across, .selects RX6 yX6_across yX6_across, .code yX6_across cX6_across 1 (some .int)] ++ wsX60)
def wsX6_meets_r1 : List Cond := [Cond.fieldLink RX6 13 "CutOnceModel" "piece" "[I", Cond.fieldLink RX6 19 "CutOnceModel" "at" "[I", Cond.methodLink RX6 170 yX6_isFlat, Cond.instanceMethod yX6_isFlat, Cond.selects RX6 yX6_isFlat yX6_isFlat, Cond.initialized RX6, Cond.code yX6_isFlat cX6_isFlat 3 (some .boolean), Cond.methodLink RX6 167 yX6_edgeOn, Cond.instanceMethod yX6_edgeOn, Cond.selects RX6 yX6_edgeOn yX6_edgeOn, Cond.code yX6_edgeOn cX6_edgeOn 3 (some .int), Cond.fieldLink RX6 16 "CutOnceModel" "turn" "[I", Cond.fieldLink RX6 22 "CutOnceModel" "further" "[I", Cond.methodLink RX6 120 yX6_sideAt, Cond.instanceMethod yX6_sideAt, Cond.selects RX6 yX6_sideAt yX6_sideAt, Cond.code yX6_sideAt cX6_sideAt 6 (some .int), Cond.fieldLink RX6 47 "CutOnceModel" "wide" "I", Cond.fieldLink RX6 51 "CutOnceModel" "high" "I", Cond.methodLink RX6 63 yX6_across, Cond.instanceMethod yX6_across, Cond.selects RX6 yX6_across yX6_across, Cond.code yX6_across cX6_across 1 (some .int), Cond.methodLink RX6 131 yX6_farOf]
def wsX6_meets_r2 : List Cond := [Cond.instanceMethod yX6_farOf, Cond.selects RX6 yX6_farOf yX6_farOf, Cond.code yX6_farOf cX6_farOf 7 (some .int), Cond.methodLink RX6 124 yX6_heightAt, Cond.instanceMethod yX6_heightAt, Cond.selects RX6 yX6_heightAt yX6_heightAt, Cond.code yX6_heightAt cX6_heightAt 5 (some .int), Cond.fieldLink RX6 7 "CutOnceModel" "heights" "[I", Cond.methodLink RX6 128 yX6_sizeOf, Cond.static yX6_sizeOf, Cond.code yX6_sizeOf cX6_sizeOf 1 (some .int)]
def wsX6_meets : List Cond := .code yX6_meets cX6_meets 5 (some .boolean) :: ((wsX6_meets_r1 ++ wsX6_meets_r2) ++ wsX60)
def wsX6_fits_r1 : List Cond := [Cond.fieldLink RX6 47 "CutOnceModel" "wide" "I", Cond.fieldLink RX6 51 "CutOnceModel" "high" "I", Cond.methodLink RX6 170 yX6_isFlat, Cond.instanceMethod yX6_isFlat, Cond.selects RX6 yX6_isFlat yX6_isFlat, Cond.initialized RX6, Cond.code yX6_isFlat cX6_isFlat 3 (some .boolean), Cond.fieldLink RX6 13 "CutOnceModel" "piece" "[I", Cond.fieldLink RX6 19 "CutOnceModel" "at" "[I", Cond.methodLink RX6 167 yX6_edgeOn, Cond.instanceMethod yX6_edgeOn, Cond.selects RX6 yX6_edgeOn yX6_edgeOn, Cond.code yX6_edgeOn cX6_edgeOn 3 (some .int), Cond.fieldLink RX6 16 "CutOnceModel" "turn" "[I", Cond.fieldLink RX6 22 "CutOnceModel" "further" "[I", Cond.methodLink RX6 120 yX6_sideAt, Cond.instanceMethod yX6_sideAt, Cond.selects RX6 yX6_sideAt yX6_sideAt, Cond.code yX6_sideAt cX6_sideAt 6 (some .int), Cond.methodLink RX6 63 yX6_across, Cond.instanceMethod yX6_across, Cond.selects RX6 yX6_across yX6_across, Cond.code yX6_across cX6_across 1 (some .int), Cond.methodLink RX6 173 yX6_meets]
def wsX6_fits_r2 : List Cond := [Cond.instanceMethod yX6_meets, Cond.selects RX6 yX6_meets yX6_meets, Cond.code yX6_meets cX6_meets 5 (some .boolean), Cond.methodLink RX6 131 yX6_farOf, Cond.instanceMethod yX6_farOf, Cond.selects RX6 yX6_farOf yX6_farOf, Cond.code yX6_farOf cX6_farOf 7 (some .int), Cond.methodLink RX6 124 yX6_heightAt, Cond.instanceMethod yX6_heightAt, Cond.selects RX6 yX6_heightAt yX6_heightAt, Cond.code yX6_heightAt cX6_heightAt 5 (some .int), Cond.fieldLink RX6 7 "CutOnceModel" "heights" "[I", Cond.methodLink RX6 128 yX6_sizeOf, Cond.static yX6_sizeOf, Cond.code yX6_sizeOf cX6_sizeOf 1 (some .int)]
def wsX6_fits : List Cond := .code yX6_fits cX6_fits 5 (some .boolean) :: ((wsX6_fits_r1 ++ wsX6_fits_r2) ++ wsX60)
def wsX6_search_r1 : List Cond := [Cond.fieldLink RX6 177 "CutOnceModel" "tried" "I", Cond.fieldLink RX6 180 "CutOnceModel" "found" "I", Cond.fieldLink RX6 25 "CutOnceModel" "isUsed" "[Z", Cond.fieldLink RX6 19 "CutOnceModel" "at" "[I", Cond.fieldLink RX6 22 "CutOnceModel" "further" "[I", Cond.fieldLink RX6 83 "CutOnceModel" "heaped" "I", Cond.constant RX6 183 (60000), Cond.methodLink RX6 184 yX6_fits, Cond.instanceMethod yX6_fits, Cond.selects RX6 yX6_fits yX6_fits, Cond.initialized RX6, Cond.code yX6_fits cX6_fits 5 (some .boolean), Cond.fieldLink RX6 47 "CutOnceModel" "wide" "I", Cond.fieldLink RX6 51 "CutOnceModel" "high" "I", Cond.methodLink RX6 170 yX6_isFlat, Cond.instanceMethod yX6_isFlat, Cond.selects RX6 yX6_isFlat yX6_isFlat, Cond.code yX6_isFlat cX6_isFlat 3 (some .boolean), Cond.fieldLink RX6 13 "CutOnceModel" "piece" "[I", Cond.methodLink RX6 167 yX6_edgeOn, Cond.instanceMethod yX6_edgeOn, Cond.selects RX6 yX6_edgeOn yX6_edgeOn, Cond.code yX6_edgeOn cX6_edgeOn 3 (some .int), Cond.fieldLink RX6 16 "CutOnceModel" "turn" "[I"]
def wsX6_search_r2 : List Cond := [Cond.methodLink RX6 120 yX6_sideAt, Cond.instanceMethod yX6_sideAt, Cond.selects RX6 yX6_sideAt yX6_sideAt, Cond.code yX6_sideAt cX6_sideAt 6 (some .int), Cond.methodLink RX6 63 yX6_across, Cond.instanceMethod yX6_across, Cond.selects RX6 yX6_across yX6_across, Cond.code yX6_across cX6_across 1 (some .int), Cond.methodLink RX6 173 yX6_meets, Cond.instanceMethod yX6_meets, Cond.selects RX6 yX6_meets yX6_meets, Cond.code yX6_meets cX6_meets 5 (some .boolean), Cond.methodLink RX6 131 yX6_farOf, Cond.instanceMethod yX6_farOf, Cond.selects RX6 yX6_farOf yX6_farOf, Cond.code yX6_farOf cX6_farOf 7 (some .int), Cond.methodLink RX6 124 yX6_heightAt, Cond.instanceMethod yX6_heightAt, Cond.selects RX6 yX6_heightAt yX6_heightAt, Cond.code yX6_heightAt cX6_heightAt 5 (some .int), Cond.fieldLink RX6 7 "CutOnceModel" "heights" "[I", Cond.methodLink RX6 128 yX6_sizeOf, Cond.static yX6_sizeOf, Cond.code yX6_sizeOf cX6_sizeOf 1 (some .int)]
def wsX6_search_r3 : List Cond := [Cond.methodLink RX6 74 yX6_pieces, Cond.instanceMethod yX6_pieces, Cond.selects RX6 yX6_pieces yX6_pieces, Cond.code yX6_pieces cX6_pieces 1 (some .int)]
def wsX6_search : List Cond := .code yX6_search cX6_search 3 (some .boolean) :: ((wsX6_search_r1 ++ (wsX6_search_r2 ++ wsX6_search_r3)) ++ wsX60)
def wsX6_ways_r1 : List Cond := [Cond.fieldLink RX6 180 "CutOnceModel" "found" "I", Cond.methodLink RX6 187 yX6_search, Cond.instanceMethod yX6_search, Cond.selects RX6 yX6_search yX6_search, Cond.initialized RX6, Cond.code yX6_search cX6_search 3 (some .boolean), Cond.fieldLink RX6 177 "CutOnceModel" "tried" "I", Cond.fieldLink RX6 25 "CutOnceModel" "isUsed" "[Z", Cond.fieldLink RX6 19 "CutOnceModel" "at" "[I", Cond.fieldLink RX6 22 "CutOnceModel" "further" "[I", Cond.fieldLink RX6 83 "CutOnceModel" "heaped" "I", Cond.constant RX6 183 (60000), Cond.methodLink RX6 184 yX6_fits, Cond.instanceMethod yX6_fits, Cond.selects RX6 yX6_fits yX6_fits, Cond.code yX6_fits cX6_fits 5 (some .boolean), Cond.fieldLink RX6 47 "CutOnceModel" "wide" "I", Cond.fieldLink RX6 51 "CutOnceModel" "high" "I", Cond.methodLink RX6 170 yX6_isFlat, Cond.instanceMethod yX6_isFlat, Cond.selects RX6 yX6_isFlat yX6_isFlat, Cond.code yX6_isFlat cX6_isFlat 3 (some .boolean), Cond.fieldLink RX6 13 "CutOnceModel" "piece" "[I", Cond.methodLink RX6 167 yX6_edgeOn]
def wsX6_ways_r2 : List Cond := [Cond.instanceMethod yX6_edgeOn, Cond.selects RX6 yX6_edgeOn yX6_edgeOn, Cond.code yX6_edgeOn cX6_edgeOn 3 (some .int), Cond.fieldLink RX6 16 "CutOnceModel" "turn" "[I", Cond.methodLink RX6 120 yX6_sideAt, Cond.instanceMethod yX6_sideAt, Cond.selects RX6 yX6_sideAt yX6_sideAt, Cond.code yX6_sideAt cX6_sideAt 6 (some .int), Cond.methodLink RX6 63 yX6_across, Cond.instanceMethod yX6_across, Cond.selects RX6 yX6_across yX6_across, Cond.code yX6_across cX6_across 1 (some .int), Cond.methodLink RX6 173 yX6_meets, Cond.instanceMethod yX6_meets, Cond.selects RX6 yX6_meets yX6_meets, Cond.code yX6_meets cX6_meets 5 (some .boolean), Cond.methodLink RX6 131 yX6_farOf, Cond.instanceMethod yX6_farOf, Cond.selects RX6 yX6_farOf yX6_farOf, Cond.code yX6_farOf cX6_farOf 7 (some .int), Cond.methodLink RX6 124 yX6_heightAt, Cond.instanceMethod yX6_heightAt, Cond.selects RX6 yX6_heightAt yX6_heightAt, Cond.code yX6_heightAt cX6_heightAt 5 (some .int)]
def wsX6_ways_r3 : List Cond := [Cond.fieldLink RX6 7 "CutOnceModel" "heights" "[I", Cond.methodLink RX6 128 yX6_sizeOf, Cond.static yX6_sizeOf, Cond.code yX6_sizeOf cX6_sizeOf 1 (some .int), Cond.methodLink RX6 74 yX6_pieces, Cond.instanceMethod yX6_pieces, Cond.selects RX6 yX6_pieces yX6_pieces, Cond.code yX6_pieces cX6_pieces 1 (some .int)]
def wsX6_ways : List Cond := .code yX6_ways cX6_ways 1 (some .int) :: ((wsX6_ways_r1 ++ (wsX6_ways_r2 ++ wsX6_ways_r3)) ++ wsX60)
def wsX6_join_r1 : List Cond := [Cond.fieldLink RX6 180 "CutOnceModel" "found" "I", Cond.fieldLink RX6 77 "CutOnceModel" "isJoined" "Z", Cond.fieldLink RX6 29 "CutOnceModel" "joinedAt" "[I", Cond.fieldLink RX6 19 "CutOnceModel" "at" "[I", Cond.fieldLink RX6 32 "CutOnceModel" "joinedTurn" "[I", Cond.fieldLink RX6 22 "CutOnceModel" "further" "[I", Cond.methodLink RX6 187 yX6_search, Cond.instanceMethod yX6_search, Cond.selects RX6 yX6_search yX6_search, Cond.initialized RX6, Cond.code yX6_search cX6_search 3 (some .boolean), Cond.fieldLink RX6 177 "CutOnceModel" "tried" "I", Cond.fieldLink RX6 25 "CutOnceModel" "isUsed" "[Z", Cond.fieldLink RX6 83 "CutOnceModel" "heaped" "I", Cond.constant RX6 183 (60000), Cond.methodLink RX6 184 yX6_fits, Cond.instanceMethod yX6_fits, Cond.selects RX6 yX6_fits yX6_fits, Cond.code yX6_fits cX6_fits 5 (some .boolean), Cond.fieldLink RX6 47 "CutOnceModel" "wide" "I", Cond.fieldLink RX6 51 "CutOnceModel" "high" "I", Cond.methodLink RX6 170 yX6_isFlat, Cond.instanceMethod yX6_isFlat, Cond.selects RX6 yX6_isFlat yX6_isFlat]
def wsX6_join_r2 : List Cond := [Cond.code yX6_isFlat cX6_isFlat 3 (some .boolean), Cond.fieldLink RX6 13 "CutOnceModel" "piece" "[I", Cond.methodLink RX6 167 yX6_edgeOn, Cond.instanceMethod yX6_edgeOn, Cond.selects RX6 yX6_edgeOn yX6_edgeOn, Cond.code yX6_edgeOn cX6_edgeOn 3 (some .int), Cond.fieldLink RX6 16 "CutOnceModel" "turn" "[I", Cond.methodLink RX6 120 yX6_sideAt, Cond.instanceMethod yX6_sideAt, Cond.selects RX6 yX6_sideAt yX6_sideAt, Cond.code yX6_sideAt cX6_sideAt 6 (some .int), Cond.methodLink RX6 63 yX6_across, Cond.instanceMethod yX6_across, Cond.selects RX6 yX6_across yX6_across, Cond.code yX6_across cX6_across 1 (some .int), Cond.methodLink RX6 173 yX6_meets, Cond.instanceMethod yX6_meets, Cond.selects RX6 yX6_meets yX6_meets, Cond.code yX6_meets cX6_meets 5 (some .boolean), Cond.methodLink RX6 131 yX6_farOf, Cond.instanceMethod yX6_farOf, Cond.selects RX6 yX6_farOf yX6_farOf, Cond.code yX6_farOf cX6_farOf 7 (some .int), Cond.methodLink RX6 124 yX6_heightAt]
def wsX6_join_r3 : List Cond := [Cond.instanceMethod yX6_heightAt, Cond.selects RX6 yX6_heightAt yX6_heightAt, Cond.code yX6_heightAt cX6_heightAt 5 (some .int), Cond.fieldLink RX6 7 "CutOnceModel" "heights" "[I", Cond.methodLink RX6 128 yX6_sizeOf, Cond.static yX6_sizeOf, Cond.code yX6_sizeOf cX6_sizeOf 1 (some .int), Cond.methodLink RX6 74 yX6_pieces, Cond.instanceMethod yX6_pieces, Cond.selects RX6 yX6_pieces yX6_pieces, Cond.code yX6_pieces cX6_pieces 1 (some .int)]
def wsX6_join : List Cond := .code yX6_join cX6_join 2 (some .int) :: ((wsX6_join_r1 ++ (wsX6_join_r2 ++ wsX6_join_r3)) ++ wsX60)
def wsX6_joined : List Cond := .code yX6_joined cX6_joined 3 (some .int) :: ([.fieldLink RX6 77 "CutOnceModel" "isJoined" "Z", .fieldLink RX6 29 "CutOnceModel" "joinedAt" "[I", .fieldLink RX6 32 "CutOnceModel" "joinedTurn" "[I", .methodLink RX6 115 yX6_noPiece, .instanceMethod yX6_noPiece, .selects RX6 yX6_noPiece yX6_noPiece, .initialized RX6, .code yX6_noPiece cX6_noPiece 2 (some .boolean), .methodLink RX6 74 yX6_pieces, .instanceMethod yX6_pieces, .selects RX6 yX6_pieces yX6_pieces, .code yX6_pieces cX6_pieces 1 (some .int), .fieldLink RX6 47 "CutOnceModel" "wide" "I", .fieldLink RX6 51 "CutOnceModel" "high" "I", .methodLink RX6 70 yX6_in, .static yX6_in, .code yX6_in cX6_in 6 (some .boolean)] ++ wsX60)
def wsX6_trials : List Cond := .code yX6_trials cX6_trials 1 (some .int) :: ([.fieldLink RX6 177 "CutOnceModel" "tried" "I"] ++ wsX60)
def wsX6_neighbour : List Cond := .code yX6_neighbour cX6_neighbour 3 (some .int) :: ([.fieldLink RX6 47 "CutOnceModel" "wide" "I"] ++ wsX60)
def wsX6_known_r1 : List Cond := [Cond.methodLink RX6 115 yX6_noPiece, Cond.instanceMethod yX6_noPiece, Cond.selects RX6 yX6_noPiece yX6_noPiece, Cond.initialized RX6, Cond.code yX6_noPiece cX6_noPiece 2 (some .boolean), Cond.methodLink RX6 74 yX6_pieces, Cond.instanceMethod yX6_pieces, Cond.selects RX6 yX6_pieces yX6_pieces, Cond.code yX6_pieces cX6_pieces 1 (some .int), Cond.fieldLink RX6 47 "CutOnceModel" "wide" "I", Cond.fieldLink RX6 51 "CutOnceModel" "high" "I", Cond.methodLink RX6 70 yX6_in, Cond.static yX6_in, Cond.code yX6_in cX6_in 6 (some .boolean), Cond.methodLink RX6 158 yX6_timesIn, Cond.instanceMethod yX6_timesIn, Cond.selects RX6 yX6_timesIn yX6_timesIn, Cond.code yX6_timesIn cX6_timesIn 4 (some .int), Cond.fieldLink RX6 83 "CutOnceModel" "heaped" "I", Cond.fieldLink RX6 13 "CutOnceModel" "piece" "[I", Cond.methodLink RX6 120 yX6_sideAt, Cond.instanceMethod yX6_sideAt, Cond.selects RX6 yX6_sideAt yX6_sideAt, Cond.code yX6_sideAt cX6_sideAt 6 (some .int)]
def wsX6_known_r2 : List Cond := [Cond.methodLink RX6 63 yX6_across, Cond.instanceMethod yX6_across, Cond.selects RX6 yX6_across yX6_across, Cond.code yX6_across cX6_across 1 (some .int), Cond.methodLink RX6 190 yX6_neighbour, Cond.instanceMethod yX6_neighbour, Cond.selects RX6 yX6_neighbour yX6_neighbour, Cond.code yX6_neighbour cX6_neighbour 3 (some .int)]
def wsX6_known : List Cond := .code yX6_known cX6_known 4 (some .int) :: ((wsX6_known_r1 ++ wsX6_known_r2) ++ wsX60)
def wsX6_noSheet : List Cond := .code yX6_noSheet cX6_noSheet 1 (some .boolean) :: ([.constantLong RX6 118 (3), .methodLink RX6 70 yX6_in, .static yX6_in, .initialized RX6, .code yX6_in cX6_in 6 (some .boolean)])
def wsX6_sheet : List Cond := .code yX6_sheet cX6_sheet 5 (some .int) :: ([.constantLong RX6 199 (2), .fieldLink RX6 35 "CutOnceModel" "sheetSize" "[I", .fieldLink RX6 38 "CutOnceModel" "sheetLane" "[I", .fieldLink RX6 41 "CutOnceModel" "sheet" "[I", .methodLink RX6 193 yX6_noSheet, .static yX6_noSheet, .initialized RX6, .code yX6_noSheet cX6_noSheet 1 (some .boolean), .constantLong RX6 118 (3), .methodLink RX6 70 yX6_in, .static yX6_in, .code yX6_in cX6_in 6 (some .boolean), .methodLink RX6 196 yX6_refused, .instanceMethod yX6_refused, .selects RX6 yX6_refused yX6_refused, .code yX6_refused cX6_refused 2 (some .int), .fieldLink RX6 56 "CutOnceModel" "fault" "I", .methodLink RX6 201 yX6_failed, .instanceMethod yX6_failed, .selects RX6 yX6_failed yX6_failed, .code yX6_failed cX6_failed 2 (some .int)] ++ wsX60)
def wsX6_lose : List Cond := .code yX6_lose cX6_lose 3 (some .int) :: ([.fieldLink RX6 35 "CutOnceModel" "sheetSize" "[I", .methodLink RX6 193 yX6_noSheet, .static yX6_noSheet, .initialized RX6, .code yX6_noSheet cX6_noSheet 1 (some .boolean), .constantLong RX6 118 (3), .methodLink RX6 70 yX6_in, .static yX6_in, .code yX6_in cX6_in 6 (some .boolean)] ++ wsX60)
def wsX6_noCell : List Cond := .code yX6_noCell cX6_noCell 3 (some .int) :: ([.fieldLink RX6 35 "CutOnceModel" "sheetSize" "[I", .methodLink RX6 70 yX6_in, .static yX6_in, .initialized RX6, .code yX6_in cX6_in 6 (some .boolean)] ++ wsX60)
def wsX6_put : List Cond := .code yX6_put cX6_put 4 (some .int) :: ([.fieldLink RX6 41 "CutOnceModel" "sheet" "[I", .fieldLink RX6 38 "CutOnceModel" "sheetLane" "[I", .methodLink RX6 193 yX6_noSheet, .static yX6_noSheet, .initialized RX6, .code yX6_noSheet cX6_noSheet 1 (some .boolean), .constantLong RX6 118 (3), .methodLink RX6 70 yX6_in, .static yX6_in, .code yX6_in cX6_in 6 (some .boolean), .methodLink RX6 196 yX6_refused, .instanceMethod yX6_refused, .selects RX6 yX6_refused yX6_refused, .code yX6_refused cX6_refused 2 (some .int), .fieldLink RX6 56 "CutOnceModel" "fault" "I", .methodLink RX6 204 yX6_noCell, .instanceMethod yX6_noCell, .selects RX6 yX6_noCell yX6_noCell, .code yX6_noCell cX6_noCell 3 (some .int), .fieldLink RX6 35 "CutOnceModel" "sheetSize" "[I", .methodLink RX6 201 yX6_failed, .instanceMethod yX6_failed, .selects RX6 yX6_failed yX6_failed, .code yX6_failed cX6_failed 2 (some .int)] ++ wsX60)
def wsX6_cell_r1 : List Cond := [Cond.fieldLink RX6 56 "CutOnceModel" "fault" "I", Cond.constantLong RX6 199 (2), Cond.fieldLink RX6 35 "CutOnceModel" "sheetSize" "[I", Cond.fieldLink RX6 38 "CutOnceModel" "sheetLane" "[I", Cond.fieldLink RX6 41 "CutOnceModel" "sheet" "[I", Cond.methodLink RX6 193 yX6_noSheet, Cond.static yX6_noSheet, Cond.initialized RX6, Cond.code yX6_noSheet cX6_noSheet 1 (some .boolean), Cond.constantLong RX6 118 (3), Cond.methodLink RX6 70 yX6_in, Cond.static yX6_in, Cond.code yX6_in cX6_in 6 (some .boolean), Cond.methodLink RX6 59 yX6_lost, Cond.static yX6_lost, Cond.code yX6_lost cX6_lost 0 (some .long), Cond.constantLong RX6 54 (-9223372036854775808), Cond.methodLink RX6 207 yX6_failedLong, Cond.instanceMethod yX6_failedLong, Cond.selects RX6 yX6_failedLong yX6_failedLong, Cond.code yX6_failedLong cX6_failedLong 2 (some .long), Cond.methodLink RX6 204 yX6_noCell, Cond.instanceMethod yX6_noCell, Cond.selects RX6 yX6_noCell yX6_noCell]
def wsX6_cell_r2 : List Cond := [Cond.code yX6_noCell cX6_noCell 3 (some .int)]
def wsX6_cell : List Cond := .code yX6_cell cX6_cell 4 (some .long) :: ((wsX6_cell_r1 ++ wsX6_cell_r2) ++ wsX60)
def wsX6_isBeyond : List Cond := .code yX6_isBeyond cX6_isBeyond 4 (some .boolean) :: ([])
def wsX6_copy : List Cond := .code yX6_copy cX6_copy 7 (some .int) :: ([.fieldLink RX6 35 "CutOnceModel" "sheetSize" "[I", .fieldLink RX6 38 "CutOnceModel" "sheetLane" "[I", .fieldLink RX6 44 "CutOnceModel" "hands" "[I", .fieldLink RX6 41 "CutOnceModel" "sheet" "[I", .methodLink RX6 193 yX6_noSheet, .static yX6_noSheet, .initialized RX6, .code yX6_noSheet cX6_noSheet 1 (some .boolean), .constantLong RX6 118 (3), .methodLink RX6 70 yX6_in, .static yX6_in, .code yX6_in cX6_in 6 (some .boolean), .methodLink RX6 196 yX6_refused, .instanceMethod yX6_refused, .selects RX6 yX6_refused yX6_refused, .code yX6_refused cX6_refused 2 (some .int), .fieldLink RX6 56 "CutOnceModel" "fault" "I", .methodLink RX6 201 yX6_failed, .instanceMethod yX6_failed, .selects RX6 yX6_failed yX6_failed, .code yX6_failed cX6_failed 2 (some .int), .methodLink RX6 211 yX6_isBeyond, .static yX6_isBeyond, .code yX6_isBeyond cX6_isBeyond 4 (some .boolean)] ++ wsX60)
def wsX6_shape_r1 : List Cond := [Cond.constantLong RX6 199 (2), Cond.fieldLink RX6 35 "CutOnceModel" "sheetSize" "[I", Cond.fieldLink RX6 38 "CutOnceModel" "sheetLane" "[I", Cond.constantLong RX6 81 (5), Cond.fieldLink RX6 41 "CutOnceModel" "sheet" "[I", Cond.constantLong RX6 111 (-9), Cond.constantLong RX6 113 (9), Cond.fieldLink RX6 7 "CutOnceModel" "heights" "[I", Cond.methodLink RX6 193 yX6_noSheet, Cond.static yX6_noSheet, Cond.initialized RX6, Cond.code yX6_noSheet cX6_noSheet 1 (some .boolean), Cond.constantLong RX6 118 (3), Cond.methodLink RX6 70 yX6_in, Cond.static yX6_in, Cond.code yX6_in cX6_in 6 (some .boolean), Cond.methodLink RX6 105 yX6_noSide, Cond.instanceMethod yX6_noSide, Cond.selects RX6 yX6_noSide yX6_noSide, Cond.code yX6_noSide cX6_noSide 2 (some .boolean), Cond.methodLink RX6 67 yX6_sides, Cond.instanceMethod yX6_sides, Cond.selects RX6 yX6_sides yX6_sides, Cond.code yX6_sides cX6_sides 1 (some .int)]
def wsX6_shape_r2 : List Cond := [Cond.fieldLink RX6 47 "CutOnceModel" "wide" "I", Cond.fieldLink RX6 51 "CutOnceModel" "high" "I", Cond.methodLink RX6 63 yX6_across, Cond.instanceMethod yX6_across, Cond.selects RX6 yX6_across yX6_across, Cond.code yX6_across cX6_across 1 (some .int), Cond.methodLink RX6 196 yX6_refused, Cond.instanceMethod yX6_refused, Cond.selects RX6 yX6_refused yX6_refused, Cond.code yX6_refused cX6_refused 2 (some .int), Cond.fieldLink RX6 56 "CutOnceModel" "fault" "I", Cond.methodLink RX6 201 yX6_failed, Cond.instanceMethod yX6_failed, Cond.selects RX6 yX6_failed yX6_failed, Cond.code yX6_failed cX6_failed 2 (some .int), Cond.methodLink RX6 211 yX6_isBeyond, Cond.static yX6_isBeyond, Cond.code yX6_isBeyond cX6_isBeyond 4 (some .boolean), Cond.methodLink RX6 86 yX6_changed, Cond.instanceMethod yX6_changed, Cond.selects RX6 yX6_changed yX6_changed, Cond.code yX6_changed cX6_changed 1 none, Cond.fieldLink RX6 77 "CutOnceModel" "isJoined" "Z"]
def wsX6_shape : List Cond := .code yX6_shape cX6_shape 7 (some .int) :: ((wsX6_shape_r1 ++ wsX6_shape_r2) ++ wsX60)
def wsX6_traced : List Cond := .code yX6_traced cX6_traced 2 none :: ([.fieldLink RX6 215 "CutOnceModel" "trace" "I"] ++ wsX60)
def wsX6_tell_r1 : List Cond := [Cond.fieldLink RX6 7 "CutOnceModel" "heights" "[I", Cond.methodLink RX6 105 yX6_noSide, Cond.instanceMethod yX6_noSide, Cond.selects RX6 yX6_noSide yX6_noSide, Cond.initialized RX6, Cond.code yX6_noSide cX6_noSide 2 (some .boolean), Cond.methodLink RX6 67 yX6_sides, Cond.instanceMethod yX6_sides, Cond.selects RX6 yX6_sides yX6_sides, Cond.code yX6_sides cX6_sides 1 (some .int), Cond.fieldLink RX6 47 "CutOnceModel" "wide" "I", Cond.fieldLink RX6 51 "CutOnceModel" "high" "I", Cond.methodLink RX6 63 yX6_across, Cond.instanceMethod yX6_across, Cond.selects RX6 yX6_across yX6_across, Cond.code yX6_across cX6_across 1 (some .int), Cond.methodLink RX6 70 yX6_in, Cond.static yX6_in, Cond.code yX6_in cX6_in 6 (some .boolean), Cond.methodLink RX6 142 yX6_kindOf, Cond.instanceMethod yX6_kindOf, Cond.selects RX6 yX6_kindOf yX6_kindOf, Cond.code yX6_kindOf cX6_kindOf 3 (some .int), Cond.methodLink RX6 135 yX6_isBulge]
def wsX6_tell_r2 : List Cond := [Cond.instanceMethod yX6_isBulge, Cond.selects RX6 yX6_isBulge yX6_isBulge, Cond.code yX6_isBulge cX6_isBulge 5 (some .boolean), Cond.methodLink RX6 138 yX6_isLike, Cond.instanceMethod yX6_isLike, Cond.selects RX6 yX6_isLike yX6_isLike, Cond.code yX6_isLike cX6_isLike 6 (some .boolean), Cond.methodLink RX6 218 yX6_traced, Cond.instanceMethod yX6_traced, Cond.selects RX6 yX6_traced yX6_traced, Cond.code yX6_traced cX6_traced 2 none, Cond.fieldLink RX6 215 "CutOnceModel" "trace" "I"]
def wsX6_tell : List Cond := .code yX6_tell cX6_tell 5 (some .int) :: ((wsX6_tell_r1 ++ wsX6_tell_r2) ++ wsX60)
def wsX6_mark_r1 : List Cond := [Cond.methodLink RX6 105 yX6_noSide, Cond.instanceMethod yX6_noSide, Cond.selects RX6 yX6_noSide yX6_noSide, Cond.initialized RX6, Cond.code yX6_noSide cX6_noSide 2 (some .boolean), Cond.methodLink RX6 67 yX6_sides, Cond.instanceMethod yX6_sides, Cond.selects RX6 yX6_sides yX6_sides, Cond.code yX6_sides cX6_sides 1 (some .int), Cond.fieldLink RX6 47 "CutOnceModel" "wide" "I", Cond.fieldLink RX6 51 "CutOnceModel" "high" "I", Cond.methodLink RX6 63 yX6_across, Cond.instanceMethod yX6_across, Cond.selects RX6 yX6_across yX6_across, Cond.code yX6_across cX6_across 1 (some .int), Cond.methodLink RX6 70 yX6_in, Cond.static yX6_in, Cond.code yX6_in cX6_in 6 (some .boolean), Cond.methodLink RX6 142 yX6_kindOf, Cond.instanceMethod yX6_kindOf, Cond.selects RX6 yX6_kindOf yX6_kindOf, Cond.code yX6_kindOf cX6_kindOf 3 (some .int), Cond.methodLink RX6 135 yX6_isBulge, Cond.instanceMethod yX6_isBulge]
def wsX6_mark_r2 : List Cond := [Cond.selects RX6 yX6_isBulge yX6_isBulge, Cond.code yX6_isBulge cX6_isBulge 5 (some .boolean), Cond.fieldLink RX6 7 "CutOnceModel" "heights" "[I", Cond.methodLink RX6 138 yX6_isLike, Cond.instanceMethod yX6_isLike, Cond.selects RX6 yX6_isLike yX6_isLike, Cond.code yX6_isLike cX6_isLike 6 (some .boolean), Cond.methodLink RX6 218 yX6_traced, Cond.instanceMethod yX6_traced, Cond.selects RX6 yX6_traced yX6_traced, Cond.code yX6_traced cX6_traced 2 none, Cond.fieldLink RX6 215 "CutOnceModel" "trace" "I"]
def wsX6_mark : List Cond := .code yX6_mark cX6_mark 3 (some .int) :: ((wsX6_mark_r1 ++ wsX6_mark_r2) ++ wsX60)
def wsX6_as_r1 : List Cond := [Cond.constantLong RX6 199 (2), Cond.methodLink RX6 105 yX6_noSide, Cond.instanceMethod yX6_noSide, Cond.selects RX6 yX6_noSide yX6_noSide, Cond.initialized RX6, Cond.code yX6_noSide cX6_noSide 2 (some .boolean), Cond.methodLink RX6 67 yX6_sides, Cond.instanceMethod yX6_sides, Cond.selects RX6 yX6_sides yX6_sides, Cond.code yX6_sides cX6_sides 1 (some .int), Cond.fieldLink RX6 47 "CutOnceModel" "wide" "I", Cond.fieldLink RX6 51 "CutOnceModel" "high" "I", Cond.methodLink RX6 63 yX6_across, Cond.instanceMethod yX6_across, Cond.selects RX6 yX6_across yX6_across, Cond.code yX6_across cX6_across 1 (some .int), Cond.methodLink RX6 70 yX6_in, Cond.static yX6_in, Cond.code yX6_in cX6_in 6 (some .boolean), Cond.methodLink RX6 196 yX6_refused, Cond.instanceMethod yX6_refused, Cond.selects RX6 yX6_refused yX6_refused, Cond.code yX6_refused cX6_refused 2 (some .int), Cond.fieldLink RX6 56 "CutOnceModel" "fault" "I"]
def wsX6_as_r2 : List Cond := [Cond.methodLink RX6 142 yX6_kindOf, Cond.instanceMethod yX6_kindOf, Cond.selects RX6 yX6_kindOf yX6_kindOf, Cond.code yX6_kindOf cX6_kindOf 3 (some .int), Cond.methodLink RX6 135 yX6_isBulge, Cond.instanceMethod yX6_isBulge, Cond.selects RX6 yX6_isBulge yX6_isBulge, Cond.code yX6_isBulge cX6_isBulge 5 (some .boolean), Cond.fieldLink RX6 7 "CutOnceModel" "heights" "[I", Cond.methodLink RX6 138 yX6_isLike, Cond.instanceMethod yX6_isLike, Cond.selects RX6 yX6_isLike yX6_isLike, Cond.code yX6_isLike cX6_isLike 6 (some .boolean), Cond.methodLink RX6 201 yX6_failed, Cond.instanceMethod yX6_failed, Cond.selects RX6 yX6_failed yX6_failed, Cond.code yX6_failed cX6_failed 2 (some .int)]
def wsX6_as : List Cond := .code yX6_as cX6_as 3 (some .int) :: ((wsX6_as_r1 ++ wsX6_as_r2) ++ wsX60)
def wsX6_trace : List Cond := .code yX6_trace cX6_trace 1 (some .int) :: ([.fieldLink RX6 215 "CutOnceModel" "trace" "I"] ++ wsX60)
def wsX6_fault : List Cond := .code yX6_fault cX6_fault 1 (some .int) :: ([.fieldLink RX6 56 "CutOnceModel" "fault" "I"] ++ wsX60)
def wsX6_told : List Cond := .code yX6_told cX6_told 2 (some .int) :: ([.fieldLink RX6 47 "CutOnceModel" "wide" "I", .fieldLink RX6 51 "CutOnceModel" "high" "I", .fieldLink RX6 83 "CutOnceModel" "heaped" "I", .methodLink RX6 74 yX6_pieces, .instanceMethod yX6_pieces, .selects RX6 yX6_pieces yX6_pieces, .initialized RX6, .code yX6_pieces cX6_pieces 1 (some .int), .methodLink RX6 67 yX6_sides, .instanceMethod yX6_sides, .selects RX6 yX6_sides yX6_sides, .code yX6_sides cX6_sides 1 (some .int), .methodLink RX6 63 yX6_across, .instanceMethod yX6_across, .selects RX6 yX6_across yX6_across, .code yX6_across cX6_across 1 (some .int)] ++ wsX60)
def wsJ9_abs_0f7a4 : List Cond := .code yJ9_abs_0f7a4 cJ9_abs_0f7a4 1 (some .int) :: ([])
def wsJ9_max_7cf53 : List Cond := .code yJ9_max_7cf53 cJ9_max_7cf53 2 (some .int) :: ([])
def wsJ9_min_7cf53 : List Cond := .code yJ9_min_7cf53 cJ9_min_7cf53 2 (some .int) :: ([])
def wsL_law_r1 : List Cond := [Cond.classLink RL 7 RX5, Cond.instantiable RX5 7, Cond.initialized RX5, Cond.classLink RL 10 RX6, Cond.instantiable RX6 23, Cond.initialized RX6, Cond.constantLong RL 18 (4294967295), Cond.methodLink RL 9 yX5_init, Cond.instanceMethod yX5_init, Cond.code yX5_init cX5_init 2 none, Cond.methodLink RX5 3 objectInit, Cond.instanceMethod objectInit, Cond.code objectInit ⟨#[0xb1]⟩ 1 none, Cond.classLink RX5 9 RX1, Cond.instantiable RX1 4, Cond.initialized RX1, Cond.fieldLink RX5 12 "CutOnce" "thePicture" "LCutOnce$Picture;", Cond.classLink RX5 18 RX2, Cond.instantiable RX2 3, Cond.initialized RX2, Cond.fieldLink RX5 21 "CutOnce" "thePile" "LCutOnce$Pile;", Cond.classLink RX5 25 RX3, Cond.instantiable RX3 13, Cond.initialized RX3]
def wsL_law_r2 : List Cond := [Cond.fieldLink RX5 30 "CutOnce" "theSearch" "LCutOnce$Search;", Cond.classLink RX5 34 RX0, Cond.instantiable RX0 1, Cond.initialized RX0, Cond.fieldLink RX5 37 "CutOnce" "theDraw" "LCutOnce$Draw;", Cond.classLink RX5 41 RX4, Cond.fieldLink RX5 43 "CutOnce" "sheets" "[LCutOnce$Sheet;", Cond.instantiable RX4 4, Cond.initialized RX4, Cond.methodLink RX5 11 yX1_init, Cond.instanceMethod yX1_init, Cond.code yX1_init cX1_init 1 none, Cond.methodLink RX1 3 objectInit, Cond.arrayClass .int, Cond.fieldLink RX1 9 "CutOnce$Picture" "heights" "[I", Cond.fieldLink RX1 15 "CutOnce$Picture" "sideOfEdge" "[I", Cond.methodLink RX1 18 yX1_cutAnew, Cond.instanceMethod yX1_cutAnew, Cond.selects RX1 yX1_cutAnew yX1_cutAnew, Cond.code yX1_cutAnew cX1_cutAnew 5 none, Cond.fieldLink RX1 22 "CutOnce$Picture" "w" "I", Cond.fieldLink RX1 26 "CutOnce$Picture" "h" "I", Cond.methodLink RX1 29 yX1_layEdges, Cond.instanceMethod yX1_layEdges]
def wsL_law_r3 : List Cond := [Cond.selects RX1 yX1_layEdges yX1_layEdges, Cond.code yX1_layEdges cX1_layEdges 6 none, Cond.instanceMethod yX2_init, Cond.code yX2_init cX2_init 1 none, Cond.methodLink RX2 3 objectInit, Cond.fieldLink RX2 9 "CutOnce$Pile" "pieceOf" "[I", Cond.fieldLink RX2 15 "CutOnce$Pile" "turnOf" "[I", Cond.methodLink RX5 27 yX3_init, Cond.instanceMethod yX3_init, Cond.code yX3_init cX3_init 3 none, Cond.methodLink RX3 3 objectInit, Cond.fieldLink RX3 9 "CutOnce$Search" "shown" "[I", Cond.fieldLink RX3 15 "CutOnce$Search" "fitting" "[I", Cond.fieldLink RX3 18 "CutOnce$Search" "wanted" "[I", Cond.arrayClass .boolean, Cond.fieldLink RX3 21 "CutOnce$Search" "used" "[Z", Cond.fieldLink RX3 25 "CutOnce$Search" "lying" "[I", Cond.fieldLink RX3 28 "CutOnce$Search" "joinedLying" "[I", Cond.fieldLink RX3 31 "CutOnce$Search" "goal" "LCutOnce$Picture;", Cond.fieldLink RX3 35 "CutOnce$Search" "pile" "LCutOnce$Pile;", Cond.instanceMethod yX0_init, Cond.code yX0_init cX0_init 1 none, Cond.methodLink RX0 1 objectInit, Cond.instanceMethod yX4_init]
def wsL_law_r4 : List Cond := [Cond.code yX4_init cX4_init 1 none, Cond.methodLink RX4 3 objectInit, Cond.fieldLink RX4 9 "CutOnce$Sheet" "cells" "[I", Cond.methodLink RL 12 yX6_init, Cond.instanceMethod yX6_init, Cond.code yX6_init cX6_init 2 none, Cond.methodLink RX6 1 objectInit, Cond.fieldLink RX6 7 "CutOnceModel" "heights" "[I", Cond.fieldLink RX6 13 "CutOnceModel" "piece" "[I", Cond.fieldLink RX6 16 "CutOnceModel" "turn" "[I", Cond.fieldLink RX6 19 "CutOnceModel" "at" "[I", Cond.fieldLink RX6 22 "CutOnceModel" "further" "[I", Cond.fieldLink RX6 25 "CutOnceModel" "isUsed" "[Z", Cond.fieldLink RX6 29 "CutOnceModel" "joinedAt" "[I", Cond.fieldLink RX6 32 "CutOnceModel" "joinedTurn" "[I", Cond.fieldLink RX6 35 "CutOnceModel" "sheetSize" "[I", Cond.fieldLink RX6 38 "CutOnceModel" "sheetLane" "[I", Cond.fieldLink RX6 41 "CutOnceModel" "sheet" "[I", Cond.fieldLink RX6 44 "CutOnceModel" "hands" "[I", Cond.fieldLink RX6 47 "CutOnceModel" "wide" "I", Cond.fieldLink RX6 51 "CutOnceModel" "high" "I", Cond.methodLink RL 13 yX5_picture, Cond.instanceMethod yX5_picture, Cond.selects RX5 yX5_picture yX5_picture]
def wsL_law_r5 : List Cond := [Cond.code yX5_picture cX5_picture 3 (some .int), Cond.methodLink RX5 48 yX1_cutAnew, Cond.methodLink RX5 52 yX2_clearAll, Cond.instanceMethod yX2_clearAll, Cond.selects RX2 yX2_clearAll yX2_clearAll, Cond.code yX2_clearAll cX2_clearAll 1 none, Cond.fieldLink RX2 18 "CutOnce$Pile" "count" "I", Cond.methodLink RX5 55 yX3_forgetJoined, Cond.instanceMethod yX3_forgetJoined, Cond.selects RX3 yX3_forgetJoined yX3_forgetJoined, Cond.code yX3_forgetJoined cX3_forgetJoined 1 none, Cond.fieldLink RX3 43 "CutOnce$Search" "joinedOnce" "Z", Cond.methodLink RX5 58 yX1_sides, Cond.instanceMethod yX1_sides, Cond.selects RX1 yX1_sides yX1_sides, Cond.code yX1_sides cX1_sides 1 (some .int), Cond.methodLink RL 17 yX6_picture, Cond.instanceMethod yX6_picture, Cond.selects RX6 yX6_picture yX6_picture, Cond.code yX6_picture cX6_picture 4 (some .int), Cond.constantLong RX6 81 (5), Cond.fieldLink RX6 83 "CutOnceModel" "heaped" "I", Cond.methodLink RX6 70 yX6_in, Cond.static yX6_in]
def wsL_law_r6 : List Cond := [Cond.code yX6_in cX6_in 6 (some .boolean), Cond.methodLink RX6 86 yX6_changed, Cond.instanceMethod yX6_changed, Cond.selects RX6 yX6_changed yX6_changed, Cond.code yX6_changed cX6_changed 1 none, Cond.fieldLink RX6 77 "CutOnceModel" "isJoined" "Z", Cond.methodLink RX6 67 yX6_sides, Cond.instanceMethod yX6_sides, Cond.selects RX6 yX6_sides yX6_sides, Cond.code yX6_sides cX6_sides 1 (some .int), Cond.methodLink RX6 63 yX6_across, Cond.instanceMethod yX6_across, Cond.selects RX6 yX6_across yX6_across, Cond.code yX6_across cX6_across 1 (some .int), Cond.methodLink RL 20 yX5_make, Cond.instanceMethod yX5_make, Cond.selects RX5 yX5_make yX5_make, Cond.code yX5_make cX5_make 5 (some .int), Cond.methodLink RX5 62 yX0_begin, Cond.instanceMethod yX0_begin, Cond.selects RX0 yX0_begin yX0_begin, Cond.code yX0_begin cX0_begin 3 none, Cond.fieldLink RX0 7 "CutOnce$Draw" "now" "J", Cond.methodLink RX5 66 yX0_below]
def wsL_law_r7 : List Cond := [Cond.instanceMethod yX0_below, Cond.selects RX0 yX0_below yX0_below, Cond.code yX0_below cX0_below 2 (some .int), Cond.constantLong RX0 13 (6364136223846793005), Cond.constantLong RX0 15 (1442695040888963407), Cond.constantLong RX0 17 (2147483647), Cond.constantLong RX0 19 (4096), Cond.methodLink RX5 70 yX1_setHeight, Cond.instanceMethod yX1_setHeight, Cond.selects RX1 yX1_setHeight yX1_setHeight, Cond.code yX1_setHeight cX1_setHeight 5 none, Cond.methodLink RL 24 yX6_make, Cond.instanceMethod yX6_make, Cond.selects RX6 yX6_make yX6_make, Cond.code yX6_make cX6_make 4 (some .int), Cond.fieldLink RX6 89 "CutOnceModel" "draw" "J", Cond.methodLink RX6 101 yX6_numberBelow, Cond.instanceMethod yX6_numberBelow, Cond.selects RX6 yX6_numberBelow yX6_numberBelow, Cond.code yX6_numberBelow cX6_numberBelow 2 (some .int), Cond.constantLong RX6 93 (6364136223846793005), Cond.constantLong RX6 95 (1442695040888963407), Cond.constantLong RX6 97 (2147483647), Cond.constantLong RX6 99 (4096)]
def wsL_law_r8 : List Cond := [Cond.methodLink RL 25 yX5_bend, Cond.instanceMethod yX5_bend, Cond.selects RX5 yX5_bend yX5_bend, Cond.code yX5_bend cX5_bend 5 (some .long), Cond.constantLong RX5 84 (-9223372036854775808), Cond.methodLink RX5 74 yX1_hasSide, Cond.instanceMethod yX1_hasSide, Cond.selects RX1 yX1_hasSide yX1_hasSide, Cond.code yX1_hasSide cX1_hasSide 2 (some .boolean), Cond.methodLink RX1 32 yX1_sides, Cond.methodLink RX5 78 yX5_isHeightPlace, Cond.static yX5_isHeightPlace, Cond.code yX5_isHeightPlace cX5_isHeightPlace 1 (some .boolean), Cond.methodLink RX5 81 yX5_isHeight, Cond.static yX5_isHeight, Cond.code yX5_isHeight cX5_isHeight 1 (some .boolean), Cond.methodLink RX5 86 yX1_heightAt, Cond.instanceMethod yX1_heightAt, Cond.selects RX1 yX1_heightAt yX1_heightAt, Cond.code yX1_heightAt cX1_heightAt 5 (some .int), Cond.methodLink RL 29 yX6_bend, Cond.instanceMethod yX6_bend, Cond.selects RX6 yX6_bend yX6_bend, Cond.code yX6_bend cX6_bend 6 (some .long)]
def wsL_law_r9 : List Cond := [Cond.constantLong RX6 109 (4), Cond.constantLong RX6 111 (-9), Cond.constantLong RX6 113 (9), Cond.methodLink RX6 105 yX6_noSide, Cond.instanceMethod yX6_noSide, Cond.selects RX6 yX6_noSide yX6_noSide, Cond.code yX6_noSide cX6_noSide 2 (some .boolean), Cond.methodLink RX6 59 yX6_lost, Cond.static yX6_lost, Cond.code yX6_lost cX6_lost 0 (some .long), Cond.constantLong RX6 54 (-9223372036854775808), Cond.methodLink RL 30 yX5_height, Cond.instanceMethod yX5_height, Cond.selects RX5 yX5_height yX5_height, Cond.code yX5_height cX5_height 3 (some .long), Cond.methodLink RL 34 yX6_height, Cond.instanceMethod yX6_height, Cond.selects RX6 yX6_height yX6_height, Cond.code yX6_height cX6_height 3 (some .long), Cond.methodLink RL 35 yX5_shape, Cond.instanceMethod yX5_shape, Cond.selects RX5 yX5_shape yX5_shape, Cond.code yX5_shape cX5_shape 7 (some .int), Cond.fieldLink RX5 90 "CutOnce" "latestFault" "I"]
def wsL_law_r10 : List Cond := [Cond.constantLong RX5 110 (5), Cond.methodLink RX5 94 yX5_isSheet, Cond.static yX5_isSheet, Cond.code yX5_isSheet cX5_isSheet 1 (some .boolean), Cond.methodLink RX5 97 yX5_isLane, Cond.static yX5_isLane, Cond.code yX5_isLane cX5_isLane 1 (some .boolean), Cond.methodLink RX5 100 yX4_isOfOther, Cond.instanceMethod yX4_isOfOther, Cond.selects RX4 yX4_isOfOther yX4_isOfOther, Cond.code yX4_isOfOther cX4_isOfOther 2 (some .boolean), Cond.fieldLink RX4 15 "CutOnce$Sheet" "there" "Z", Cond.fieldLink RX4 19 "CutOnce$Sheet" "lane" "I", Cond.methodLink RX5 103 yX5_come, Cond.instanceMethod yX5_come, Cond.selects RX5 yX5_come yX5_come, Cond.code yX5_come cX5_come 2 (some .int), Cond.methodLink RX5 106 yX4_isThere, Cond.instanceMethod yX4_isThere, Cond.selects RX4 yX4_isThere yX4_isThere, Cond.code yX4_isThere cX4_isThere 1 (some .boolean), Cond.methodLink RX5 112 yX4_holds, Cond.instanceMethod yX4_holds, Cond.selects RX4 yX4_holds yX4_holds]
def wsL_law_r11 : List Cond := [Cond.code yX4_holds cX4_holds 4 (some .boolean), Cond.fieldLink RX4 32 "CutOnce$Sheet" "length" "I", Cond.methodLink RX5 116 yX5_areHeights, Cond.static yX5_areHeights, Cond.code yX5_areHeights cX5_areHeights 4 (some .boolean), Cond.methodLink RX5 234 yX4_read, Cond.instanceMethod yX4_read, Cond.selects RX4 yX4_read yX4_read, Cond.code yX4_read cX4_read 2 (some .int), Cond.methodLink RX4 35 yX4_holds, Cond.methodLink RX5 120 yX5_shapeFrom, Cond.instanceMethod yX5_shapeFrom, Cond.selects RX5 yX5_shapeFrom yX5_shapeFrom, Cond.code yX5_shapeFrom cX5_shapeFrom 7 none, Cond.methodLink RL 39 yX6_shape, Cond.instanceMethod yX6_shape, Cond.selects RX6 yX6_shape yX6_shape, Cond.code yX6_shape cX6_shape 7 (some .int), Cond.constantLong RX6 199 (2), Cond.methodLink RX6 193 yX6_noSheet, Cond.static yX6_noSheet, Cond.code yX6_noSheet cX6_noSheet 1 (some .boolean), Cond.constantLong RX6 118 (3), Cond.methodLink RX6 196 yX6_refused]
def wsL_law_r12 : List Cond := [Cond.instanceMethod yX6_refused, Cond.selects RX6 yX6_refused yX6_refused, Cond.code yX6_refused cX6_refused 2 (some .int), Cond.fieldLink RX6 56 "CutOnceModel" "fault" "I", Cond.methodLink RX6 201 yX6_failed, Cond.instanceMethod yX6_failed, Cond.selects RX6 yX6_failed yX6_failed, Cond.code yX6_failed cX6_failed 2 (some .int), Cond.methodLink RX6 211 yX6_isBeyond, Cond.static yX6_isBeyond, Cond.code yX6_isBeyond cX6_isBeyond 4 (some .boolean), Cond.methodLink RL 40 yX5_sideOf, Cond.instanceMethod yX5_sideOf, Cond.selects RX5 yX5_sideOf yX5_sideOf, Cond.code yX5_sideOf cX5_sideOf 3 (some .int), Cond.methodLink RX5 124 yX1_hasEdge, Cond.instanceMethod yX1_hasEdge, Cond.selects RX1 yX1_hasEdge yX1_hasEdge, Cond.code yX1_hasEdge cX1_hasEdge 3 (some .boolean), Cond.methodLink RX1 39 yX1_hasPiece, Cond.instanceMethod yX1_hasPiece, Cond.selects RX1 yX1_hasPiece yX1_hasPiece, Cond.code yX1_hasPiece cX1_hasPiece 2 (some .boolean), Cond.methodLink RX1 36 yX1_pieces]
def wsL_law_r13 : List Cond := [Cond.instanceMethod yX1_pieces, Cond.selects RX1 yX1_pieces yX1_pieces, Cond.code yX1_pieces cX1_pieces 1 (some .int), Cond.methodLink RX5 128 yX1_sideAt, Cond.instanceMethod yX1_sideAt, Cond.selects RX1 yX1_sideAt yX1_sideAt, Cond.code yX1_sideAt cX1_sideAt 4 (some .int), Cond.methodLink RL 43 yX6_sideOf, Cond.instanceMethod yX6_sideOf, Cond.selects RX6 yX6_sideOf yX6_sideOf, Cond.code yX6_sideOf cX6_sideOf 3 (some .int), Cond.methodLink RX6 115 yX6_noPiece, Cond.instanceMethod yX6_noPiece, Cond.selects RX6 yX6_noPiece yX6_noPiece, Cond.code yX6_noPiece cX6_noPiece 2 (some .boolean), Cond.methodLink RX6 74 yX6_pieces, Cond.instanceMethod yX6_pieces, Cond.selects RX6 yX6_pieces yX6_pieces, Cond.code yX6_pieces cX6_pieces 1 (some .int), Cond.methodLink RX6 120 yX6_sideAt, Cond.instanceMethod yX6_sideAt, Cond.selects RX6 yX6_sideAt yX6_sideAt, Cond.code yX6_sideAt cX6_sideAt 6 (some .int), Cond.methodLink RL 44 yX5_edge]
def wsL_law_r14 : List Cond := [Cond.instanceMethod yX5_edge, Cond.selects RX5 yX5_edge yX5_edge, Cond.code yX5_edge cX5_edge 4 (some .long), Cond.methodLink RX5 132 yX1_isFlat, Cond.instanceMethod yX1_isFlat, Cond.selects RX1 yX1_isFlat yX1_isFlat, Cond.code yX1_isFlat cX1_isFlat 3 (some .boolean), Cond.methodLink RX1 43 yX1_sideAt, Cond.methodLink RX5 135 yX1_edgeHeight, Cond.instanceMethod yX1_edgeHeight, Cond.selects RX1 yX1_edgeHeight yX1_edgeHeight, Cond.code yX1_edgeHeight cX1_edgeHeight 5 (some .int), Cond.methodLink RX1 47 yX1_heightAt, Cond.methodLink RL 47 yX6_edge, Cond.instanceMethod yX6_edge, Cond.selects RX6 yX6_edge yX6_edge, Cond.code yX6_edge cX6_edge 4 (some .long), Cond.methodLink RX6 124 yX6_heightAt, Cond.instanceMethod yX6_heightAt, Cond.selects RX6 yX6_heightAt yX6_heightAt, Cond.code yX6_heightAt cX6_heightAt 5 (some .int), Cond.methodLink RL 48 yX5_far, Cond.instanceMethod yX5_far, Cond.selects RX5 yX5_far yX5_far]
def wsL_law_r15 : List Cond := [Cond.code yX5_far cX5_far 5 (some .int), Cond.methodLink RX5 138 yX1_farness, Cond.instanceMethod yX1_farness, Cond.selects RX1 yX1_farness yX1_farness, Cond.code yX1_farness cX1_farness 7 (some .int), Cond.methodLink RX1 54 Lib.Math.abs.name, Cond.static Lib.Math.abs.name, Cond.initialized "java/lang/Math", Cond.code Lib.Math.abs.name Lib.Math.abs.code 1 (some .int), Cond.methodLink RX1 51 yX1_edgeHeight, Cond.methodLink RL 52 yX6_far, Cond.instanceMethod yX6_far, Cond.selects RX6 yX6_far yX6_far, Cond.code yX6_far cX6_far 5 (some .int), Cond.methodLink RX6 131 yX6_farOf, Cond.instanceMethod yX6_farOf, Cond.selects RX6 yX6_farOf yX6_farOf, Cond.code yX6_farOf cX6_farOf 7 (some .int), Cond.methodLink RX6 128 yX6_sizeOf, Cond.static yX6_sizeOf, Cond.code yX6_sizeOf cX6_sizeOf 1 (some .int), Cond.methodLink RL 53 yX5_kind, Cond.instanceMethod yX5_kind, Cond.selects RX5 yX5_kind yX5_kind]
def wsL_law_r16 : List Cond := [Cond.code yX5_kind cX5_kind 2 (some .int), Cond.methodLink RX5 142 yX1_kindAt, Cond.instanceMethod yX1_kindAt, Cond.selects RX1 yX1_kindAt yX1_kindAt, Cond.code yX1_kindAt cX1_kindAt 3 (some .int), Cond.methodLink RX1 60 yX1_bulges, Cond.instanceMethod yX1_bulges, Cond.selects RX1 yX1_bulges yX1_bulges, Cond.code yX1_bulges cX1_bulges 6 (some .boolean), Cond.methodLink RX1 63 yX1_differing, Cond.instanceMethod yX1_differing, Cond.selects RX1 yX1_differing yX1_differing, Cond.code yX1_differing cX1_differing 6 (some .int), Cond.methodLink RL 57 yX6_kind, Cond.instanceMethod yX6_kind, Cond.selects RX6 yX6_kind yX6_kind, Cond.code yX6_kind cX6_kind 2 (some .int), Cond.methodLink RX6 142 yX6_kindOf, Cond.instanceMethod yX6_kindOf, Cond.selects RX6 yX6_kindOf yX6_kindOf, Cond.code yX6_kindOf cX6_kindOf 3 (some .int), Cond.methodLink RX6 135 yX6_isBulge, Cond.instanceMethod yX6_isBulge, Cond.selects RX6 yX6_isBulge yX6_isBulge]
def wsL_law_r17 : List Cond := [Cond.code yX6_isBulge cX6_isBulge 5 (some .boolean), Cond.methodLink RX6 138 yX6_isLike, Cond.instanceMethod yX6_isLike, Cond.selects RX6 yX6_isLike yX6_isLike, Cond.code yX6_isLike cX6_isLike 6 (some .boolean), Cond.methodLink RL 58 yX5_unlike, Cond.instanceMethod yX5_unlike, Cond.selects RX5 yX5_unlike yX5_unlike, Cond.code yX5_unlike cX5_unlike 2 (some .int), Cond.methodLink RX5 145 yX1_leastFar, Cond.instanceMethod yX1_leastFar, Cond.selects RX1 yX1_leastFar yX1_leastFar, Cond.code yX1_leastFar cX1_leastFar 5 (some .int), Cond.methodLink RX1 70 yX1_strangersApart, Cond.instanceMethod yX1_strangersApart, Cond.selects RX1 yX1_strangersApart yX1_strangersApart, Cond.code yX1_strangersApart cX1_strangersApart 7 (some .int), Cond.methodLink RX1 73 yX1_isFlat, Cond.methodLink RX1 77 yX1_farness, Cond.methodLink RL 62 yX6_unlike, Cond.instanceMethod yX6_unlike, Cond.selects RX6 yX6_unlike yX6_unlike, Cond.code yX6_unlike cX6_unlike 1 (some .int), Cond.fieldLink RX6 145 "CutOnceModel" "leastFar" "I"]
def wsL_law_r18 : List Cond := [Cond.methodLink RX6 151 yX6_goThrough, Cond.instanceMethod yX6_goThrough, Cond.selects RX6 yX6_goThrough yX6_goThrough, Cond.code yX6_goThrough cX6_goThrough 7 none, Cond.fieldLink RX6 148 "CutOnceModel" "near" "I", Cond.methodLink RL 63 yX5_traps, Cond.instanceMethod yX5_traps, Cond.selects RX5 yX5_traps yX5_traps, Cond.code yX5_traps cX5_traps 2 (some .int), Cond.methodLink RX5 148 yX1_pairsWithin, Cond.instanceMethod yX1_pairsWithin, Cond.selects RX1 yX1_pairsWithin yX1_pairsWithin, Cond.code yX1_pairsWithin cX1_pairsWithin 6 (some .int), Cond.methodLink RL 66 yX6_traps, Cond.instanceMethod yX6_traps, Cond.selects RX6 yX6_traps yX6_traps, Cond.code yX6_traps cX6_traps 2 (some .int), Cond.methodLink RL 67 yX5_alike, Cond.instanceMethod yX5_alike, Cond.selects RX5 yX5_alike yX5_alike, Cond.code yX5_alike cX5_alike 4 (some .int), Cond.methodLink RX5 151 yX1_giveShape, Cond.instanceMethod yX1_giveShape, Cond.selects RX1 yX1_giveShape yX1_giveShape]
def wsL_law_r19 : List Cond := [Cond.code yX1_giveShape cX1_giveShape 6 (some .int), Cond.methodLink RX1 66 yX1_setHeight, Cond.methodLink RL 71 yX6_alike, Cond.instanceMethod yX6_alike, Cond.selects RX6 yX6_alike yX6_alike, Cond.code yX6_alike cX6_alike 7 (some .int), Cond.methodLink RL 72 yX5_lay, Cond.instanceMethod yX5_lay, Cond.selects RX5 yX5_lay yX5_lay, Cond.code yX5_lay cX5_lay 3 (some .int), Cond.methodLink RX5 154 yX1_hasPiece, Cond.methodLink RX5 157 yX2_isFull, Cond.instanceMethod yX2_isFull, Cond.selects RX2 yX2_isFull yX2_isFull, Cond.code yX2_isFull cX2_isFull 1 (some .boolean), Cond.methodLink RX5 160 yX2_append, Cond.instanceMethod yX2_append, Cond.selects RX2 yX2_append yX2_append, Cond.code yX2_append cX2_append 3 none, Cond.methodLink RX2 26 yX2_isFull, Cond.methodLink RX5 163 yX2_size, Cond.instanceMethod yX2_size, Cond.selects RX2 yX2_size yX2_size, Cond.code yX2_size cX2_size 1 (some .int)]
def wsL_law_r20 : List Cond := [Cond.methodLink RL 75 yX6_lay, Cond.instanceMethod yX6_lay, Cond.selects RX6 yX6_lay yX6_lay, Cond.code yX6_lay cX6_lay 3 (some .int), Cond.methodLink RL 76 yX5_heap, Cond.instanceMethod yX5_heap, Cond.selects RX5 yX5_heap yX5_heap, Cond.code yX5_heap cX5_heap 4 (some .int), Cond.methodLink RX5 166 yX1_pieces, Cond.methodLink RX5 169 yX2_swapPieces, Cond.instanceMethod yX2_swapPieces, Cond.selects RX2 yX2_swapPieces yX2_swapPieces, Cond.code yX2_swapPieces cX2_swapPieces 4 none, Cond.methodLink RX2 22 yX2_hasPlace, Cond.instanceMethod yX2_hasPlace, Cond.selects RX2 yX2_hasPlace yX2_hasPlace, Cond.code yX2_hasPlace cX2_hasPlace 2 (some .boolean), Cond.methodLink RX5 172 yX2_setTurn, Cond.instanceMethod yX2_setTurn, Cond.selects RX2 yX2_setTurn yX2_setTurn, Cond.code yX2_setTurn cX2_setTurn 3 none, Cond.methodLink RL 79 yX6_heap, Cond.instanceMethod yX6_heap, Cond.selects RX6 yX6_heap yX6_heap]
def wsL_law_r21 : List Cond := [Cond.code yX6_heap cX6_heap 6 (some .int), Cond.methodLink RL 80 yX5_take, Cond.instanceMethod yX5_take, Cond.selects RX5 yX5_take yX5_take, Cond.code yX5_take cX5_take 3 (some .int), Cond.methodLink RX5 175 yX2_hasPlace, Cond.methodLink RX5 178 yX2_pieceAt, Cond.instanceMethod yX2_pieceAt, Cond.selects RX2 yX2_pieceAt yX2_pieceAt, Cond.code yX2_pieceAt cX2_pieceAt 2 (some .int), Cond.methodLink RX5 181 yX2_removeAt, Cond.instanceMethod yX2_removeAt, Cond.selects RX2 yX2_removeAt yX2_removeAt, Cond.code yX2_removeAt cX2_removeAt 3 none, Cond.methodLink RL 83 yX6_take, Cond.instanceMethod yX6_take, Cond.selects RX6 yX6_take yX6_take, Cond.code yX6_take cX6_take 4 (some .int), Cond.methodLink RX6 155 yX6_noPlace, Cond.instanceMethod yX6_noPlace, Cond.selects RX6 yX6_noPlace yX6_noPlace, Cond.code yX6_noPlace cX6_noPlace 2 (some .boolean), Cond.methodLink RL 84 yX5_heaped, Cond.instanceMethod yX5_heaped]
def wsL_law_r22 : List Cond := [Cond.selects RX5 yX5_heaped yX5_heaped, Cond.code yX5_heaped cX5_heaped 3 (some .int), Cond.methodLink RX5 185 yX2_turnAt, Cond.instanceMethod yX2_turnAt, Cond.selects RX2 yX2_turnAt yX2_turnAt, Cond.code yX2_turnAt cX2_turnAt 2 (some .int), Cond.methodLink RL 87 yX6_heaped, Cond.instanceMethod yX6_heaped, Cond.selects RX6 yX6_heaped yX6_heaped, Cond.code yX6_heaped cX6_heaped 3 (some .int), Cond.methodLink RL 88 yX5_missing, Cond.instanceMethod yX5_missing, Cond.selects RX5 yX5_missing yX5_missing, Cond.code yX5_missing cX5_missing 2 (some .int), Cond.methodLink RX5 188 yX5_isMissingWhat, Cond.static yX5_isMissingWhat, Cond.code yX5_isMissingWhat cX5_isMissingWhat 1 (some .boolean), Cond.methodLink RX5 191 yX5_countMissing, Cond.instanceMethod yX5_countMissing, Cond.selects RX5 yX5_countMissing yX5_countMissing, Cond.code yX5_countMissing cX5_countMissing 4 (some .int), Cond.methodLink RX5 258 yX5_isMissing, Cond.instanceMethod yX5_isMissing, Cond.selects RX5 yX5_isMissing yX5_isMissing]
def wsL_law_r23 : List Cond := [Cond.code yX5_isMissing cX5_isMissing 4 (some .boolean), Cond.methodLink RX5 215 yX2_timesOf, Cond.instanceMethod yX2_timesOf, Cond.selects RX2 yX2_timesOf yX2_timesOf, Cond.code yX2_timesOf cX2_timesOf 4 (some .int), Cond.methodLink RL 91 yX6_missing, Cond.instanceMethod yX6_missing, Cond.selects RX6 yX6_missing yX6_missing, Cond.code yX6_missing cX6_missing 4 (some .int), Cond.methodLink RX6 161 yX6_isMissing, Cond.instanceMethod yX6_isMissing, Cond.selects RX6 yX6_isMissing yX6_isMissing, Cond.code yX6_isMissing cX6_isMissing 3 (some .boolean), Cond.methodLink RX6 158 yX6_timesIn, Cond.instanceMethod yX6_timesIn, Cond.selects RX6 yX6_timesIn yX6_timesIn, Cond.code yX6_timesIn cX6_timesIn 4 (some .int), Cond.methodLink RL 92 yX5_missed, Cond.instanceMethod yX5_missed, Cond.selects RX5 yX5_missed yX5_missed, Cond.code yX5_missed cX5_missed 3 (some .int), Cond.methodLink RX5 194 yX5_missingPiece, Cond.instanceMethod yX5_missingPiece, Cond.selects RX5 yX5_missingPiece yX5_missingPiece]
def wsL_law_r24 : List Cond := [Cond.code yX5_missingPiece cX5_missingPiece 5 (some .int), Cond.methodLink RL 95 yX6_missed, Cond.instanceMethod yX6_missed, Cond.selects RX6 yX6_missed yX6_missed, Cond.code yX6_missed cX6_missed 5 (some .int), Cond.methodLink RX6 164 yX6_missing, Cond.methodLink RL 96 yX5_ways, Cond.instanceMethod yX5_ways, Cond.selects RX5 yX5_ways yX5_ways, Cond.code yX5_ways cX5_ways 1 (some .int), Cond.methodLink RX5 197 yX3_countWays, Cond.instanceMethod yX3_countWays, Cond.selects RX3 yX3_countWays yX3_countWays, Cond.code yX3_countWays cX3_countWays 1 (some .int), Cond.fieldLink RX3 57 "CutOnce$Search" "spent" "Z", Cond.fieldLink RX3 60 "CutOnce$Search" "found" "I", Cond.methodLink RX3 53 yX3_run, Cond.instanceMethod yX3_run, Cond.selects RX3 yX3_run yX3_run, Cond.code yX3_run cX3_run 3 none, Cond.fieldLink RX3 76 "CutOnce$Search" "firstOnly" "Z", Cond.fieldLink RX3 39 "CutOnce$Search" "trialCount" "I", Cond.methodLink RX3 67 yX2_size, Cond.methodLink RX3 72 yX3_readEdges]
def wsL_law_r25 : List Cond := [Cond.instanceMethod yX3_readEdges, Cond.selects RX3 yX3_readEdges yX3_readEdges, Cond.code yX3_readEdges cX3_readEdges 9 none, Cond.methodLink RX3 82 yX2_pieceAt, Cond.methodLink RX3 86 yX1_isFlat, Cond.methodLink RX3 90 yX3_codeOf, Cond.instanceMethod yX3_codeOf, Cond.selects RX3 yX3_codeOf yX3_codeOf, Cond.code yX3_codeOf cX3_codeOf 5 (some .int), Cond.methodLink RX3 100 yX1_edgeHeight, Cond.methodLink RX3 94 yX3_mateOf, Cond.instanceMethod yX3_mateOf, Cond.selects RX3 yX3_mateOf yX3_mateOf, Cond.code yX3_mateOf cX3_mateOf 5 (some .int), Cond.methodLink RX3 97 yX2_turnAt, Cond.methodLink RX3 79 yX3_fillFrom, Cond.instanceMethod yX3_fillFrom, Cond.selects RX3 yX3_fillFrom yX3_fillFrom, Cond.code yX3_fillFrom cX3_fillFrom 4 none, Cond.constant RX3 107 (60000), Cond.methodLink RX3 63 yX1_pieces, Cond.methodLink RX3 104 yX3_lookAround, Cond.instanceMethod yX3_lookAround, Cond.selects RX3 yX3_lookAround yX3_lookAround]
def wsL_law_r26 : List Cond := [Cond.code yX3_lookAround cX3_lookAround 5 none, Cond.methodLink RX3 111 yX1_nextTo, Cond.instanceMethod yX1_nextTo, Cond.selects RX1 yX1_nextTo yX1_nextTo, Cond.code yX1_nextTo cX1_nextTo 3 (some .int), Cond.methodLink RX3 108 yX3_fits, Cond.instanceMethod yX3_fits, Cond.selects RX3 yX3_fits yX3_fits, Cond.code yX3_fits cX3_fits 5 (some .boolean), Cond.methodLink RL 99 yX6_ways, Cond.instanceMethod yX6_ways, Cond.selects RX6 yX6_ways yX6_ways, Cond.code yX6_ways cX6_ways 1 (some .int), Cond.fieldLink RX6 180 "CutOnceModel" "found" "I", Cond.methodLink RX6 187 yX6_search, Cond.instanceMethod yX6_search, Cond.selects RX6 yX6_search yX6_search, Cond.code yX6_search cX6_search 3 (some .boolean), Cond.fieldLink RX6 177 "CutOnceModel" "tried" "I", Cond.constant RX6 183 (60000), Cond.methodLink RX6 184 yX6_fits, Cond.instanceMethod yX6_fits, Cond.selects RX6 yX6_fits yX6_fits, Cond.code yX6_fits cX6_fits 5 (some .boolean)]
def wsL_law_r27 : List Cond := [Cond.methodLink RX6 170 yX6_isFlat, Cond.instanceMethod yX6_isFlat, Cond.selects RX6 yX6_isFlat yX6_isFlat, Cond.code yX6_isFlat cX6_isFlat 3 (some .boolean), Cond.methodLink RX6 167 yX6_edgeOn, Cond.instanceMethod yX6_edgeOn, Cond.selects RX6 yX6_edgeOn yX6_edgeOn, Cond.code yX6_edgeOn cX6_edgeOn 3 (some .int), Cond.methodLink RX6 173 yX6_meets, Cond.instanceMethod yX6_meets, Cond.selects RX6 yX6_meets yX6_meets, Cond.code yX6_meets cX6_meets 5 (some .boolean), Cond.methodLink RL 100 yX5_join, Cond.instanceMethod yX5_join, Cond.selects RX5 yX5_join yX5_join, Cond.code yX5_join cX5_join 1 (some .int), Cond.methodLink RX5 200 yX3_findFirst, Cond.instanceMethod yX3_findFirst, Cond.selects RX3 yX3_findFirst yX3_findFirst, Cond.code yX3_findFirst cX3_findFirst 2 (some .int), Cond.methodLink RL 103 yX6_join, Cond.instanceMethod yX6_join, Cond.selects RX6 yX6_join yX6_join, Cond.code yX6_join cX6_join 2 (some .int)]
def wsL_law_r28 : List Cond := [Cond.methodLink RL 104 yX5_joined, Cond.instanceMethod yX5_joined, Cond.selects RX5 yX5_joined yX5_joined, Cond.code yX5_joined cX5_joined 3 (some .int), Cond.methodLink RX5 203 yX3_hasJoined, Cond.instanceMethod yX3_hasJoined, Cond.selects RX3 yX3_hasJoined yX3_hasJoined, Cond.code yX3_hasJoined cX3_hasJoined 1 (some .boolean), Cond.methodLink RX5 206 yX3_joinedFrom, Cond.instanceMethod yX3_joinedFrom, Cond.selects RX3 yX3_joinedFrom yX3_joinedFrom, Cond.code yX3_joinedFrom cX3_joinedFrom 2 (some .int), Cond.methodLink RX3 47 yX1_hasPiece, Cond.methodLink RX5 209 yX3_joinedTurn, Cond.instanceMethod yX3_joinedTurn, Cond.selects RX3 yX3_joinedTurn yX3_joinedTurn, Cond.code yX3_joinedTurn cX3_joinedTurn 2 (some .int), Cond.methodLink RL 107 yX6_joined, Cond.instanceMethod yX6_joined, Cond.selects RX6 yX6_joined yX6_joined, Cond.code yX6_joined cX6_joined 3 (some .int), Cond.methodLink RL 108 yX5_trials, Cond.instanceMethod yX5_trials, Cond.selects RX5 yX5_trials yX5_trials]
def wsL_law_r29 : List Cond := [Cond.code yX5_trials cX5_trials 1 (some .int), Cond.methodLink RX5 212 yX3_trialsCounted, Cond.instanceMethod yX3_trialsCounted, Cond.selects RX3 yX3_trialsCounted yX3_trialsCounted, Cond.code yX3_trialsCounted cX3_trialsCounted 1 (some .int), Cond.methodLink RL 111 yX6_trials, Cond.instanceMethod yX6_trials, Cond.selects RX6 yX6_trials yX6_trials, Cond.code yX6_trials cX6_trials 1 (some .int), Cond.methodLink RL 112 yX5_known, Cond.instanceMethod yX5_known, Cond.selects RX5 yX5_known yX5_known, Cond.code yX5_known cX5_known 4 (some .int), Cond.methodLink RX5 218 yX1_nextTo, Cond.methodLink RL 115 yX6_known, Cond.instanceMethod yX6_known, Cond.selects RX6 yX6_known yX6_known, Cond.code yX6_known cX6_known 4 (some .int), Cond.methodLink RX6 190 yX6_neighbour, Cond.instanceMethod yX6_neighbour, Cond.selects RX6 yX6_neighbour yX6_neighbour, Cond.code yX6_neighbour cX6_neighbour 3 (some .int), Cond.methodLink RL 116 yX5_sheet, Cond.instanceMethod yX5_sheet]
def wsL_law_r30 : List Cond := [Cond.selects RX5 yX5_sheet yX5_sheet, Cond.code yX5_sheet cX5_sheet 4 (some .int), Cond.methodLink RX5 221 yX4_renew, Cond.instanceMethod yX4_renew, Cond.selects RX4 yX4_renew yX4_renew, Cond.code yX4_renew cX4_renew 4 none, Cond.methodLink RX4 23 Lib.Math.max.name, Cond.static Lib.Math.max.name, Cond.code Lib.Math.max.name Lib.Math.max.code 2 (some .int), Cond.methodLink RX4 29 Lib.Math.min.name, Cond.static Lib.Math.min.name, Cond.code Lib.Math.min.name Lib.Math.min.code 2 (some .int), Cond.methodLink RL 119 yX6_sheet, Cond.instanceMethod yX6_sheet, Cond.selects RX6 yX6_sheet yX6_sheet, Cond.code yX6_sheet cX6_sheet 5 (some .int), Cond.methodLink RL 120 yX5_lose, Cond.instanceMethod yX5_lose, Cond.selects RX5 yX5_lose yX5_lose, Cond.code yX5_lose cX5_lose 3 (some .int), Cond.methodLink RX5 224 yX4_drop, Cond.instanceMethod yX4_drop, Cond.selects RX4 yX4_drop yX4_drop, Cond.code yX4_drop cX4_drop 1 none]
def wsL_law_r31 : List Cond := [Cond.methodLink RL 123 yX6_lose, Cond.instanceMethod yX6_lose, Cond.selects RX6 yX6_lose yX6_lose, Cond.code yX6_lose cX6_lose 3 (some .int), Cond.methodLink RL 124 yX5_put, Cond.instanceMethod yX5_put, Cond.selects RX5 yX5_put yX5_put, Cond.code yX5_put cX5_put 4 (some .int), Cond.methodLink RX5 227 yX4_write, Cond.instanceMethod yX4_write, Cond.selects RX4 yX4_write yX4_write, Cond.code yX4_write cX4_write 3 none, Cond.methodLink RX4 39 yX4_cutToLane, Cond.instanceMethod yX4_cutToLane, Cond.selects RX4 yX4_cutToLane yX4_cutToLane, Cond.code yX4_cutToLane cX4_cutToLane 2 (some .int), Cond.methodLink RL 127 yX6_put, Cond.instanceMethod yX6_put, Cond.selects RX6 yX6_put yX6_put, Cond.code yX6_put cX6_put 4 (some .int), Cond.methodLink RX6 204 yX6_noCell, Cond.instanceMethod yX6_noCell, Cond.selects RX6 yX6_noCell yX6_noCell, Cond.code yX6_noCell cX6_noCell 3 (some .int)]
def wsL_law_r32 : List Cond := [Cond.methodLink RL 128 yX5_cell, Cond.instanceMethod yX5_cell, Cond.selects RX5 yX5_cell yX5_cell, Cond.code yX5_cell cX5_cell 4 (some .long), Cond.methodLink RX5 230 yX5_comeLost, Cond.instanceMethod yX5_comeLost, Cond.selects RX5 yX5_comeLost yX5_comeLost, Cond.code yX5_comeLost cX5_comeLost 2 (some .long), Cond.methodLink RL 131 yX6_cell, Cond.instanceMethod yX6_cell, Cond.selects RX6 yX6_cell yX6_cell, Cond.code yX6_cell cX6_cell 4 (some .long), Cond.methodLink RX6 207 yX6_failedLong, Cond.instanceMethod yX6_failedLong, Cond.selects RX6 yX6_failedLong yX6_failedLong, Cond.code yX6_failedLong cX6_failedLong 2 (some .long), Cond.methodLink RL 132 yX5_copy, Cond.instanceMethod yX5_copy, Cond.selects RX5 yX5_copy yX5_copy, Cond.code yX5_copy cX5_copy 8 (some .int), Cond.methodLink RX5 237 yX4_laneHeld, Cond.instanceMethod yX4_laneHeld, Cond.selects RX4 yX4_laneHeld yX4_laneHeld, Cond.code yX4_laneHeld cX4_laneHeld 1 (some .int)]
def wsL_law_r33 : List Cond := [Cond.methodLink RX5 240 yX4_writeFrom, Cond.instanceMethod yX4_writeFrom, Cond.selects RX4 yX4_writeFrom yX4_writeFrom, Cond.code yX4_writeFrom cX4_writeFrom 5 none, Cond.methodLink RX4 43 arraycopyName, Cond.native arraycopyName, Cond.static arraycopyName, Cond.initialized "java/lang/System", Cond.methodLink RL 135 yX6_copy, Cond.instanceMethod yX6_copy, Cond.selects RX6 yX6_copy yX6_copy, Cond.code yX6_copy cX6_copy 7 (some .int), Cond.methodLink RL 136 yX5_tell, Cond.instanceMethod yX5_tell, Cond.selects RX5 yX5_tell yX5_tell, Cond.code yX5_tell cX5_tell 2 (some .int), Cond.methodLink RX5 243 yX5_leave, Cond.instanceMethod yX5_leave, Cond.selects RX5 yX5_leave yX5_leave, Cond.code yX5_leave cX5_leave 2 none, Cond.fieldLink RX5 249 "CutOnce" "traceLeft" "I", Cond.methodLink RX5 246 yX5_sumBody, Cond.instanceMethod yX5_sumBody, Cond.selects RX5 yX5_sumBody yX5_sumBody]
def wsL_law_r34 : List Cond := [Cond.code yX5_sumBody cX5_sumBody 2 (some .int), Cond.methodLink RX5 261 yX1_sumOf, Cond.instanceMethod yX1_sumOf, Cond.selects RX1 yX1_sumOf yX1_sumOf, Cond.code yX1_sumOf cX1_sumOf 4 (some .int), Cond.methodLink RL 139 yX6_tell, Cond.instanceMethod yX6_tell, Cond.selects RX6 yX6_tell yX6_tell, Cond.code yX6_tell cX6_tell 5 (some .int), Cond.methodLink RX6 218 yX6_traced, Cond.instanceMethod yX6_traced, Cond.selects RX6 yX6_traced yX6_traced, Cond.code yX6_traced cX6_traced 2 none, Cond.fieldLink RX6 215 "CutOnceModel" "trace" "I", Cond.methodLink RL 140 yX5_mark, Cond.instanceMethod yX5_mark, Cond.selects RX5 yX5_mark yX5_mark, Cond.code yX5_mark cX5_mark 2 (some .int), Cond.methodLink RL 143 yX6_mark, Cond.instanceMethod yX6_mark, Cond.selects RX6 yX6_mark yX6_mark, Cond.code yX6_mark cX6_mark 3 (some .int), Cond.methodLink RL 144 yX5_as, Cond.instanceMethod yX5_as]
def wsL_law_r35 : List Cond := [Cond.selects RX5 yX5_as yX5_as, Cond.code yX5_as cX5_as 3 (some .int), Cond.methodLink RL 147 yX6_as, Cond.instanceMethod yX6_as, Cond.selects RX6 yX6_as yX6_as, Cond.code yX6_as cX6_as 3 (some .int), Cond.methodLink RL 148 yX5_trace, Cond.instanceMethod yX5_trace, Cond.selects RX5 yX5_trace yX5_trace, Cond.code yX5_trace cX5_trace 1 (some .int), Cond.methodLink RL 151 yX6_trace, Cond.instanceMethod yX6_trace, Cond.selects RX6 yX6_trace yX6_trace, Cond.code yX6_trace cX6_trace 1 (some .int), Cond.methodLink RL 152 yX5_fault, Cond.instanceMethod yX5_fault, Cond.selects RX5 yX5_fault yX5_fault, Cond.code yX5_fault cX5_fault 1 (some .int), Cond.methodLink RL 155 yX6_fault, Cond.instanceMethod yX6_fault, Cond.selects RX6 yX6_fault yX6_fault, Cond.code yX6_fault cX6_fault 1 (some .int), Cond.methodLink RL 156 yX5_told, Cond.instanceMethod yX5_told]
def wsL_law_r36 : List Cond := [Cond.selects RX5 yX5_told yX5_told, Cond.code yX5_told cX5_told 2 (some .int), Cond.methodLink RX5 252 yX1_width, Cond.instanceMethod yX1_width, Cond.selects RX1 yX1_width yX1_width, Cond.code yX1_width cX1_width 1 (some .int), Cond.methodLink RX5 255 yX1_depth, Cond.instanceMethod yX1_depth, Cond.selects RX1 yX1_depth yX1_depth, Cond.code yX1_depth cX1_depth 1 (some .int), Cond.methodLink RL 159 yX6_told, Cond.instanceMethod yX6_told, Cond.selects RX6 yX6_told yX6_told, Cond.code yX6_told cX6_told 2 (some .int)]
def wsL_law : List Cond := (wsL_law_r1 ++ (wsL_law_r2 ++ (wsL_law_r3 ++ (wsL_law_r4 ++ (wsL_law_r5 ++ (wsL_law_r6 ++ (wsL_law_r7 ++ (wsL_law_r8 ++ (wsL_law_r9 ++ (wsL_law_r10 ++ (wsL_law_r11 ++ (wsL_law_r12 ++ (wsL_law_r13 ++ (wsL_law_r14 ++ (wsL_law_r15 ++ (wsL_law_r16 ++ (wsL_law_r17 ++ (wsL_law_r18 ++ (wsL_law_r19 ++ (wsL_law_r20 ++ (wsL_law_r21 ++ (wsL_law_r22 ++ (wsL_law_r23 ++ (wsL_law_r24 ++ (wsL_law_r25 ++ (wsL_law_r26 ++ (wsL_law_r27 ++ (wsL_law_r28 ++ (wsL_law_r29 ++ (wsL_law_r30 ++ (wsL_law_r31 ++ (wsL_law_r32 ++ (wsL_law_r33 ++ (wsL_law_r34 ++ (wsL_law_r35 ++ wsL_law_r36))))))))))))))))))))))))))))))))))) ++ wsX50 ++ wsX60 ++ wsX10 ++ wsX20 ++ wsX30 ++ wsX00 ++ wsX40 ++ ([] : List Cond)
set_option maxRecDepth 20000 in
theorem wsL_law_in : ∀ w ∈ wsL_law, w ∈ lw_tbl := fun w h => (goodIn_p wsL_law [62, 65, 70, 75, 79, 98, 114, 161, 172, 675, 212, 217, 221, 225, 750, 754, 758, 762, 766, 229, 233, 237, 245, 770, 774, 249, 253, 257, 260, 265, 782, 786, 792, 269, 797, 273, 276, 279, 283, 287, 291, 296, 299, 303, 308, 994, 954, 958, 963, 990, 312, 316, 320, 324, 328, 801, 805, 809, 814, 332, 336, 341, 818, 822, 346, 350, 354, 826, 830, 833, 358, 362, 366, 370, 837, 841, 845, 849, 374, 378, 382, 853, 857, 388, 392, 861, 396, 400, 865, 405, 410, 414, 419, 869, 423, 428, 432, 436, 873, 440, 445, 449, 877, 881, 453, 457, 885, 461, 464, 468, 472, 476, 889, 893, 897, 480, 484, 901, 488, 492, 496, 501, 507, 512, 517, 522, 526, 531, 906, 910, 915, 919, 923, 927, 535, 539, 931, 543, 547, 551, 556, 935, 560, 564, 939, 568, 943, 947, 573, 577, 580, 583, 951, 587, 591, 967, 595, 599, 603, 971, 975, 607, 611, 979, 983, 615, 619, 623, 987, 630, 634, 638, 642, 998, 1002, 646, 1006, 650, 1010, 654, 1014, 658, 1018, 662, 666, 670, 1022] (by decide +kernel) (by decide +kernel) w h).1
theorem inlX0 : ∀ w ∈ wsX00, w ∈ wsL_law := fun _ h => List.mem_append_left _ (List.mem_append_left _ (List.mem_append_right _ h))
theorem inX0 : ∀ w ∈ wsX00, w ∈ lw_tbl := fun w h => wsL_law_in w (inlX0 w h)
theorem inlX1 : ∀ w ∈ wsX10, w ∈ wsL_law := fun _ h => List.mem_append_left _ (List.mem_append_left _ (List.mem_append_left _ (List.mem_append_left _ (List.mem_append_left _ (List.mem_append_right _ h)))))
theorem inX1 : ∀ w ∈ wsX10, w ∈ lw_tbl := fun w h => wsL_law_in w (inlX1 w h)
theorem inlX2 : ∀ w ∈ wsX20, w ∈ wsL_law := fun _ h => List.mem_append_left _ (List.mem_append_left _ (List.mem_append_left _ (List.mem_append_left _ (List.mem_append_right _ h))))
theorem inX2 : ∀ w ∈ wsX20, w ∈ lw_tbl := fun w h => wsL_law_in w (inlX2 w h)
theorem inlX3 : ∀ w ∈ wsX30, w ∈ wsL_law := fun _ h => List.mem_append_left _ (List.mem_append_left _ (List.mem_append_left _ (List.mem_append_right _ h)))
theorem inX3 : ∀ w ∈ wsX30, w ∈ lw_tbl := fun w h => wsL_law_in w (inlX3 w h)
theorem inlX4 : ∀ w ∈ wsX40, w ∈ wsL_law := fun _ h => List.mem_append_left _ (List.mem_append_right _ h)
theorem inX4 : ∀ w ∈ wsX40, w ∈ lw_tbl := fun w h => wsL_law_in w (inlX4 w h)
theorem inlX5 : ∀ w ∈ wsX50, w ∈ wsL_law := fun _ h => List.mem_append_left _ (List.mem_append_left _ (List.mem_append_left _ (List.mem_append_left _ (List.mem_append_left _ (List.mem_append_left _ (List.mem_append_left _ (List.mem_append_right _ h)))))))
theorem inX5 : ∀ w ∈ wsX50, w ∈ lw_tbl := fun w h => wsL_law_in w (inlX5 w h)
theorem inlX6 : ∀ w ∈ wsX60, w ∈ wsL_law := fun _ h => List.mem_append_left _ (List.mem_append_left _ (List.mem_append_left _ (List.mem_append_left _ (List.mem_append_left _ (List.mem_append_left _ (List.mem_append_right _ h))))))
theorem inX6 : ∀ w ∈ wsX60, w ∈ lw_tbl := fun w h => wsL_law_in w (inlX6 w h)
theorem inJ9 : ∀ w ∈ wsJ90, w ∈ lw_tbl := by decide +kernel
theorem inJ10 : ∀ w ∈ wsJ100, w ∈ lw_tbl := by decide +kernel
theorem dX0_init_0 : decode cX0_init 0 = .ok (.aload_n 0, 1) := by decide +kernel
theorem dX0_init_1 : decode cX0_init 1 = .ok (.invokespecial 1, 3) := by decide +kernel
theorem dX0_init_4 : decode cX0_init 4 = .ok (.return_, 1) := by decide +kernel
theorem dX0_begin_0 : decode cX0_begin 0 = .ok (.aload_n 0, 1) := by decide +kernel
theorem dX0_begin_1 : decode cX0_begin 1 = .ok (.lload_n 1, 1) := by decide +kernel
theorem dX0_begin_2 : decode cX0_begin 2 = .ok (.putfield 7, 3) := by decide +kernel
theorem dX0_begin_5 : decode cX0_begin 5 = .ok (.return_, 1) := by decide +kernel
theorem dX0_below_0 : decode cX0_below 0 = .ok (.aload_n 0, 1) := by decide +kernel
theorem dX0_below_1 : decode cX0_below 1 = .ok (.aload_n 0, 1) := by decide +kernel
theorem dX0_below_2 : decode cX0_below 2 = .ok (.getfield 7, 3) := by decide +kernel
theorem dX0_below_5 : decode cX0_below 5 = .ok (.ldc2_w 13, 3) := by decide +kernel
theorem dX0_below_8 : decode cX0_below 8 = .ok (.lmul, 1) := by decide +kernel
theorem dX0_below_9 : decode cX0_below 9 = .ok (.ldc2_w 15, 3) := by decide +kernel
theorem dX0_below_12 : decode cX0_below 12 = .ok (.ladd, 1) := by decide +kernel
theorem dX0_below_13 : decode cX0_below 13 = .ok (.putfield 7, 3) := by decide +kernel
theorem dX0_below_16 : decode cX0_below 16 = .ok (.iload_n 1, 1) := by decide +kernel
theorem dX0_below_17 : decode cX0_below 17 = .ok (.iconst 1, 1) := by decide +kernel
theorem dX0_below_18 : decode cX0_below 18 = .ok (.if_icmp .ge 7, 3) := by decide +kernel
theorem dX0_below_21 : decode cX0_below 21 = .ok (.iconst 0, 1) := by decide +kernel
theorem dX0_below_22 : decode cX0_below 22 = .ok (.goto 19, 3) := by decide +kernel
theorem dX0_below_25 : decode cX0_below 25 = .ok (.aload_n 0, 1) := by decide +kernel
theorem dX0_below_26 : decode cX0_below 26 = .ok (.getfield 7, 3) := by decide +kernel
theorem dX0_below_29 : decode cX0_below 29 = .ok (.ldc2_w 17, 3) := by decide +kernel
theorem dX0_below_32 : decode cX0_below 32 = .ok (.land, 1) := by decide +kernel
theorem dX0_below_33 : decode cX0_below 33 = .ok (.ldc2_w 19, 3) := by decide +kernel
theorem dX0_below_36 : decode cX0_below 36 = .ok (.ldiv, 1) := by decide +kernel
theorem dX0_below_37 : decode cX0_below 37 = .ok (.iload_n 1, 1) := by decide +kernel
theorem dX0_below_38 : decode cX0_below 38 = .ok (.i2l, 1) := by decide +kernel
theorem dX0_below_39 : decode cX0_below 39 = .ok (.lrem, 1) := by decide +kernel
theorem dX0_below_40 : decode cX0_below 40 = .ok (.l2i, 1) := by decide +kernel
theorem dX0_below_41 : decode cX0_below 41 = .ok (.ireturn, 1) := by decide +kernel
set_option maxRecDepth 20000 in
theorem ggX1_init_X1_cutAnew : GoodIn wsX1_init wsX1_cutAnew := goodIn_r _ [11, 12, 13, 5, 14, 15, 16, 10, 17, 6, 18, 19, 20, 21] (by decide +kernel) (by decide +kernel)
set_option maxRecDepth 20000 in
theorem gX1_init_X1_cutAnew : GoodIn wsX1_init (wsV RX1 18 RX1 yX1_cutAnew wsX1_cutAnew) := goodIn_app (goodIn_of _ (by decide +kernel)) ggX1_init_X1_cutAnew
theorem dX1_init_0 : decode cX1_init 0 = .ok (.aload_n 0, 1) := by decide +kernel
theorem dX1_init_1 : decode cX1_init 1 = .ok (.invokespecial 3, 3) := by decide +kernel
theorem dX1_init_4 : decode cX1_init 4 = .ok (.aload_n 0, 1) := by decide +kernel
theorem dX1_init_5 : decode cX1_init 5 = .ok (.sipush 200, 3) := by decide +kernel
theorem dX1_init_8 : decode cX1_init 8 = .ok (.newarray .int, 2) := by decide +kernel
theorem dX1_init_10 : decode cX1_init 10 = .ok (.putfield 9, 3) := by decide +kernel
theorem dX1_init_13 : decode cX1_init 13 = .ok (.aload_n 0, 1) := by decide +kernel
theorem dX1_init_14 : decode cX1_init 14 = .ok (.bipush 100, 2) := by decide +kernel
theorem dX1_init_16 : decode cX1_init 16 = .ok (.newarray .int, 2) := by decide +kernel
theorem dX1_init_18 : decode cX1_init 18 = .ok (.putfield 15, 3) := by decide +kernel
theorem dX1_init_21 : decode cX1_init 21 = .ok (.aload_n 0, 1) := by decide +kernel
theorem dX1_init_22 : decode cX1_init 22 = .ok (.iconst 1, 1) := by decide +kernel
theorem dX1_init_23 : decode cX1_init 23 = .ok (.iconst 1, 1) := by decide +kernel
theorem dX1_init_24 : decode cX1_init 24 = .ok (.invokevirtual 18, 3) := by decide +kernel
theorem dX1_init_27 : decode cX1_init 27 = .ok (.return_, 1) := by decide +kernel
set_option maxRecDepth 20000 in
theorem ggX1_cutAnew_X1_layEdges : GoodIn wsX1_cutAnew wsX1_layEdges := goodIn_r _ [8, 1, 2, 9, 10, 11, 12, 13] (by decide +kernel) (by decide +kernel)
set_option maxRecDepth 20000 in
theorem gX1_cutAnew_X1_layEdges : GoodIn wsX1_cutAnew (wsV RX1 29 RX1 yX1_layEdges wsX1_layEdges) := goodIn_app (goodIn_of _ (by decide +kernel)) ggX1_cutAnew_X1_layEdges
theorem dX1_cutAnew_0 : decode cX1_cutAnew 0 = .ok (.aload_n 0, 1) := by decide +kernel
theorem dX1_cutAnew_1 : decode cX1_cutAnew 1 = .ok (.iload_n 1, 1) := by decide +kernel
theorem dX1_cutAnew_2 : decode cX1_cutAnew 2 = .ok (.putfield 22, 3) := by decide +kernel
theorem dX1_cutAnew_5 : decode cX1_cutAnew 5 = .ok (.aload_n 0, 1) := by decide +kernel
theorem dX1_cutAnew_6 : decode cX1_cutAnew 6 = .ok (.iload_n 2, 1) := by decide +kernel
theorem dX1_cutAnew_7 : decode cX1_cutAnew 7 = .ok (.putfield 26, 3) := by decide +kernel
theorem dX1_cutAnew_10 : decode cX1_cutAnew 10 = .ok (.iconst 0, 1) := by decide +kernel
theorem dX1_cutAnew_11 : decode cX1_cutAnew 11 = .ok (.istore_n 3, 1) := by decide +kernel
theorem dX1_cutAnew_12 : decode cX1_cutAnew 12 = .ok (.iload_n 3, 1) := by decide +kernel
theorem dX1_cutAnew_13 : decode cX1_cutAnew 13 = .ok (.aload_n 0, 1) := by decide +kernel
theorem dX1_cutAnew_14 : decode cX1_cutAnew 14 = .ok (.getfield 9, 3) := by decide +kernel
theorem dX1_cutAnew_17 : decode cX1_cutAnew 17 = .ok (.arraylength, 1) := by decide +kernel
theorem dX1_cutAnew_18 : decode cX1_cutAnew 18 = .ok (.if_icmp .ge 16, 3) := by decide +kernel
theorem dX1_cutAnew_21 : decode cX1_cutAnew 21 = .ok (.aload_n 0, 1) := by decide +kernel
theorem dX1_cutAnew_22 : decode cX1_cutAnew 22 = .ok (.getfield 9, 3) := by decide +kernel
theorem dX1_cutAnew_25 : decode cX1_cutAnew 25 = .ok (.iload_n 3, 1) := by decide +kernel
theorem dX1_cutAnew_26 : decode cX1_cutAnew 26 = .ok (.iconst 0, 1) := by decide +kernel
theorem dX1_cutAnew_27 : decode cX1_cutAnew 27 = .ok (.iastore, 1) := by decide +kernel
theorem dX1_cutAnew_28 : decode cX1_cutAnew 28 = .ok (.iinc 3 1, 3) := by decide +kernel
theorem dX1_cutAnew_31 : decode cX1_cutAnew 31 = .ok (.goto (-19), 3) := by decide +kernel
theorem dX1_cutAnew_34 : decode cX1_cutAnew 34 = .ok (.iconst 0, 1) := by decide +kernel
theorem dX1_cutAnew_35 : decode cX1_cutAnew 35 = .ok (.istore_n 3, 1) := by decide +kernel
theorem dX1_cutAnew_36 : decode cX1_cutAnew 36 = .ok (.iload_n 3, 1) := by decide +kernel
theorem dX1_cutAnew_37 : decode cX1_cutAnew 37 = .ok (.aload_n 0, 1) := by decide +kernel
theorem dX1_cutAnew_38 : decode cX1_cutAnew 38 = .ok (.getfield 26, 3) := by decide +kernel
theorem dX1_cutAnew_41 : decode cX1_cutAnew 41 = .ok (.if_icmp .ge 34, 3) := by decide +kernel
theorem dX1_cutAnew_44 : decode cX1_cutAnew 44 = .ok (.iconst 0, 1) := by decide +kernel
theorem dX1_cutAnew_45 : decode cX1_cutAnew 45 = .ok (.istore 4, 2) := by decide +kernel
theorem dX1_cutAnew_47 : decode cX1_cutAnew 47 = .ok (.iload 4, 2) := by decide +kernel
theorem dX1_cutAnew_49 : decode cX1_cutAnew 49 = .ok (.aload_n 0, 1) := by decide +kernel
theorem dX1_cutAnew_50 : decode cX1_cutAnew 50 = .ok (.getfield 22, 3) := by decide +kernel
theorem dX1_cutAnew_53 : decode cX1_cutAnew 53 = .ok (.if_icmp .ge 16, 3) := by decide +kernel
theorem dX1_cutAnew_56 : decode cX1_cutAnew 56 = .ok (.aload_n 0, 1) := by decide +kernel
theorem dX1_cutAnew_57 : decode cX1_cutAnew 57 = .ok (.iload 4, 2) := by decide +kernel
theorem dX1_cutAnew_59 : decode cX1_cutAnew 59 = .ok (.iload_n 3, 1) := by decide +kernel
theorem dX1_cutAnew_60 : decode cX1_cutAnew 60 = .ok (.invokevirtual 29, 3) := by decide +kernel
theorem dX1_cutAnew_63 : decode cX1_cutAnew 63 = .ok (.iinc 4 1, 3) := by decide +kernel
theorem dX1_cutAnew_66 : decode cX1_cutAnew 66 = .ok (.goto (-19), 3) := by decide +kernel
theorem dX1_cutAnew_69 : decode cX1_cutAnew 69 = .ok (.iinc 3 1, 3) := by decide +kernel
theorem dX1_cutAnew_72 : decode cX1_cutAnew 72 = .ok (.goto (-36), 3) := by decide +kernel
theorem dX1_cutAnew_75 : decode cX1_cutAnew 75 = .ok (.return_, 1) := by decide +kernel
theorem dX1_layEdges_0 : decode cX1_layEdges 0 = .ok (.aload_n 0, 1) := by decide +kernel
theorem dX1_layEdges_1 : decode cX1_layEdges 1 = .ok (.getfield 22, 3) := by decide +kernel
theorem dX1_layEdges_4 : decode cX1_layEdges 4 = .ok (.iload_n 2, 1) := by decide +kernel
theorem dX1_layEdges_5 : decode cX1_layEdges 5 = .ok (.imul, 1) := by decide +kernel
theorem dX1_layEdges_6 : decode cX1_layEdges 6 = .ok (.iload_n 1, 1) := by decide +kernel
theorem dX1_layEdges_7 : decode cX1_layEdges 7 = .ok (.iadd, 1) := by decide +kernel
theorem dX1_layEdges_8 : decode cX1_layEdges 8 = .ok (.iconst 4, 1) := by decide +kernel
theorem dX1_layEdges_9 : decode cX1_layEdges 9 = .ok (.imul, 1) := by decide +kernel
theorem dX1_layEdges_10 : decode cX1_layEdges 10 = .ok (.istore_n 3, 1) := by decide +kernel
theorem dX1_layEdges_11 : decode cX1_layEdges 11 = .ok (.aload_n 0, 1) := by decide +kernel
theorem dX1_layEdges_12 : decode cX1_layEdges 12 = .ok (.getfield 22, 3) := by decide +kernel
theorem dX1_layEdges_15 : decode cX1_layEdges 15 = .ok (.iconst 1, 1) := by decide +kernel
theorem dX1_layEdges_16 : decode cX1_layEdges 16 = .ok (.isub, 1) := by decide +kernel
theorem dX1_layEdges_17 : decode cX1_layEdges 17 = .ok (.iload_n 2, 1) := by decide +kernel
theorem dX1_layEdges_18 : decode cX1_layEdges 18 = .ok (.imul, 1) := by decide +kernel
theorem dX1_layEdges_19 : decode cX1_layEdges 19 = .ok (.iload_n 1, 1) := by decide +kernel
theorem dX1_layEdges_20 : decode cX1_layEdges 20 = .ok (.iadd, 1) := by decide +kernel
theorem dX1_layEdges_21 : decode cX1_layEdges 21 = .ok (.istore 4, 2) := by decide +kernel
theorem dX1_layEdges_23 : decode cX1_layEdges 23 = .ok (.aload_n 0, 1) := by decide +kernel
theorem dX1_layEdges_24 : decode cX1_layEdges 24 = .ok (.getfield 22, 3) := by decide +kernel
theorem dX1_layEdges_27 : decode cX1_layEdges 27 = .ok (.iconst 1, 1) := by decide +kernel
theorem dX1_layEdges_28 : decode cX1_layEdges 28 = .ok (.isub, 1) := by decide +kernel
theorem dX1_layEdges_29 : decode cX1_layEdges 29 = .ok (.aload_n 0, 1) := by decide +kernel
theorem dX1_layEdges_30 : decode cX1_layEdges 30 = .ok (.getfield 26, 3) := by decide +kernel
theorem dX1_layEdges_33 : decode cX1_layEdges 33 = .ok (.imul, 1) := by decide +kernel
theorem dX1_layEdges_34 : decode cX1_layEdges 34 = .ok (.aload_n 0, 1) := by decide +kernel
theorem dX1_layEdges_35 : decode cX1_layEdges 35 = .ok (.getfield 22, 3) := by decide +kernel
theorem dX1_layEdges_38 : decode cX1_layEdges 38 = .ok (.iload_n 2, 1) := by decide +kernel
theorem dX1_layEdges_39 : decode cX1_layEdges 39 = .ok (.imul, 1) := by decide +kernel
theorem dX1_layEdges_40 : decode cX1_layEdges 40 = .ok (.iadd, 1) := by decide +kernel
theorem dX1_layEdges_41 : decode cX1_layEdges 41 = .ok (.iload_n 1, 1) := by decide +kernel
theorem dX1_layEdges_42 : decode cX1_layEdges 42 = .ok (.iadd, 1) := by decide +kernel
theorem dX1_layEdges_43 : decode cX1_layEdges 43 = .ok (.istore 5, 2) := by decide +kernel
theorem dX1_layEdges_45 : decode cX1_layEdges 45 = .ok (.aload_n 0, 1) := by decide +kernel
theorem dX1_layEdges_46 : decode cX1_layEdges 46 = .ok (.getfield 15, 3) := by decide +kernel
theorem dX1_layEdges_49 : decode cX1_layEdges 49 = .ok (.iload_n 3, 1) := by decide +kernel
theorem dX1_layEdges_50 : decode cX1_layEdges 50 = .ok (.iconst 0, 1) := by decide +kernel
theorem dX1_layEdges_51 : decode cX1_layEdges 51 = .ok (.iadd, 1) := by decide +kernel
theorem dX1_layEdges_52 : decode cX1_layEdges 52 = .ok (.iload_n 2, 1) := by decide +kernel
theorem dX1_layEdges_53 : decode cX1_layEdges 53 = .ok (.ifCond .ne 8, 3) := by decide +kernel
theorem dX1_layEdges_56 : decode cX1_layEdges 56 = .ok (.bipush (-9), 2) := by decide +kernel
theorem dX1_layEdges_58 : decode cX1_layEdges 58 = .ok (.goto 10, 3) := by decide +kernel
theorem dX1_layEdges_61 : decode cX1_layEdges 61 = .ok (.iload 5, 2) := by decide +kernel
theorem dX1_layEdges_63 : decode cX1_layEdges 63 = .ok (.aload_n 0, 1) := by decide +kernel
theorem dX1_layEdges_64 : decode cX1_layEdges 64 = .ok (.getfield 22, 3) := by decide +kernel
theorem dX1_layEdges_67 : decode cX1_layEdges 67 = .ok (.isub, 1) := by decide +kernel
theorem dX1_layEdges_68 : decode cX1_layEdges 68 = .ok (.iastore, 1) := by decide +kernel
theorem dX1_layEdges_69 : decode cX1_layEdges 69 = .ok (.aload_n 0, 1) := by decide +kernel
theorem dX1_layEdges_70 : decode cX1_layEdges 70 = .ok (.getfield 15, 3) := by decide +kernel
theorem dX1_layEdges_73 : decode cX1_layEdges 73 = .ok (.iload_n 3, 1) := by decide +kernel
theorem dX1_layEdges_74 : decode cX1_layEdges 74 = .ok (.iconst 1, 1) := by decide +kernel
theorem dX1_layEdges_75 : decode cX1_layEdges 75 = .ok (.iadd, 1) := by decide +kernel
theorem dX1_layEdges_76 : decode cX1_layEdges 76 = .ok (.iload_n 1, 1) := by decide +kernel
theorem dX1_layEdges_77 : decode cX1_layEdges 77 = .ok (.aload_n 0, 1) := by decide +kernel
theorem dX1_layEdges_78 : decode cX1_layEdges 78 = .ok (.getfield 22, 3) := by decide +kernel
theorem dX1_layEdges_81 : decode cX1_layEdges 81 = .ok (.iconst 1, 1) := by decide +kernel
theorem dX1_layEdges_82 : decode cX1_layEdges 82 = .ok (.isub, 1) := by decide +kernel
theorem dX1_layEdges_83 : decode cX1_layEdges 83 = .ok (.if_icmp .ne 8, 3) := by decide +kernel
theorem dX1_layEdges_86 : decode cX1_layEdges 86 = .ok (.bipush (-9), 2) := by decide +kernel
theorem dX1_layEdges_88 : decode cX1_layEdges 88 = .ok (.goto 5, 3) := by decide +kernel
theorem dX1_layEdges_91 : decode cX1_layEdges 91 = .ok (.iload 4, 2) := by decide +kernel
theorem dX1_layEdges_93 : decode cX1_layEdges 93 = .ok (.iastore, 1) := by decide +kernel
theorem dX1_layEdges_94 : decode cX1_layEdges 94 = .ok (.aload_n 0, 1) := by decide +kernel
theorem dX1_layEdges_95 : decode cX1_layEdges 95 = .ok (.getfield 15, 3) := by decide +kernel
theorem dX1_layEdges_98 : decode cX1_layEdges 98 = .ok (.iload_n 3, 1) := by decide +kernel
theorem dX1_layEdges_99 : decode cX1_layEdges 99 = .ok (.iconst 2, 1) := by decide +kernel
theorem dX1_layEdges_100 : decode cX1_layEdges 100 = .ok (.iadd, 1) := by decide +kernel
theorem dX1_layEdges_101 : decode cX1_layEdges 101 = .ok (.iload_n 2, 1) := by decide +kernel
theorem dX1_layEdges_102 : decode cX1_layEdges 102 = .ok (.aload_n 0, 1) := by decide +kernel
theorem dX1_layEdges_103 : decode cX1_layEdges 103 = .ok (.getfield 26, 3) := by decide +kernel
theorem dX1_layEdges_106 : decode cX1_layEdges 106 = .ok (.iconst 1, 1) := by decide +kernel
theorem dX1_layEdges_107 : decode cX1_layEdges 107 = .ok (.isub, 1) := by decide +kernel
theorem dX1_layEdges_108 : decode cX1_layEdges 108 = .ok (.if_icmp .ne 8, 3) := by decide +kernel
theorem dX1_layEdges_111 : decode cX1_layEdges 111 = .ok (.bipush (-9), 2) := by decide +kernel
theorem dX1_layEdges_113 : decode cX1_layEdges 113 = .ok (.goto 5, 3) := by decide +kernel
theorem dX1_layEdges_116 : decode cX1_layEdges 116 = .ok (.iload 5, 2) := by decide +kernel
theorem dX1_layEdges_118 : decode cX1_layEdges 118 = .ok (.iastore, 1) := by decide +kernel
theorem dX1_layEdges_119 : decode cX1_layEdges 119 = .ok (.aload_n 0, 1) := by decide +kernel
theorem dX1_layEdges_120 : decode cX1_layEdges 120 = .ok (.getfield 15, 3) := by decide +kernel
theorem dX1_layEdges_123 : decode cX1_layEdges 123 = .ok (.iload_n 3, 1) := by decide +kernel
theorem dX1_layEdges_124 : decode cX1_layEdges 124 = .ok (.iconst 3, 1) := by decide +kernel
theorem dX1_layEdges_125 : decode cX1_layEdges 125 = .ok (.iadd, 1) := by decide +kernel
theorem dX1_layEdges_126 : decode cX1_layEdges 126 = .ok (.iload_n 1, 1) := by decide +kernel
theorem dX1_layEdges_127 : decode cX1_layEdges 127 = .ok (.ifCond .ne 8, 3) := by decide +kernel
theorem dX1_layEdges_130 : decode cX1_layEdges 130 = .ok (.bipush (-9), 2) := by decide +kernel
theorem dX1_layEdges_132 : decode cX1_layEdges 132 = .ok (.goto 7, 3) := by decide +kernel
theorem dX1_layEdges_135 : decode cX1_layEdges 135 = .ok (.iload 4, 2) := by decide +kernel
theorem dX1_layEdges_137 : decode cX1_layEdges 137 = .ok (.iconst 1, 1) := by decide +kernel
theorem dX1_layEdges_138 : decode cX1_layEdges 138 = .ok (.isub, 1) := by decide +kernel
theorem dX1_layEdges_139 : decode cX1_layEdges 139 = .ok (.iastore, 1) := by decide +kernel
theorem dX1_layEdges_140 : decode cX1_layEdges 140 = .ok (.return_, 1) := by decide +kernel
theorem dX1_width_0 : decode cX1_width 0 = .ok (.aload_n 0, 1) := by decide +kernel
theorem dX1_width_1 : decode cX1_width 1 = .ok (.getfield 22, 3) := by decide +kernel
theorem dX1_width_4 : decode cX1_width 4 = .ok (.ireturn, 1) := by decide +kernel
theorem dX1_depth_0 : decode cX1_depth 0 = .ok (.aload_n 0, 1) := by decide +kernel
theorem dX1_depth_1 : decode cX1_depth 1 = .ok (.getfield 26, 3) := by decide +kernel
theorem dX1_depth_4 : decode cX1_depth 4 = .ok (.ireturn, 1) := by decide +kernel
theorem dX1_pieces_0 : decode cX1_pieces 0 = .ok (.aload_n 0, 1) := by decide +kernel
theorem dX1_pieces_1 : decode cX1_pieces 1 = .ok (.getfield 22, 3) := by decide +kernel
theorem dX1_pieces_4 : decode cX1_pieces 4 = .ok (.aload_n 0, 1) := by decide +kernel
theorem dX1_pieces_5 : decode cX1_pieces 5 = .ok (.getfield 26, 3) := by decide +kernel
theorem dX1_pieces_8 : decode cX1_pieces 8 = .ok (.imul, 1) := by decide +kernel
theorem dX1_pieces_9 : decode cX1_pieces 9 = .ok (.ireturn, 1) := by decide +kernel
theorem dX1_sides_0 : decode cX1_sides 0 = .ok (.aload_n 0, 1) := by decide +kernel
theorem dX1_sides_1 : decode cX1_sides 1 = .ok (.getfield 22, 3) := by decide +kernel
theorem dX1_sides_4 : decode cX1_sides 4 = .ok (.iconst 1, 1) := by decide +kernel
theorem dX1_sides_5 : decode cX1_sides 5 = .ok (.isub, 1) := by decide +kernel
theorem dX1_sides_6 : decode cX1_sides 6 = .ok (.aload_n 0, 1) := by decide +kernel
theorem dX1_sides_7 : decode cX1_sides 7 = .ok (.getfield 26, 3) := by decide +kernel
theorem dX1_sides_10 : decode cX1_sides 10 = .ok (.imul, 1) := by decide +kernel
theorem dX1_sides_11 : decode cX1_sides 11 = .ok (.aload_n 0, 1) := by decide +kernel
theorem dX1_sides_12 : decode cX1_sides 12 = .ok (.getfield 22, 3) := by decide +kernel
theorem dX1_sides_15 : decode cX1_sides 15 = .ok (.aload_n 0, 1) := by decide +kernel
theorem dX1_sides_16 : decode cX1_sides 16 = .ok (.getfield 26, 3) := by decide +kernel
theorem dX1_sides_19 : decode cX1_sides 19 = .ok (.iconst 1, 1) := by decide +kernel
theorem dX1_sides_20 : decode cX1_sides 20 = .ok (.isub, 1) := by decide +kernel
theorem dX1_sides_21 : decode cX1_sides 21 = .ok (.imul, 1) := by decide +kernel
theorem dX1_sides_22 : decode cX1_sides 22 = .ok (.iadd, 1) := by decide +kernel
theorem dX1_sides_23 : decode cX1_sides 23 = .ok (.ireturn, 1) := by decide +kernel
set_option maxRecDepth 20000 in
theorem ggX1_hasSide_X1_sides : GoodIn wsX1_hasSide wsX1_sides := goodIn_r _ [5, 6, 7, 8, 9, 10, 11] (by decide +kernel) (by decide +kernel)
set_option maxRecDepth 20000 in
theorem gX1_hasSide_X1_sides : GoodIn wsX1_hasSide (wsV RX1 32 RX1 yX1_sides wsX1_sides) := goodIn_app (goodIn_of _ (by decide +kernel)) ggX1_hasSide_X1_sides
theorem dX1_hasSide_0 : decode cX1_hasSide 0 = .ok (.iload_n 1, 1) := by decide +kernel
theorem dX1_hasSide_1 : decode cX1_hasSide 1 = .ok (.ifCond .lt 15, 3) := by decide +kernel
theorem dX1_hasSide_4 : decode cX1_hasSide 4 = .ok (.iload_n 1, 1) := by decide +kernel
theorem dX1_hasSide_5 : decode cX1_hasSide 5 = .ok (.aload_n 0, 1) := by decide +kernel
theorem dX1_hasSide_6 : decode cX1_hasSide 6 = .ok (.invokevirtual 32, 3) := by decide +kernel
theorem dX1_hasSide_9 : decode cX1_hasSide 9 = .ok (.if_icmp .ge 7, 3) := by decide +kernel
theorem dX1_hasSide_12 : decode cX1_hasSide 12 = .ok (.iconst 1, 1) := by decide +kernel
theorem dX1_hasSide_13 : decode cX1_hasSide 13 = .ok (.goto 4, 3) := by decide +kernel
theorem dX1_hasSide_16 : decode cX1_hasSide 16 = .ok (.iconst 0, 1) := by decide +kernel
theorem dX1_hasSide_17 : decode cX1_hasSide 17 = .ok (.ireturn, 1) := by decide +kernel
set_option maxRecDepth 20000 in
theorem ggX1_hasPiece_X1_pieces : GoodIn wsX1_hasPiece wsX1_pieces := goodIn_r _ [5, 6, 7, 8, 9, 10, 11] (by decide +kernel) (by decide +kernel)
set_option maxRecDepth 20000 in
theorem gX1_hasPiece_X1_pieces : GoodIn wsX1_hasPiece (wsV RX1 36 RX1 yX1_pieces wsX1_pieces) := goodIn_app (goodIn_of _ (by decide +kernel)) ggX1_hasPiece_X1_pieces
theorem dX1_hasPiece_0 : decode cX1_hasPiece 0 = .ok (.iload_n 1, 1) := by decide +kernel
theorem dX1_hasPiece_1 : decode cX1_hasPiece 1 = .ok (.ifCond .lt 15, 3) := by decide +kernel
theorem dX1_hasPiece_4 : decode cX1_hasPiece 4 = .ok (.iload_n 1, 1) := by decide +kernel
theorem dX1_hasPiece_5 : decode cX1_hasPiece 5 = .ok (.aload_n 0, 1) := by decide +kernel
theorem dX1_hasPiece_6 : decode cX1_hasPiece 6 = .ok (.invokevirtual 36, 3) := by decide +kernel
theorem dX1_hasPiece_9 : decode cX1_hasPiece 9 = .ok (.if_icmp .ge 7, 3) := by decide +kernel
theorem dX1_hasPiece_12 : decode cX1_hasPiece 12 = .ok (.iconst 1, 1) := by decide +kernel
theorem dX1_hasPiece_13 : decode cX1_hasPiece 13 = .ok (.goto 4, 3) := by decide +kernel
theorem dX1_hasPiece_16 : decode cX1_hasPiece 16 = .ok (.iconst 0, 1) := by decide +kernel
theorem dX1_hasPiece_17 : decode cX1_hasPiece 17 = .ok (.ireturn, 1) := by decide +kernel
set_option maxRecDepth 20000 in
theorem ggX1_hasEdge_X1_hasPiece : GoodIn wsX1_hasEdge wsX1_hasPiece := goodIn_r _ [5, 6, 7, 8, 4, 9, 10, 11, 12, 13, 14, 15] (by decide +kernel) (by decide +kernel)
set_option maxRecDepth 20000 in
theorem gX1_hasEdge_X1_hasPiece : GoodIn wsX1_hasEdge (wsV RX1 39 RX1 yX1_hasPiece wsX1_hasPiece) := goodIn_app (goodIn_of _ (by decide +kernel)) ggX1_hasEdge_X1_hasPiece
theorem dX1_hasEdge_0 : decode cX1_hasEdge 0 = .ok (.aload_n 0, 1) := by decide +kernel
theorem dX1_hasEdge_1 : decode cX1_hasEdge 1 = .ok (.iload_n 1, 1) := by decide +kernel
theorem dX1_hasEdge_2 : decode cX1_hasEdge 2 = .ok (.invokevirtual 39, 3) := by decide +kernel
theorem dX1_hasEdge_5 : decode cX1_hasEdge 5 = .ok (.ifCond .eq 16, 3) := by decide +kernel
theorem dX1_hasEdge_8 : decode cX1_hasEdge 8 = .ok (.iload_n 2, 1) := by decide +kernel
theorem dX1_hasEdge_9 : decode cX1_hasEdge 9 = .ok (.ifCond .lt 12, 3) := by decide +kernel
theorem dX1_hasEdge_12 : decode cX1_hasEdge 12 = .ok (.iload_n 2, 1) := by decide +kernel
theorem dX1_hasEdge_13 : decode cX1_hasEdge 13 = .ok (.iconst 4, 1) := by decide +kernel
theorem dX1_hasEdge_14 : decode cX1_hasEdge 14 = .ok (.if_icmp .ge 7, 3) := by decide +kernel
theorem dX1_hasEdge_17 : decode cX1_hasEdge 17 = .ok (.iconst 1, 1) := by decide +kernel
theorem dX1_hasEdge_18 : decode cX1_hasEdge 18 = .ok (.goto 4, 3) := by decide +kernel
theorem dX1_hasEdge_21 : decode cX1_hasEdge 21 = .ok (.iconst 0, 1) := by decide +kernel
theorem dX1_hasEdge_22 : decode cX1_hasEdge 22 = .ok (.ireturn, 1) := by decide +kernel
theorem dX1_sideAt_0 : decode cX1_sideAt 0 = .ok (.iload_n 1, 1) := by decide +kernel
theorem dX1_sideAt_1 : decode cX1_sideAt 1 = .ok (.iconst 4, 1) := by decide +kernel
theorem dX1_sideAt_2 : decode cX1_sideAt 2 = .ok (.imul, 1) := by decide +kernel
theorem dX1_sideAt_3 : decode cX1_sideAt 3 = .ok (.iload_n 2, 1) := by decide +kernel
theorem dX1_sideAt_4 : decode cX1_sideAt 4 = .ok (.iadd, 1) := by decide +kernel
theorem dX1_sideAt_5 : decode cX1_sideAt 5 = .ok (.istore_n 3, 1) := by decide +kernel
theorem dX1_sideAt_6 : decode cX1_sideAt 6 = .ok (.iload_n 3, 1) := by decide +kernel
theorem dX1_sideAt_7 : decode cX1_sideAt 7 = .ok (.ifCond .lt 21, 3) := by decide +kernel
theorem dX1_sideAt_10 : decode cX1_sideAt 10 = .ok (.iload_n 3, 1) := by decide +kernel
theorem dX1_sideAt_11 : decode cX1_sideAt 11 = .ok (.aload_n 0, 1) := by decide +kernel
theorem dX1_sideAt_12 : decode cX1_sideAt 12 = .ok (.getfield 15, 3) := by decide +kernel
theorem dX1_sideAt_15 : decode cX1_sideAt 15 = .ok (.arraylength, 1) := by decide +kernel
theorem dX1_sideAt_16 : decode cX1_sideAt 16 = .ok (.if_icmp .ge 12, 3) := by decide +kernel
theorem dX1_sideAt_19 : decode cX1_sideAt 19 = .ok (.aload_n 0, 1) := by decide +kernel
theorem dX1_sideAt_20 : decode cX1_sideAt 20 = .ok (.getfield 15, 3) := by decide +kernel
theorem dX1_sideAt_23 : decode cX1_sideAt 23 = .ok (.iload_n 3, 1) := by decide +kernel
theorem dX1_sideAt_24 : decode cX1_sideAt 24 = .ok (.iaload, 1) := by decide +kernel
theorem dX1_sideAt_25 : decode cX1_sideAt 25 = .ok (.goto 5, 3) := by decide +kernel
theorem dX1_sideAt_28 : decode cX1_sideAt 28 = .ok (.bipush (-9), 2) := by decide +kernel
theorem dX1_sideAt_30 : decode cX1_sideAt 30 = .ok (.ireturn, 1) := by decide +kernel
set_option maxRecDepth 20000 in
theorem ggX1_isFlat_X1_sideAt : GoodIn wsX1_isFlat wsX1_sideAt := goodIn_r _ [5, 6, 7, 8, 9, 10] (by decide +kernel) (by decide +kernel)
set_option maxRecDepth 20000 in
theorem gX1_isFlat_X1_sideAt : GoodIn wsX1_isFlat (wsV RX1 43 RX1 yX1_sideAt wsX1_sideAt) := goodIn_app (goodIn_of _ (by decide +kernel)) ggX1_isFlat_X1_sideAt
theorem dX1_isFlat_0 : decode cX1_isFlat 0 = .ok (.aload_n 0, 1) := by decide +kernel
theorem dX1_isFlat_1 : decode cX1_isFlat 1 = .ok (.iload_n 1, 1) := by decide +kernel
theorem dX1_isFlat_2 : decode cX1_isFlat 2 = .ok (.iload_n 2, 1) := by decide +kernel
theorem dX1_isFlat_3 : decode cX1_isFlat 3 = .ok (.invokevirtual 43, 3) := by decide +kernel
theorem dX1_isFlat_6 : decode cX1_isFlat 6 = .ok (.bipush (-9), 2) := by decide +kernel
theorem dX1_isFlat_8 : decode cX1_isFlat 8 = .ok (.if_icmp .ne 7, 3) := by decide +kernel
theorem dX1_isFlat_11 : decode cX1_isFlat 11 = .ok (.iconst 1, 1) := by decide +kernel
theorem dX1_isFlat_12 : decode cX1_isFlat 12 = .ok (.goto 4, 3) := by decide +kernel
theorem dX1_isFlat_15 : decode cX1_isFlat 15 = .ok (.iconst 0, 1) := by decide +kernel
theorem dX1_isFlat_16 : decode cX1_isFlat 16 = .ok (.ireturn, 1) := by decide +kernel
theorem dX1_nextTo_0 : decode cX1_nextTo 0 = .ok (.iload_n 2, 1) := by decide +kernel
theorem dX1_nextTo_1 : decode cX1_nextTo 1 = .ok (.tableswitch 45 0 2 #[27, 34, 38], 27) := by decide +kernel
theorem dX1_nextTo_28 : decode cX1_nextTo 28 = .ok (.iload_n 1, 1) := by decide +kernel
theorem dX1_nextTo_29 : decode cX1_nextTo 29 = .ok (.aload_n 0, 1) := by decide +kernel
theorem dX1_nextTo_30 : decode cX1_nextTo 30 = .ok (.getfield 22, 3) := by decide +kernel
theorem dX1_nextTo_33 : decode cX1_nextTo 33 = .ok (.isub, 1) := by decide +kernel
theorem dX1_nextTo_34 : decode cX1_nextTo 34 = .ok (.ireturn, 1) := by decide +kernel
theorem dX1_nextTo_35 : decode cX1_nextTo 35 = .ok (.iload_n 1, 1) := by decide +kernel
theorem dX1_nextTo_36 : decode cX1_nextTo 36 = .ok (.iconst 1, 1) := by decide +kernel
theorem dX1_nextTo_37 : decode cX1_nextTo 37 = .ok (.iadd, 1) := by decide +kernel
theorem dX1_nextTo_38 : decode cX1_nextTo 38 = .ok (.ireturn, 1) := by decide +kernel
theorem dX1_nextTo_39 : decode cX1_nextTo 39 = .ok (.iload_n 1, 1) := by decide +kernel
theorem dX1_nextTo_40 : decode cX1_nextTo 40 = .ok (.aload_n 0, 1) := by decide +kernel
theorem dX1_nextTo_41 : decode cX1_nextTo 41 = .ok (.getfield 22, 3) := by decide +kernel
theorem dX1_nextTo_44 : decode cX1_nextTo 44 = .ok (.iadd, 1) := by decide +kernel
theorem dX1_nextTo_45 : decode cX1_nextTo 45 = .ok (.ireturn, 1) := by decide +kernel
theorem dX1_nextTo_46 : decode cX1_nextTo 46 = .ok (.iload_n 1, 1) := by decide +kernel
theorem dX1_nextTo_47 : decode cX1_nextTo 47 = .ok (.iconst 1, 1) := by decide +kernel
theorem dX1_nextTo_48 : decode cX1_nextTo 48 = .ok (.isub, 1) := by decide +kernel
theorem dX1_nextTo_49 : decode cX1_nextTo 49 = .ok (.ireturn, 1) := by decide +kernel
theorem dX1_setHeight_0 : decode cX1_setHeight 0 = .ok (.iload_n 1, 1) := by decide +kernel
theorem dX1_setHeight_1 : decode cX1_setHeight 1 = .ok (.iconst 5, 1) := by decide +kernel
theorem dX1_setHeight_2 : decode cX1_setHeight 2 = .ok (.imul, 1) := by decide +kernel
theorem dX1_setHeight_3 : decode cX1_setHeight 3 = .ok (.iload_n 2, 1) := by decide +kernel
theorem dX1_setHeight_4 : decode cX1_setHeight 4 = .ok (.iadd, 1) := by decide +kernel
theorem dX1_setHeight_5 : decode cX1_setHeight 5 = .ok (.istore 4, 2) := by decide +kernel
theorem dX1_setHeight_7 : decode cX1_setHeight 7 = .ok (.iload 4, 2) := by decide +kernel
theorem dX1_setHeight_9 : decode cX1_setHeight 9 = .ok (.ifCond .lt 21, 3) := by decide +kernel
theorem dX1_setHeight_12 : decode cX1_setHeight 12 = .ok (.iload 4, 2) := by decide +kernel
theorem dX1_setHeight_14 : decode cX1_setHeight 14 = .ok (.aload_n 0, 1) := by decide +kernel
theorem dX1_setHeight_15 : decode cX1_setHeight 15 = .ok (.getfield 9, 3) := by decide +kernel
theorem dX1_setHeight_18 : decode cX1_setHeight 18 = .ok (.arraylength, 1) := by decide +kernel
theorem dX1_setHeight_19 : decode cX1_setHeight 19 = .ok (.if_icmp .ge 11, 3) := by decide +kernel
theorem dX1_setHeight_22 : decode cX1_setHeight 22 = .ok (.aload_n 0, 1) := by decide +kernel
theorem dX1_setHeight_23 : decode cX1_setHeight 23 = .ok (.getfield 9, 3) := by decide +kernel
theorem dX1_setHeight_26 : decode cX1_setHeight 26 = .ok (.iload 4, 2) := by decide +kernel
theorem dX1_setHeight_28 : decode cX1_setHeight 28 = .ok (.iload_n 3, 1) := by decide +kernel
theorem dX1_setHeight_29 : decode cX1_setHeight 29 = .ok (.iastore, 1) := by decide +kernel
theorem dX1_setHeight_30 : decode cX1_setHeight 30 = .ok (.return_, 1) := by decide +kernel
theorem dX1_heightAt_0 : decode cX1_heightAt 0 = .ok (.iload_n 1, 1) := by decide +kernel
theorem dX1_heightAt_1 : decode cX1_heightAt 1 = .ok (.iconst 5, 1) := by decide +kernel
theorem dX1_heightAt_2 : decode cX1_heightAt 2 = .ok (.imul, 1) := by decide +kernel
theorem dX1_heightAt_3 : decode cX1_heightAt 3 = .ok (.iload_n 3, 1) := by decide +kernel
theorem dX1_heightAt_4 : decode cX1_heightAt 4 = .ok (.ifCond .ne 7, 3) := by decide +kernel
theorem dX1_heightAt_7 : decode cX1_heightAt 7 = .ok (.iload_n 2, 1) := by decide +kernel
theorem dX1_heightAt_8 : decode cX1_heightAt 8 = .ok (.goto 6, 3) := by decide +kernel
theorem dX1_heightAt_11 : decode cX1_heightAt 11 = .ok (.iconst 4, 1) := by decide +kernel
theorem dX1_heightAt_12 : decode cX1_heightAt 12 = .ok (.iload_n 2, 1) := by decide +kernel
theorem dX1_heightAt_13 : decode cX1_heightAt 13 = .ok (.isub, 1) := by decide +kernel
theorem dX1_heightAt_14 : decode cX1_heightAt 14 = .ok (.iadd, 1) := by decide +kernel
theorem dX1_heightAt_15 : decode cX1_heightAt 15 = .ok (.istore 4, 2) := by decide +kernel
theorem dX1_heightAt_17 : decode cX1_heightAt 17 = .ok (.iload 4, 2) := by decide +kernel
theorem dX1_heightAt_19 : decode cX1_heightAt 19 = .ok (.ifCond .lt 13, 3) := by decide +kernel
theorem dX1_heightAt_22 : decode cX1_heightAt 22 = .ok (.iload 4, 2) := by decide +kernel
theorem dX1_heightAt_24 : decode cX1_heightAt 24 = .ok (.aload_n 0, 1) := by decide +kernel
theorem dX1_heightAt_25 : decode cX1_heightAt 25 = .ok (.getfield 9, 3) := by decide +kernel
theorem dX1_heightAt_28 : decode cX1_heightAt 28 = .ok (.arraylength, 1) := by decide +kernel
theorem dX1_heightAt_29 : decode cX1_heightAt 29 = .ok (.if_icmp .lt 5, 3) := by decide +kernel
theorem dX1_heightAt_32 : decode cX1_heightAt 32 = .ok (.iconst 0, 1) := by decide +kernel
theorem dX1_heightAt_33 : decode cX1_heightAt 33 = .ok (.ireturn, 1) := by decide +kernel
theorem dX1_heightAt_34 : decode cX1_heightAt 34 = .ok (.iload_n 3, 1) := by decide +kernel
theorem dX1_heightAt_35 : decode cX1_heightAt 35 = .ok (.ifCond .ne 13, 3) := by decide +kernel
theorem dX1_heightAt_38 : decode cX1_heightAt 38 = .ok (.aload_n 0, 1) := by decide +kernel
theorem dX1_heightAt_39 : decode cX1_heightAt 39 = .ok (.getfield 9, 3) := by decide +kernel
theorem dX1_heightAt_42 : decode cX1_heightAt 42 = .ok (.iload 4, 2) := by decide +kernel
theorem dX1_heightAt_44 : decode cX1_heightAt 44 = .ok (.iaload, 1) := by decide +kernel
theorem dX1_heightAt_45 : decode cX1_heightAt 45 = .ok (.goto 11, 3) := by decide +kernel
theorem dX1_heightAt_48 : decode cX1_heightAt 48 = .ok (.aload_n 0, 1) := by decide +kernel
theorem dX1_heightAt_49 : decode cX1_heightAt 49 = .ok (.getfield 9, 3) := by decide +kernel
theorem dX1_heightAt_52 : decode cX1_heightAt 52 = .ok (.iload 4, 2) := by decide +kernel
theorem dX1_heightAt_54 : decode cX1_heightAt 54 = .ok (.iaload, 1) := by decide +kernel
theorem dX1_heightAt_55 : decode cX1_heightAt 55 = .ok (.ineg, 1) := by decide +kernel
theorem dX1_heightAt_56 : decode cX1_heightAt 56 = .ok (.ireturn, 1) := by decide +kernel
set_option maxRecDepth 20000 in
theorem ggX1_edgeHeight_X1_sideAt : GoodIn wsX1_edgeHeight wsX1_sideAt := goodIn_r _ [5, 6, 12, 13, 14, 15] (by decide +kernel) (by decide +kernel)
set_option maxRecDepth 20000 in
theorem gX1_edgeHeight_X1_sideAt : GoodIn wsX1_edgeHeight (wsV RX1 43 RX1 yX1_sideAt wsX1_sideAt) := goodIn_app (goodIn_of _ (by decide +kernel)) ggX1_edgeHeight_X1_sideAt
set_option maxRecDepth 20000 in
theorem ggX1_edgeHeight_X1_heightAt : GoodIn wsX1_edgeHeight wsX1_heightAt := goodIn_r _ [10, 11, 12, 13, 14, 15] (by decide +kernel) (by decide +kernel)
set_option maxRecDepth 20000 in
theorem gX1_edgeHeight_X1_heightAt : GoodIn wsX1_edgeHeight (wsV RX1 47 RX1 yX1_heightAt wsX1_heightAt) := goodIn_app (goodIn_of _ (by decide +kernel)) ggX1_edgeHeight_X1_heightAt
theorem dX1_edgeHeight_0 : decode cX1_edgeHeight 0 = .ok (.iload_n 2, 1) := by decide +kernel
theorem dX1_edgeHeight_1 : decode cX1_edgeHeight 1 = .ok (.iconst 1, 1) := by decide +kernel
theorem dX1_edgeHeight_2 : decode cX1_edgeHeight 2 = .ok (.if_icmp .eq 8, 3) := by decide +kernel
theorem dX1_edgeHeight_5 : decode cX1_edgeHeight 5 = .ok (.iload_n 2, 1) := by decide +kernel
theorem dX1_edgeHeight_6 : decode cX1_edgeHeight 6 = .ok (.iconst 2, 1) := by decide +kernel
theorem dX1_edgeHeight_7 : decode cX1_edgeHeight 7 = .ok (.if_icmp .ne 7, 3) := by decide +kernel
theorem dX1_edgeHeight_10 : decode cX1_edgeHeight 10 = .ok (.iconst 0, 1) := by decide +kernel
theorem dX1_edgeHeight_11 : decode cX1_edgeHeight 11 = .ok (.goto 4, 3) := by decide +kernel
theorem dX1_edgeHeight_14 : decode cX1_edgeHeight 14 = .ok (.iconst 1, 1) := by decide +kernel
theorem dX1_edgeHeight_15 : decode cX1_edgeHeight 15 = .ok (.istore 4, 2) := by decide +kernel
theorem dX1_edgeHeight_17 : decode cX1_edgeHeight 17 = .ok (.aload_n 0, 1) := by decide +kernel
theorem dX1_edgeHeight_18 : decode cX1_edgeHeight 18 = .ok (.aload_n 0, 1) := by decide +kernel
theorem dX1_edgeHeight_19 : decode cX1_edgeHeight 19 = .ok (.iload_n 1, 1) := by decide +kernel
theorem dX1_edgeHeight_20 : decode cX1_edgeHeight 20 = .ok (.iload_n 2, 1) := by decide +kernel
theorem dX1_edgeHeight_21 : decode cX1_edgeHeight 21 = .ok (.invokevirtual 43, 3) := by decide +kernel
theorem dX1_edgeHeight_24 : decode cX1_edgeHeight 24 = .ok (.iload_n 3, 1) := by decide +kernel
theorem dX1_edgeHeight_25 : decode cX1_edgeHeight 25 = .ok (.iload 4, 2) := by decide +kernel
theorem dX1_edgeHeight_27 : decode cX1_edgeHeight 27 = .ok (.invokevirtual 47, 3) := by decide +kernel
theorem dX1_edgeHeight_30 : decode cX1_edgeHeight 30 = .ok (.ireturn, 1) := by decide +kernel
set_option maxRecDepth 20000 in
theorem ggX1_farness_X1_edgeHeight : GoodIn wsX1_farness wsX1_edgeHeight := goodIn_r _ [9, 10, 11, 12, 8, 13, 14, 15, 16, 17, 18, 19, 20, 21, 22, 23] (by decide +kernel) (by decide +kernel)
set_option maxRecDepth 20000 in
theorem gX1_farness_X1_edgeHeight : GoodIn wsX1_farness (wsV RX1 51 RX1 yX1_edgeHeight wsX1_edgeHeight) := goodIn_app (goodIn_of _ (by decide +kernel)) ggX1_farness_X1_edgeHeight
theorem dX1_farness_0 : decode cX1_farness 0 = .ok (.iconst 0, 1) := by decide +kernel
theorem dX1_farness_1 : decode cX1_farness 1 = .ok (.istore 5, 2) := by decide +kernel
theorem dX1_farness_3 : decode cX1_farness 3 = .ok (.iconst 0, 1) := by decide +kernel
theorem dX1_farness_4 : decode cX1_farness 4 = .ok (.istore 6, 2) := by decide +kernel
theorem dX1_farness_6 : decode cX1_farness 6 = .ok (.iload 6, 2) := by decide +kernel
theorem dX1_farness_8 : decode cX1_farness 8 = .ok (.iconst 5, 1) := by decide +kernel
theorem dX1_farness_9 : decode cX1_farness 9 = .ok (.if_icmp .ge 37, 3) := by decide +kernel
theorem dX1_farness_12 : decode cX1_farness 12 = .ok (.iload 5, 2) := by decide +kernel
theorem dX1_farness_14 : decode cX1_farness 14 = .ok (.aload_n 0, 1) := by decide +kernel
theorem dX1_farness_15 : decode cX1_farness 15 = .ok (.iload_n 1, 1) := by decide +kernel
theorem dX1_farness_16 : decode cX1_farness 16 = .ok (.iload_n 2, 1) := by decide +kernel
theorem dX1_farness_17 : decode cX1_farness 17 = .ok (.iload 6, 2) := by decide +kernel
theorem dX1_farness_19 : decode cX1_farness 19 = .ok (.invokevirtual 51, 3) := by decide +kernel
theorem dX1_farness_22 : decode cX1_farness 22 = .ok (.aload_n 0, 1) := by decide +kernel
theorem dX1_farness_23 : decode cX1_farness 23 = .ok (.iload_n 3, 1) := by decide +kernel
theorem dX1_farness_24 : decode cX1_farness 24 = .ok (.iload 4, 2) := by decide +kernel
theorem dX1_farness_26 : decode cX1_farness 26 = .ok (.iconst 4, 1) := by decide +kernel
theorem dX1_farness_27 : decode cX1_farness 27 = .ok (.iload 6, 2) := by decide +kernel
theorem dX1_farness_29 : decode cX1_farness 29 = .ok (.isub, 1) := by decide +kernel
theorem dX1_farness_30 : decode cX1_farness 30 = .ok (.invokevirtual 51, 3) := by decide +kernel
theorem dX1_farness_33 : decode cX1_farness 33 = .ok (.iadd, 1) := by decide +kernel
theorem dX1_farness_34 : decode cX1_farness 34 = .ok (.invokestatic 54, 3) := by decide +kernel
theorem dX1_farness_37 : decode cX1_farness 37 = .ok (.iadd, 1) := by decide +kernel
theorem dX1_farness_38 : decode cX1_farness 38 = .ok (.istore 5, 2) := by decide +kernel
theorem dX1_farness_40 : decode cX1_farness 40 = .ok (.iinc 6 1, 3) := by decide +kernel
theorem dX1_farness_43 : decode cX1_farness 43 = .ok (.goto (-37), 3) := by decide +kernel
theorem dX1_farness_46 : decode cX1_farness 46 = .ok (.iload 5, 2) := by decide +kernel
theorem dX1_farness_48 : decode cX1_farness 48 = .ok (.ireturn, 1) := by decide +kernel
set_option maxRecDepth 20000 in
theorem ggX1_sumOf_X1_heightAt : GoodIn wsX1_sumOf wsX1_heightAt := goodIn_r _ [5, 6, 7, 8, 9, 10] (by decide +kernel) (by decide +kernel)
set_option maxRecDepth 20000 in
theorem gX1_sumOf_X1_heightAt : GoodIn wsX1_sumOf (wsV RX1 47 RX1 yX1_heightAt wsX1_heightAt) := goodIn_app (goodIn_of _ (by decide +kernel)) ggX1_sumOf_X1_heightAt
theorem dX1_sumOf_0 : decode cX1_sumOf 0 = .ok (.iconst 0, 1) := by decide +kernel
theorem dX1_sumOf_1 : decode cX1_sumOf 1 = .ok (.istore_n 2, 1) := by decide +kernel
theorem dX1_sumOf_2 : decode cX1_sumOf 2 = .ok (.iconst 0, 1) := by decide +kernel
theorem dX1_sumOf_3 : decode cX1_sumOf 3 = .ok (.istore_n 3, 1) := by decide +kernel
theorem dX1_sumOf_4 : decode cX1_sumOf 4 = .ok (.iload_n 3, 1) := by decide +kernel
theorem dX1_sumOf_5 : decode cX1_sumOf 5 = .ok (.iconst 5, 1) := by decide +kernel
theorem dX1_sumOf_6 : decode cX1_sumOf 6 = .ok (.if_icmp .ge 19, 3) := by decide +kernel
theorem dX1_sumOf_9 : decode cX1_sumOf 9 = .ok (.iload_n 2, 1) := by decide +kernel
theorem dX1_sumOf_10 : decode cX1_sumOf 10 = .ok (.aload_n 0, 1) := by decide +kernel
theorem dX1_sumOf_11 : decode cX1_sumOf 11 = .ok (.iload_n 1, 1) := by decide +kernel
theorem dX1_sumOf_12 : decode cX1_sumOf 12 = .ok (.iload_n 3, 1) := by decide +kernel
theorem dX1_sumOf_13 : decode cX1_sumOf 13 = .ok (.iconst 0, 1) := by decide +kernel
theorem dX1_sumOf_14 : decode cX1_sumOf 14 = .ok (.invokevirtual 47, 3) := by decide +kernel
theorem dX1_sumOf_17 : decode cX1_sumOf 17 = .ok (.iadd, 1) := by decide +kernel
theorem dX1_sumOf_18 : decode cX1_sumOf 18 = .ok (.istore_n 2, 1) := by decide +kernel
theorem dX1_sumOf_19 : decode cX1_sumOf 19 = .ok (.iinc 3 1, 3) := by decide +kernel
theorem dX1_sumOf_22 : decode cX1_sumOf 22 = .ok (.goto (-18), 3) := by decide +kernel
theorem dX1_sumOf_25 : decode cX1_sumOf 25 = .ok (.iload_n 2, 1) := by decide +kernel
theorem dX1_sumOf_26 : decode cX1_sumOf 26 = .ok (.ireturn, 1) := by decide +kernel
set_option maxRecDepth 20000 in
theorem ggX1_kindAt_X1_bulges : GoodIn wsX1_kindAt wsX1_bulges := goodIn_r _ [5, 6, 7, 8, 4, 9, 10, 21, 22, 23, 24] (by decide +kernel) (by decide +kernel)
set_option maxRecDepth 20000 in
theorem gX1_kindAt_X1_bulges : GoodIn wsX1_kindAt (wsV RX1 60 RX1 yX1_bulges wsX1_bulges) := goodIn_app (goodIn_of _ (by decide +kernel)) ggX1_kindAt_X1_bulges
set_option maxRecDepth 20000 in
theorem ggX1_kindAt_X1_sides : GoodIn wsX1_kindAt wsX1_sides := goodIn_r _ [14, 15, 16, 21, 22, 23, 24] (by decide +kernel) (by decide +kernel)
set_option maxRecDepth 20000 in
theorem gX1_kindAt_X1_sides : GoodIn wsX1_kindAt (wsV RX1 32 RX1 yX1_sides wsX1_sides) := goodIn_app (goodIn_of _ (by decide +kernel)) ggX1_kindAt_X1_sides
set_option maxRecDepth 20000 in
theorem ggX1_kindAt_X1_differing : GoodIn wsX1_kindAt wsX1_differing := goodIn_r _ [20, 6, 7, 8, 4, 9, 10, 21, 22, 23, 24] (by decide +kernel) (by decide +kernel)
set_option maxRecDepth 20000 in
theorem gX1_kindAt_X1_differing : GoodIn wsX1_kindAt (wsV RX1 63 RX1 yX1_differing wsX1_differing) := goodIn_app (goodIn_of _ (by decide +kernel)) ggX1_kindAt_X1_differing
theorem dX1_kindAt_0 : decode cX1_kindAt 0 = .ok (.aload_n 0, 1) := by decide +kernel
theorem dX1_kindAt_1 : decode cX1_kindAt 1 = .ok (.iload_n 1, 1) := by decide +kernel
theorem dX1_kindAt_2 : decode cX1_kindAt 2 = .ok (.invokevirtual 60, 3) := by decide +kernel
theorem dX1_kindAt_5 : decode cX1_kindAt 5 = .ok (.ifCond .ne 5, 3) := by decide +kernel
theorem dX1_kindAt_8 : decode cX1_kindAt 8 = .ok (.iconst 0, 1) := by decide +kernel
theorem dX1_kindAt_9 : decode cX1_kindAt 9 = .ok (.ireturn, 1) := by decide +kernel
theorem dX1_kindAt_10 : decode cX1_kindAt 10 = .ok (.iconst 0, 1) := by decide +kernel
theorem dX1_kindAt_11 : decode cX1_kindAt 11 = .ok (.istore_n 2, 1) := by decide +kernel
theorem dX1_kindAt_12 : decode cX1_kindAt 12 = .ok (.iload_n 2, 1) := by decide +kernel
theorem dX1_kindAt_13 : decode cX1_kindAt 13 = .ok (.aload_n 0, 1) := by decide +kernel
theorem dX1_kindAt_14 : decode cX1_kindAt 14 = .ok (.invokevirtual 32, 3) := by decide +kernel
theorem dX1_kindAt_17 : decode cX1_kindAt 17 = .ok (.if_icmp .ge 36, 3) := by decide +kernel
theorem dX1_kindAt_20 : decode cX1_kindAt 20 = .ok (.iload_n 2, 1) := by decide +kernel
theorem dX1_kindAt_21 : decode cX1_kindAt 21 = .ok (.iload_n 1, 1) := by decide +kernel
theorem dX1_kindAt_22 : decode cX1_kindAt 22 = .ok (.if_icmp .eq 25, 3) := by decide +kernel
theorem dX1_kindAt_25 : decode cX1_kindAt 25 = .ok (.aload_n 0, 1) := by decide +kernel
theorem dX1_kindAt_26 : decode cX1_kindAt 26 = .ok (.iload_n 1, 1) := by decide +kernel
theorem dX1_kindAt_27 : decode cX1_kindAt 27 = .ok (.iload_n 2, 1) := by decide +kernel
theorem dX1_kindAt_28 : decode cX1_kindAt 28 = .ok (.iconst 0, 1) := by decide +kernel
theorem dX1_kindAt_29 : decode cX1_kindAt 29 = .ok (.invokevirtual 63, 3) := by decide +kernel
theorem dX1_kindAt_32 : decode cX1_kindAt 32 = .ok (.ifCond .eq 13, 3) := by decide +kernel
theorem dX1_kindAt_35 : decode cX1_kindAt 35 = .ok (.aload_n 0, 1) := by decide +kernel
theorem dX1_kindAt_36 : decode cX1_kindAt 36 = .ok (.iload_n 1, 1) := by decide +kernel
theorem dX1_kindAt_37 : decode cX1_kindAt 37 = .ok (.iload_n 2, 1) := by decide +kernel
theorem dX1_kindAt_38 : decode cX1_kindAt 38 = .ok (.iconst 1, 1) := by decide +kernel
theorem dX1_kindAt_39 : decode cX1_kindAt 39 = .ok (.invokevirtual 63, 3) := by decide +kernel
theorem dX1_kindAt_42 : decode cX1_kindAt 42 = .ok (.ifCond .ne 5, 3) := by decide +kernel
theorem dX1_kindAt_45 : decode cX1_kindAt 45 = .ok (.iconst 2, 1) := by decide +kernel
theorem dX1_kindAt_46 : decode cX1_kindAt 46 = .ok (.ireturn, 1) := by decide +kernel
theorem dX1_kindAt_47 : decode cX1_kindAt 47 = .ok (.iinc 2 1, 3) := by decide +kernel
theorem dX1_kindAt_50 : decode cX1_kindAt 50 = .ok (.goto (-38), 3) := by decide +kernel
theorem dX1_kindAt_53 : decode cX1_kindAt 53 = .ok (.iconst 1, 1) := by decide +kernel
theorem dX1_kindAt_54 : decode cX1_kindAt 54 = .ok (.ireturn, 1) := by decide +kernel
set_option maxRecDepth 20000 in
theorem ggX1_bulges_X1_heightAt : GoodIn wsX1_bulges wsX1_heightAt := goodIn_r _ [5, 6, 7, 8, 9, 10] (by decide +kernel) (by decide +kernel)
set_option maxRecDepth 20000 in
theorem gX1_bulges_X1_heightAt : GoodIn wsX1_bulges (wsV RX1 47 RX1 yX1_heightAt wsX1_heightAt) := goodIn_app (goodIn_of _ (by decide +kernel)) ggX1_bulges_X1_heightAt
theorem dX1_bulges_0 : decode cX1_bulges 0 = .ok (.iconst 0, 1) := by decide +kernel
theorem dX1_bulges_1 : decode cX1_bulges 1 = .ok (.istore_n 2, 1) := by decide +kernel
theorem dX1_bulges_2 : decode cX1_bulges 2 = .ok (.iconst 0, 1) := by decide +kernel
theorem dX1_bulges_3 : decode cX1_bulges 3 = .ok (.istore_n 3, 1) := by decide +kernel
theorem dX1_bulges_4 : decode cX1_bulges 4 = .ok (.iconst 0, 1) := by decide +kernel
theorem dX1_bulges_5 : decode cX1_bulges 5 = .ok (.istore 4, 2) := by decide +kernel
theorem dX1_bulges_7 : decode cX1_bulges 7 = .ok (.iload 4, 2) := by decide +kernel
theorem dX1_bulges_9 : decode cX1_bulges 9 = .ok (.iconst 5, 1) := by decide +kernel
theorem dX1_bulges_10 : decode cX1_bulges 10 = .ok (.if_icmp .ge 45, 3) := by decide +kernel
theorem dX1_bulges_13 : decode cX1_bulges 13 = .ok (.aload_n 0, 1) := by decide +kernel
theorem dX1_bulges_14 : decode cX1_bulges 14 = .ok (.iload_n 1, 1) := by decide +kernel
theorem dX1_bulges_15 : decode cX1_bulges 15 = .ok (.iload 4, 2) := by decide +kernel
theorem dX1_bulges_17 : decode cX1_bulges 17 = .ok (.iconst 0, 1) := by decide +kernel
theorem dX1_bulges_18 : decode cX1_bulges 18 = .ok (.invokevirtual 47, 3) := by decide +kernel
theorem dX1_bulges_21 : decode cX1_bulges 21 = .ok (.istore 5, 2) := by decide +kernel
theorem dX1_bulges_23 : decode cX1_bulges 23 = .ok (.iload_n 2, 1) := by decide +kernel
theorem dX1_bulges_24 : decode cX1_bulges 24 = .ok (.iload 5, 2) := by decide +kernel
theorem dX1_bulges_26 : decode cX1_bulges 26 = .ok (.ifCond .le 7, 3) := by decide +kernel
theorem dX1_bulges_29 : decode cX1_bulges 29 = .ok (.iconst 1, 1) := by decide +kernel
theorem dX1_bulges_30 : decode cX1_bulges 30 = .ok (.goto 4, 3) := by decide +kernel
theorem dX1_bulges_33 : decode cX1_bulges 33 = .ok (.iconst 0, 1) := by decide +kernel
theorem dX1_bulges_34 : decode cX1_bulges 34 = .ok (.iadd, 1) := by decide +kernel
theorem dX1_bulges_35 : decode cX1_bulges 35 = .ok (.istore_n 2, 1) := by decide +kernel
theorem dX1_bulges_36 : decode cX1_bulges 36 = .ok (.iload_n 3, 1) := by decide +kernel
theorem dX1_bulges_37 : decode cX1_bulges 37 = .ok (.iload 5, 2) := by decide +kernel
theorem dX1_bulges_39 : decode cX1_bulges 39 = .ok (.ifCond .ge 7, 3) := by decide +kernel
theorem dX1_bulges_42 : decode cX1_bulges 42 = .ok (.iconst 1, 1) := by decide +kernel
theorem dX1_bulges_43 : decode cX1_bulges 43 = .ok (.goto 4, 3) := by decide +kernel
theorem dX1_bulges_46 : decode cX1_bulges 46 = .ok (.iconst 0, 1) := by decide +kernel
theorem dX1_bulges_47 : decode cX1_bulges 47 = .ok (.iadd, 1) := by decide +kernel
theorem dX1_bulges_48 : decode cX1_bulges 48 = .ok (.istore_n 3, 1) := by decide +kernel
theorem dX1_bulges_49 : decode cX1_bulges 49 = .ok (.iinc 4 1, 3) := by decide +kernel
theorem dX1_bulges_52 : decode cX1_bulges 52 = .ok (.goto (-45), 3) := by decide +kernel
theorem dX1_bulges_55 : decode cX1_bulges 55 = .ok (.iload_n 2, 1) := by decide +kernel
theorem dX1_bulges_56 : decode cX1_bulges 56 = .ok (.iconst 5, 1) := by decide +kernel
theorem dX1_bulges_57 : decode cX1_bulges 57 = .ok (.if_icmp .eq 8, 3) := by decide +kernel
theorem dX1_bulges_60 : decode cX1_bulges 60 = .ok (.iload_n 3, 1) := by decide +kernel
theorem dX1_bulges_61 : decode cX1_bulges 61 = .ok (.iconst 5, 1) := by decide +kernel
theorem dX1_bulges_62 : decode cX1_bulges 62 = .ok (.if_icmp .ne 7, 3) := by decide +kernel
theorem dX1_bulges_65 : decode cX1_bulges 65 = .ok (.iconst 1, 1) := by decide +kernel
theorem dX1_bulges_66 : decode cX1_bulges 66 = .ok (.goto 4, 3) := by decide +kernel
theorem dX1_bulges_69 : decode cX1_bulges 69 = .ok (.iconst 0, 1) := by decide +kernel
theorem dX1_bulges_70 : decode cX1_bulges 70 = .ok (.ireturn, 1) := by decide +kernel
set_option maxRecDepth 20000 in
theorem ggX1_differing_X1_heightAt : GoodIn wsX1_differing wsX1_heightAt := goodIn_r _ [5, 6, 7, 8, 9, 10] (by decide +kernel) (by decide +kernel)
set_option maxRecDepth 20000 in
theorem gX1_differing_X1_heightAt : GoodIn wsX1_differing (wsV RX1 47 RX1 yX1_heightAt wsX1_heightAt) := goodIn_app (goodIn_of _ (by decide +kernel)) ggX1_differing_X1_heightAt
theorem dX1_differing_0 : decode cX1_differing 0 = .ok (.iconst 0, 1) := by decide +kernel
theorem dX1_differing_1 : decode cX1_differing 1 = .ok (.istore 4, 2) := by decide +kernel
theorem dX1_differing_3 : decode cX1_differing 3 = .ok (.iconst 0, 1) := by decide +kernel
theorem dX1_differing_4 : decode cX1_differing 4 = .ok (.istore 5, 2) := by decide +kernel
theorem dX1_differing_6 : decode cX1_differing 6 = .ok (.iload 5, 2) := by decide +kernel
theorem dX1_differing_8 : decode cX1_differing 8 = .ok (.iconst 5, 1) := by decide +kernel
theorem dX1_differing_9 : decode cX1_differing 9 = .ok (.if_icmp .ge 31, 3) := by decide +kernel
theorem dX1_differing_12 : decode cX1_differing 12 = .ok (.aload_n 0, 1) := by decide +kernel
theorem dX1_differing_13 : decode cX1_differing 13 = .ok (.iload_n 1, 1) := by decide +kernel
theorem dX1_differing_14 : decode cX1_differing 14 = .ok (.iload 5, 2) := by decide +kernel
theorem dX1_differing_16 : decode cX1_differing 16 = .ok (.iconst 0, 1) := by decide +kernel
theorem dX1_differing_17 : decode cX1_differing 17 = .ok (.invokevirtual 47, 3) := by decide +kernel
theorem dX1_differing_20 : decode cX1_differing 20 = .ok (.aload_n 0, 1) := by decide +kernel
theorem dX1_differing_21 : decode cX1_differing 21 = .ok (.iload_n 2, 1) := by decide +kernel
theorem dX1_differing_22 : decode cX1_differing 22 = .ok (.iload 5, 2) := by decide +kernel
theorem dX1_differing_24 : decode cX1_differing 24 = .ok (.iload_n 3, 1) := by decide +kernel
theorem dX1_differing_25 : decode cX1_differing 25 = .ok (.invokevirtual 47, 3) := by decide +kernel
theorem dX1_differing_28 : decode cX1_differing 28 = .ok (.if_icmp .eq 6, 3) := by decide +kernel
theorem dX1_differing_31 : decode cX1_differing 31 = .ok (.iinc 4 1, 3) := by decide +kernel
theorem dX1_differing_34 : decode cX1_differing 34 = .ok (.iinc 5 1, 3) := by decide +kernel
theorem dX1_differing_37 : decode cX1_differing 37 = .ok (.goto (-31), 3) := by decide +kernel
theorem dX1_differing_40 : decode cX1_differing 40 = .ok (.iload 4, 2) := by decide +kernel
theorem dX1_differing_42 : decode cX1_differing 42 = .ok (.ireturn, 1) := by decide +kernel
set_option maxRecDepth 20000 in
theorem ggX1_giveShape_X1_differing : GoodIn wsX1_giveShape wsX1_differing := goodIn_r _ [5, 6, 7, 8, 4, 9, 10, 15, 16, 17, 18] (by decide +kernel) (by decide +kernel)
set_option maxRecDepth 20000 in
theorem gX1_giveShape_X1_differing : GoodIn wsX1_giveShape (wsV RX1 63 RX1 yX1_differing wsX1_differing) := goodIn_app (goodIn_of _ (by decide +kernel)) ggX1_giveShape_X1_differing
set_option maxRecDepth 20000 in
theorem ggX1_giveShape_X1_heightAt : GoodIn wsX1_giveShape wsX1_heightAt := goodIn_r _ [9, 10, 15, 16, 17, 18] (by decide +kernel) (by decide +kernel)
set_option maxRecDepth 20000 in
theorem gX1_giveShape_X1_heightAt : GoodIn wsX1_giveShape (wsV RX1 47 RX1 yX1_heightAt wsX1_heightAt) := goodIn_app (goodIn_of _ (by decide +kernel)) ggX1_giveShape_X1_heightAt
set_option maxRecDepth 20000 in
theorem ggX1_giveShape_X1_setHeight : GoodIn wsX1_giveShape wsX1_setHeight := goodIn_r _ [14, 10, 15, 16, 17, 18] (by decide +kernel) (by decide +kernel)
set_option maxRecDepth 20000 in
theorem gX1_giveShape_X1_setHeight : GoodIn wsX1_giveShape (wsV RX1 66 RX1 yX1_setHeight wsX1_setHeight) := goodIn_app (goodIn_of _ (by decide +kernel)) ggX1_giveShape_X1_setHeight
theorem dX1_giveShape_0 : decode cX1_giveShape 0 = .ok (.aload_n 0, 1) := by decide +kernel
theorem dX1_giveShape_1 : decode cX1_giveShape 1 = .ok (.iload_n 1, 1) := by decide +kernel
theorem dX1_giveShape_2 : decode cX1_giveShape 2 = .ok (.iload_n 2, 1) := by decide +kernel
theorem dX1_giveShape_3 : decode cX1_giveShape 3 = .ok (.iload_n 3, 1) := by decide +kernel
theorem dX1_giveShape_4 : decode cX1_giveShape 4 = .ok (.invokevirtual 63, 3) := by decide +kernel
theorem dX1_giveShape_7 : decode cX1_giveShape 7 = .ok (.istore 4, 2) := by decide +kernel
theorem dX1_giveShape_9 : decode cX1_giveShape 9 = .ok (.iconst 0, 1) := by decide +kernel
theorem dX1_giveShape_10 : decode cX1_giveShape 10 = .ok (.istore 5, 2) := by decide +kernel
theorem dX1_giveShape_12 : decode cX1_giveShape 12 = .ok (.iload 5, 2) := by decide +kernel
theorem dX1_giveShape_14 : decode cX1_giveShape 14 = .ok (.iconst 5, 1) := by decide +kernel
theorem dX1_giveShape_15 : decode cX1_giveShape 15 = .ok (.if_icmp .ge 24, 3) := by decide +kernel
theorem dX1_giveShape_18 : decode cX1_giveShape 18 = .ok (.aload_n 0, 1) := by decide +kernel
theorem dX1_giveShape_19 : decode cX1_giveShape 19 = .ok (.iload_n 1, 1) := by decide +kernel
theorem dX1_giveShape_20 : decode cX1_giveShape 20 = .ok (.iload 5, 2) := by decide +kernel
theorem dX1_giveShape_22 : decode cX1_giveShape 22 = .ok (.aload_n 0, 1) := by decide +kernel
theorem dX1_giveShape_23 : decode cX1_giveShape 23 = .ok (.iload_n 2, 1) := by decide +kernel
theorem dX1_giveShape_24 : decode cX1_giveShape 24 = .ok (.iload 5, 2) := by decide +kernel
theorem dX1_giveShape_26 : decode cX1_giveShape 26 = .ok (.iload_n 3, 1) := by decide +kernel
theorem dX1_giveShape_27 : decode cX1_giveShape 27 = .ok (.invokevirtual 47, 3) := by decide +kernel
theorem dX1_giveShape_30 : decode cX1_giveShape 30 = .ok (.invokevirtual 66, 3) := by decide +kernel
theorem dX1_giveShape_33 : decode cX1_giveShape 33 = .ok (.iinc 5 1, 3) := by decide +kernel
theorem dX1_giveShape_36 : decode cX1_giveShape 36 = .ok (.goto (-24), 3) := by decide +kernel
theorem dX1_giveShape_39 : decode cX1_giveShape 39 = .ok (.iload 4, 2) := by decide +kernel
theorem dX1_giveShape_41 : decode cX1_giveShape 41 = .ok (.ireturn, 1) := by decide +kernel
set_option maxRecDepth 20000 in
theorem ggX1_leastFar_X1_pieces : GoodIn wsX1_leastFar wsX1_pieces := goodIn_r _ [5, 6, 7, 38, 39, 40, 41] (by decide +kernel) (by decide +kernel)
set_option maxRecDepth 20000 in
theorem gX1_leastFar_X1_pieces : GoodIn wsX1_leastFar (wsV RX1 36 RX1 yX1_pieces wsX1_pieces) := goodIn_app (goodIn_of _ (by decide +kernel)) ggX1_leastFar_X1_pieces
set_option maxRecDepth 20000 in
theorem ggX1_leastFar_X1_strangersApart : GoodIn wsX1_leastFar wsX1_strangersApart := goodIn_r _ [11, 12, 13, 14, 4, 15, 16, 17, 18, 19, 20, 21, 22, 23, 24, 25, 26, 27, 28, 29, 30, 31, 32, 33, 34, 35, 36, 37, 38, 39, 40, 41] (by decide +kernel) (by decide +kernel)
set_option maxRecDepth 20000 in
theorem gX1_leastFar_X1_strangersApart : GoodIn wsX1_leastFar (wsV RX1 70 RX1 yX1_strangersApart wsX1_strangersApart) := goodIn_app (goodIn_of _ (by decide +kernel)) ggX1_leastFar_X1_strangersApart
theorem dX1_leastFar_0 : decode cX1_leastFar 0 = .ok (.bipush (-9), 2) := by decide +kernel
theorem dX1_leastFar_2 : decode cX1_leastFar 2 = .ok (.istore_n 1, 1) := by decide +kernel
theorem dX1_leastFar_3 : decode cX1_leastFar 3 = .ok (.iconst 0, 1) := by decide +kernel
theorem dX1_leastFar_4 : decode cX1_leastFar 4 = .ok (.istore_n 2, 1) := by decide +kernel
theorem dX1_leastFar_5 : decode cX1_leastFar 5 = .ok (.iload_n 2, 1) := by decide +kernel
theorem dX1_leastFar_6 : decode cX1_leastFar 6 = .ok (.aload_n 0, 1) := by decide +kernel
theorem dX1_leastFar_7 : decode cX1_leastFar 7 = .ok (.invokevirtual 36, 3) := by decide +kernel
theorem dX1_leastFar_10 : decode cX1_leastFar 10 = .ok (.iconst 4, 1) := by decide +kernel
theorem dX1_leastFar_11 : decode cX1_leastFar 11 = .ok (.imul, 1) := by decide +kernel
theorem dX1_leastFar_12 : decode cX1_leastFar 12 = .ok (.if_icmp .ge 59, 3) := by decide +kernel
theorem dX1_leastFar_15 : decode cX1_leastFar 15 = .ok (.iload_n 2, 1) := by decide +kernel
theorem dX1_leastFar_16 : decode cX1_leastFar 16 = .ok (.iconst 1, 1) := by decide +kernel
theorem dX1_leastFar_17 : decode cX1_leastFar 17 = .ok (.iadd, 1) := by decide +kernel
theorem dX1_leastFar_18 : decode cX1_leastFar 18 = .ok (.istore_n 3, 1) := by decide +kernel
theorem dX1_leastFar_19 : decode cX1_leastFar 19 = .ok (.iload_n 3, 1) := by decide +kernel
theorem dX1_leastFar_20 : decode cX1_leastFar 20 = .ok (.aload_n 0, 1) := by decide +kernel
theorem dX1_leastFar_21 : decode cX1_leastFar 21 = .ok (.invokevirtual 36, 3) := by decide +kernel
theorem dX1_leastFar_24 : decode cX1_leastFar 24 = .ok (.iconst 4, 1) := by decide +kernel
theorem dX1_leastFar_25 : decode cX1_leastFar 25 = .ok (.imul, 1) := by decide +kernel
theorem dX1_leastFar_26 : decode cX1_leastFar 26 = .ok (.if_icmp .ge 39, 3) := by decide +kernel
theorem dX1_leastFar_29 : decode cX1_leastFar 29 = .ok (.aload_n 0, 1) := by decide +kernel
theorem dX1_leastFar_30 : decode cX1_leastFar 30 = .ok (.iload_n 2, 1) := by decide +kernel
theorem dX1_leastFar_31 : decode cX1_leastFar 31 = .ok (.iload_n 3, 1) := by decide +kernel
theorem dX1_leastFar_32 : decode cX1_leastFar 32 = .ok (.invokevirtual 70, 3) := by decide +kernel
theorem dX1_leastFar_35 : decode cX1_leastFar 35 = .ok (.istore 4, 2) := by decide +kernel
theorem dX1_leastFar_37 : decode cX1_leastFar 37 = .ok (.iload 4, 2) := by decide +kernel
theorem dX1_leastFar_39 : decode cX1_leastFar 39 = .ok (.bipush (-9), 2) := by decide +kernel
theorem dX1_leastFar_41 : decode cX1_leastFar 41 = .ok (.if_icmp .eq 18, 3) := by decide +kernel
theorem dX1_leastFar_44 : decode cX1_leastFar 44 = .ok (.iload_n 1, 1) := by decide +kernel
theorem dX1_leastFar_45 : decode cX1_leastFar 45 = .ok (.bipush (-9), 2) := by decide +kernel
theorem dX1_leastFar_47 : decode cX1_leastFar 47 = .ok (.if_icmp .eq 9, 3) := by decide +kernel
theorem dX1_leastFar_50 : decode cX1_leastFar 50 = .ok (.iload 4, 2) := by decide +kernel
theorem dX1_leastFar_52 : decode cX1_leastFar 52 = .ok (.iload_n 1, 1) := by decide +kernel
theorem dX1_leastFar_53 : decode cX1_leastFar 53 = .ok (.if_icmp .ge 6, 3) := by decide +kernel
theorem dX1_leastFar_56 : decode cX1_leastFar 56 = .ok (.iload 4, 2) := by decide +kernel
theorem dX1_leastFar_58 : decode cX1_leastFar 58 = .ok (.istore_n 1, 1) := by decide +kernel
theorem dX1_leastFar_59 : decode cX1_leastFar 59 = .ok (.iinc 3 1, 3) := by decide +kernel
theorem dX1_leastFar_62 : decode cX1_leastFar 62 = .ok (.goto (-43), 3) := by decide +kernel
theorem dX1_leastFar_65 : decode cX1_leastFar 65 = .ok (.iinc 2 1, 3) := by decide +kernel
theorem dX1_leastFar_68 : decode cX1_leastFar 68 = .ok (.goto (-63), 3) := by decide +kernel
theorem dX1_leastFar_71 : decode cX1_leastFar 71 = .ok (.iload_n 1, 1) := by decide +kernel
theorem dX1_leastFar_72 : decode cX1_leastFar 72 = .ok (.ireturn, 1) := by decide +kernel
set_option maxRecDepth 20000 in
theorem ggX1_pairsWithin_X1_pieces : GoodIn wsX1_pairsWithin wsX1_pieces := goodIn_r _ [5, 6, 7, 38, 39, 40, 41] (by decide +kernel) (by decide +kernel)
set_option maxRecDepth 20000 in
theorem gX1_pairsWithin_X1_pieces : GoodIn wsX1_pairsWithin (wsV RX1 36 RX1 yX1_pieces wsX1_pieces) := goodIn_app (goodIn_of _ (by decide +kernel)) ggX1_pairsWithin_X1_pieces
set_option maxRecDepth 20000 in
theorem ggX1_pairsWithin_X1_strangersApart : GoodIn wsX1_pairsWithin wsX1_strangersApart := goodIn_r _ [11, 12, 13, 14, 4, 15, 16, 17, 18, 19, 20, 21, 22, 23, 24, 25, 26, 27, 28, 29, 30, 31, 32, 33, 34, 35, 36, 37, 38, 39, 40, 41] (by decide +kernel) (by decide +kernel)
set_option maxRecDepth 20000 in
theorem gX1_pairsWithin_X1_strangersApart : GoodIn wsX1_pairsWithin (wsV RX1 70 RX1 yX1_strangersApart wsX1_strangersApart) := goodIn_app (goodIn_of _ (by decide +kernel)) ggX1_pairsWithin_X1_strangersApart
theorem dX1_pairsWithin_0 : decode cX1_pairsWithin 0 = .ok (.iconst 0, 1) := by decide +kernel
theorem dX1_pairsWithin_1 : decode cX1_pairsWithin 1 = .ok (.istore_n 2, 1) := by decide +kernel
theorem dX1_pairsWithin_2 : decode cX1_pairsWithin 2 = .ok (.iconst 0, 1) := by decide +kernel
theorem dX1_pairsWithin_3 : decode cX1_pairsWithin 3 = .ok (.istore_n 3, 1) := by decide +kernel
theorem dX1_pairsWithin_4 : decode cX1_pairsWithin 4 = .ok (.iload_n 3, 1) := by decide +kernel
theorem dX1_pairsWithin_5 : decode cX1_pairsWithin 5 = .ok (.aload_n 0, 1) := by decide +kernel
theorem dX1_pairsWithin_6 : decode cX1_pairsWithin 6 = .ok (.invokevirtual 36, 3) := by decide +kernel
theorem dX1_pairsWithin_9 : decode cX1_pairsWithin 9 = .ok (.iconst 4, 1) := by decide +kernel
theorem dX1_pairsWithin_10 : decode cX1_pairsWithin 10 = .ok (.imul, 1) := by decide +kernel
theorem dX1_pairsWithin_11 : decode cX1_pairsWithin 11 = .ok (.if_icmp .ge 56, 3) := by decide +kernel
theorem dX1_pairsWithin_14 : decode cX1_pairsWithin 14 = .ok (.iload_n 3, 1) := by decide +kernel
theorem dX1_pairsWithin_15 : decode cX1_pairsWithin 15 = .ok (.iconst 1, 1) := by decide +kernel
theorem dX1_pairsWithin_16 : decode cX1_pairsWithin 16 = .ok (.iadd, 1) := by decide +kernel
theorem dX1_pairsWithin_17 : decode cX1_pairsWithin 17 = .ok (.istore 4, 2) := by decide +kernel
theorem dX1_pairsWithin_19 : decode cX1_pairsWithin 19 = .ok (.iload 4, 2) := by decide +kernel
theorem dX1_pairsWithin_21 : decode cX1_pairsWithin 21 = .ok (.aload_n 0, 1) := by decide +kernel
theorem dX1_pairsWithin_22 : decode cX1_pairsWithin 22 = .ok (.invokevirtual 36, 3) := by decide +kernel
theorem dX1_pairsWithin_25 : decode cX1_pairsWithin 25 = .ok (.iconst 4, 1) := by decide +kernel
theorem dX1_pairsWithin_26 : decode cX1_pairsWithin 26 = .ok (.imul, 1) := by decide +kernel
theorem dX1_pairsWithin_27 : decode cX1_pairsWithin 27 = .ok (.if_icmp .ge 34, 3) := by decide +kernel
theorem dX1_pairsWithin_30 : decode cX1_pairsWithin 30 = .ok (.aload_n 0, 1) := by decide +kernel
theorem dX1_pairsWithin_31 : decode cX1_pairsWithin 31 = .ok (.iload_n 3, 1) := by decide +kernel
theorem dX1_pairsWithin_32 : decode cX1_pairsWithin 32 = .ok (.iload 4, 2) := by decide +kernel
theorem dX1_pairsWithin_34 : decode cX1_pairsWithin 34 = .ok (.invokevirtual 70, 3) := by decide +kernel
theorem dX1_pairsWithin_37 : decode cX1_pairsWithin 37 = .ok (.istore 5, 2) := by decide +kernel
theorem dX1_pairsWithin_39 : decode cX1_pairsWithin 39 = .ok (.iload 5, 2) := by decide +kernel
theorem dX1_pairsWithin_41 : decode cX1_pairsWithin 41 = .ok (.bipush (-9), 2) := by decide +kernel
theorem dX1_pairsWithin_43 : decode cX1_pairsWithin 43 = .ok (.if_icmp .eq 12, 3) := by decide +kernel
theorem dX1_pairsWithin_46 : decode cX1_pairsWithin 46 = .ok (.iload 5, 2) := by decide +kernel
theorem dX1_pairsWithin_48 : decode cX1_pairsWithin 48 = .ok (.iload_n 1, 1) := by decide +kernel
theorem dX1_pairsWithin_49 : decode cX1_pairsWithin 49 = .ok (.if_icmp .gt 6, 3) := by decide +kernel
theorem dX1_pairsWithin_52 : decode cX1_pairsWithin 52 = .ok (.iinc 2 1, 3) := by decide +kernel
theorem dX1_pairsWithin_55 : decode cX1_pairsWithin 55 = .ok (.iinc 4 1, 3) := by decide +kernel
theorem dX1_pairsWithin_58 : decode cX1_pairsWithin 58 = .ok (.goto (-39), 3) := by decide +kernel
theorem dX1_pairsWithin_61 : decode cX1_pairsWithin 61 = .ok (.iinc 3 1, 3) := by decide +kernel
theorem dX1_pairsWithin_64 : decode cX1_pairsWithin 64 = .ok (.goto (-60), 3) := by decide +kernel
theorem dX1_pairsWithin_67 : decode cX1_pairsWithin 67 = .ok (.iload_n 2, 1) := by decide +kernel
theorem dX1_pairsWithin_68 : decode cX1_pairsWithin 68 = .ok (.ireturn, 1) := by decide +kernel
set_option maxRecDepth 20000 in
theorem ggX1_strangersApart_X1_isFlat : GoodIn wsX1_strangersApart wsX1_isFlat := goodIn_r _ [5, 6, 7, 8, 4, 9, 10, 28, 29, 30, 31] (by decide +kernel) (by decide +kernel)
set_option maxRecDepth 20000 in
theorem gX1_strangersApart_X1_isFlat : GoodIn wsX1_strangersApart (wsV RX1 73 RX1 yX1_isFlat wsX1_isFlat) := goodIn_app (goodIn_of _ (by decide +kernel)) ggX1_strangersApart_X1_isFlat
set_option maxRecDepth 20000 in
theorem ggX1_strangersApart_X1_sideAt : GoodIn wsX1_strangersApart wsX1_sideAt := goodIn_r _ [9, 10, 28, 29, 30, 31] (by decide +kernel) (by decide +kernel)
set_option maxRecDepth 20000 in
theorem gX1_strangersApart_X1_sideAt : GoodIn wsX1_strangersApart (wsV RX1 43 RX1 yX1_sideAt wsX1_sideAt) := goodIn_app (goodIn_of _ (by decide +kernel)) ggX1_strangersApart_X1_sideAt
set_option maxRecDepth 20000 in
theorem ggX1_strangersApart_X1_farness : GoodIn wsX1_strangersApart wsX1_farness := goodIn_r _ [14, 15, 16, 17, 18, 19, 20, 21, 4, 22, 6, 7, 8, 9, 10, 23, 24, 25, 26, 27, 28, 29, 30, 31] (by decide +kernel) (by decide +kernel)
set_option maxRecDepth 20000 in
theorem gX1_strangersApart_X1_farness : GoodIn wsX1_strangersApart (wsV RX1 77 RX1 yX1_farness wsX1_farness) := goodIn_app (goodIn_of _ (by decide +kernel)) ggX1_strangersApart_X1_farness
theorem dX1_strangersApart_0 : decode cX1_strangersApart 0 = .ok (.iload_n 1, 1) := by decide +kernel
theorem dX1_strangersApart_1 : decode cX1_strangersApart 1 = .ok (.iconst 4, 1) := by decide +kernel
theorem dX1_strangersApart_2 : decode cX1_strangersApart 2 = .ok (.idiv, 1) := by decide +kernel
theorem dX1_strangersApart_3 : decode cX1_strangersApart 3 = .ok (.istore_n 3, 1) := by decide +kernel
theorem dX1_strangersApart_4 : decode cX1_strangersApart 4 = .ok (.iload_n 1, 1) := by decide +kernel
theorem dX1_strangersApart_5 : decode cX1_strangersApart 5 = .ok (.iconst 4, 1) := by decide +kernel
theorem dX1_strangersApart_6 : decode cX1_strangersApart 6 = .ok (.irem, 1) := by decide +kernel
theorem dX1_strangersApart_7 : decode cX1_strangersApart 7 = .ok (.istore 4, 2) := by decide +kernel
theorem dX1_strangersApart_9 : decode cX1_strangersApart 9 = .ok (.iload_n 2, 1) := by decide +kernel
theorem dX1_strangersApart_10 : decode cX1_strangersApart 10 = .ok (.iconst 4, 1) := by decide +kernel
theorem dX1_strangersApart_11 : decode cX1_strangersApart 11 = .ok (.idiv, 1) := by decide +kernel
theorem dX1_strangersApart_12 : decode cX1_strangersApart 12 = .ok (.istore 5, 2) := by decide +kernel
theorem dX1_strangersApart_14 : decode cX1_strangersApart 14 = .ok (.iload_n 2, 1) := by decide +kernel
theorem dX1_strangersApart_15 : decode cX1_strangersApart 15 = .ok (.iconst 4, 1) := by decide +kernel
theorem dX1_strangersApart_16 : decode cX1_strangersApart 16 = .ok (.irem, 1) := by decide +kernel
theorem dX1_strangersApart_17 : decode cX1_strangersApart 17 = .ok (.istore 6, 2) := by decide +kernel
theorem dX1_strangersApart_19 : decode cX1_strangersApart 19 = .ok (.iload_n 3, 1) := by decide +kernel
theorem dX1_strangersApart_20 : decode cX1_strangersApart 20 = .ok (.iload 5, 2) := by decide +kernel
theorem dX1_strangersApart_22 : decode cX1_strangersApart 22 = .ok (.if_icmp .eq 42, 3) := by decide +kernel
theorem dX1_strangersApart_25 : decode cX1_strangersApart 25 = .ok (.aload_n 0, 1) := by decide +kernel
theorem dX1_strangersApart_26 : decode cX1_strangersApart 26 = .ok (.iload_n 3, 1) := by decide +kernel
theorem dX1_strangersApart_27 : decode cX1_strangersApart 27 = .ok (.iload 4, 2) := by decide +kernel
theorem dX1_strangersApart_29 : decode cX1_strangersApart 29 = .ok (.invokevirtual 73, 3) := by decide +kernel
theorem dX1_strangersApart_32 : decode cX1_strangersApart 32 = .ok (.ifCond .ne 32, 3) := by decide +kernel
theorem dX1_strangersApart_35 : decode cX1_strangersApart 35 = .ok (.aload_n 0, 1) := by decide +kernel
theorem dX1_strangersApart_36 : decode cX1_strangersApart 36 = .ok (.iload 5, 2) := by decide +kernel
theorem dX1_strangersApart_38 : decode cX1_strangersApart 38 = .ok (.iload 6, 2) := by decide +kernel
theorem dX1_strangersApart_40 : decode cX1_strangersApart 40 = .ok (.invokevirtual 73, 3) := by decide +kernel
theorem dX1_strangersApart_43 : decode cX1_strangersApart 43 = .ok (.ifCond .ne 21, 3) := by decide +kernel
theorem dX1_strangersApart_46 : decode cX1_strangersApart 46 = .ok (.aload_n 0, 1) := by decide +kernel
theorem dX1_strangersApart_47 : decode cX1_strangersApart 47 = .ok (.iload_n 3, 1) := by decide +kernel
theorem dX1_strangersApart_48 : decode cX1_strangersApart 48 = .ok (.iload 4, 2) := by decide +kernel
theorem dX1_strangersApart_50 : decode cX1_strangersApart 50 = .ok (.invokevirtual 43, 3) := by decide +kernel
theorem dX1_strangersApart_53 : decode cX1_strangersApart 53 = .ok (.aload_n 0, 1) := by decide +kernel
theorem dX1_strangersApart_54 : decode cX1_strangersApart 54 = .ok (.iload 5, 2) := by decide +kernel
theorem dX1_strangersApart_56 : decode cX1_strangersApart 56 = .ok (.iload 6, 2) := by decide +kernel
theorem dX1_strangersApart_58 : decode cX1_strangersApart 58 = .ok (.invokevirtual 43, 3) := by decide +kernel
theorem dX1_strangersApart_61 : decode cX1_strangersApart 61 = .ok (.if_icmp .ne 6, 3) := by decide +kernel
theorem dX1_strangersApart_64 : decode cX1_strangersApart 64 = .ok (.bipush (-9), 2) := by decide +kernel
theorem dX1_strangersApart_66 : decode cX1_strangersApart 66 = .ok (.ireturn, 1) := by decide +kernel
theorem dX1_strangersApart_67 : decode cX1_strangersApart 67 = .ok (.aload_n 0, 1) := by decide +kernel
theorem dX1_strangersApart_68 : decode cX1_strangersApart 68 = .ok (.iload_n 3, 1) := by decide +kernel
theorem dX1_strangersApart_69 : decode cX1_strangersApart 69 = .ok (.iload 4, 2) := by decide +kernel
theorem dX1_strangersApart_71 : decode cX1_strangersApart 71 = .ok (.iload 5, 2) := by decide +kernel
theorem dX1_strangersApart_73 : decode cX1_strangersApart 73 = .ok (.iload 6, 2) := by decide +kernel
theorem dX1_strangersApart_75 : decode cX1_strangersApart 75 = .ok (.invokevirtual 77, 3) := by decide +kernel
theorem dX1_strangersApart_78 : decode cX1_strangersApart 78 = .ok (.ireturn, 1) := by decide +kernel
theorem dX2_init_0 : decode cX2_init 0 = .ok (.aload_n 0, 1) := by decide +kernel
theorem dX2_init_1 : decode cX2_init 1 = .ok (.invokespecial 3, 3) := by decide +kernel
theorem dX2_init_4 : decode cX2_init 4 = .ok (.aload_n 0, 1) := by decide +kernel
theorem dX2_init_5 : decode cX2_init 5 = .ok (.bipush 25, 2) := by decide +kernel
theorem dX2_init_7 : decode cX2_init 7 = .ok (.newarray .int, 2) := by decide +kernel
theorem dX2_init_9 : decode cX2_init 9 = .ok (.putfield 9, 3) := by decide +kernel
theorem dX2_init_12 : decode cX2_init 12 = .ok (.aload_n 0, 1) := by decide +kernel
theorem dX2_init_13 : decode cX2_init 13 = .ok (.bipush 25, 2) := by decide +kernel
theorem dX2_init_15 : decode cX2_init 15 = .ok (.newarray .int, 2) := by decide +kernel
theorem dX2_init_17 : decode cX2_init 17 = .ok (.putfield 15, 3) := by decide +kernel
theorem dX2_init_20 : decode cX2_init 20 = .ok (.return_, 1) := by decide +kernel
theorem dX2_size_0 : decode cX2_size 0 = .ok (.aload_n 0, 1) := by decide +kernel
theorem dX2_size_1 : decode cX2_size 1 = .ok (.getfield 18, 3) := by decide +kernel
theorem dX2_size_4 : decode cX2_size 4 = .ok (.ireturn, 1) := by decide +kernel
theorem dX2_isFull_0 : decode cX2_isFull 0 = .ok (.aload_n 0, 1) := by decide +kernel
theorem dX2_isFull_1 : decode cX2_isFull 1 = .ok (.getfield 18, 3) := by decide +kernel
theorem dX2_isFull_4 : decode cX2_isFull 4 = .ok (.bipush 25, 2) := by decide +kernel
theorem dX2_isFull_6 : decode cX2_isFull 6 = .ok (.if_icmp .lt 7, 3) := by decide +kernel
theorem dX2_isFull_9 : decode cX2_isFull 9 = .ok (.iconst 1, 1) := by decide +kernel
theorem dX2_isFull_10 : decode cX2_isFull 10 = .ok (.goto 4, 3) := by decide +kernel
theorem dX2_isFull_13 : decode cX2_isFull 13 = .ok (.iconst 0, 1) := by decide +kernel
theorem dX2_isFull_14 : decode cX2_isFull 14 = .ok (.ireturn, 1) := by decide +kernel
theorem dX2_hasPlace_0 : decode cX2_hasPlace 0 = .ok (.iload_n 1, 1) := by decide +kernel
theorem dX2_hasPlace_1 : decode cX2_hasPlace 1 = .ok (.ifCond .lt 15, 3) := by decide +kernel
theorem dX2_hasPlace_4 : decode cX2_hasPlace 4 = .ok (.iload_n 1, 1) := by decide +kernel
theorem dX2_hasPlace_5 : decode cX2_hasPlace 5 = .ok (.aload_n 0, 1) := by decide +kernel
theorem dX2_hasPlace_6 : decode cX2_hasPlace 6 = .ok (.getfield 18, 3) := by decide +kernel
theorem dX2_hasPlace_9 : decode cX2_hasPlace 9 = .ok (.if_icmp .ge 7, 3) := by decide +kernel
theorem dX2_hasPlace_12 : decode cX2_hasPlace 12 = .ok (.iconst 1, 1) := by decide +kernel
theorem dX2_hasPlace_13 : decode cX2_hasPlace 13 = .ok (.goto 4, 3) := by decide +kernel
theorem dX2_hasPlace_16 : decode cX2_hasPlace 16 = .ok (.iconst 0, 1) := by decide +kernel
theorem dX2_hasPlace_17 : decode cX2_hasPlace 17 = .ok (.ireturn, 1) := by decide +kernel
set_option maxRecDepth 20000 in
theorem ggX2_pieceAt_X2_hasPlace : GoodIn wsX2_pieceAt wsX2_hasPlace := goodIn_r _ [6, 7, 8, 9, 10] (by decide +kernel) (by decide +kernel)
set_option maxRecDepth 20000 in
theorem gX2_pieceAt_X2_hasPlace : GoodIn wsX2_pieceAt (wsV RX2 22 RX2 yX2_hasPlace wsX2_hasPlace) := goodIn_app (goodIn_of _ (by decide +kernel)) ggX2_pieceAt_X2_hasPlace
theorem dX2_pieceAt_0 : decode cX2_pieceAt 0 = .ok (.aload_n 0, 1) := by decide +kernel
theorem dX2_pieceAt_1 : decode cX2_pieceAt 1 = .ok (.iload_n 1, 1) := by decide +kernel
theorem dX2_pieceAt_2 : decode cX2_pieceAt 2 = .ok (.invokevirtual 22, 3) := by decide +kernel
theorem dX2_pieceAt_5 : decode cX2_pieceAt 5 = .ok (.ifCond .eq 12, 3) := by decide +kernel
theorem dX2_pieceAt_8 : decode cX2_pieceAt 8 = .ok (.aload_n 0, 1) := by decide +kernel
theorem dX2_pieceAt_9 : decode cX2_pieceAt 9 = .ok (.getfield 9, 3) := by decide +kernel
theorem dX2_pieceAt_12 : decode cX2_pieceAt 12 = .ok (.iload_n 1, 1) := by decide +kernel
theorem dX2_pieceAt_13 : decode cX2_pieceAt 13 = .ok (.iaload, 1) := by decide +kernel
theorem dX2_pieceAt_14 : decode cX2_pieceAt 14 = .ok (.goto 5, 3) := by decide +kernel
theorem dX2_pieceAt_17 : decode cX2_pieceAt 17 = .ok (.bipush (-9), 2) := by decide +kernel
theorem dX2_pieceAt_19 : decode cX2_pieceAt 19 = .ok (.ireturn, 1) := by decide +kernel
set_option maxRecDepth 20000 in
theorem ggX2_turnAt_X2_hasPlace : GoodIn wsX2_turnAt wsX2_hasPlace := goodIn_r _ [6, 7, 8, 9, 10] (by decide +kernel) (by decide +kernel)
set_option maxRecDepth 20000 in
theorem gX2_turnAt_X2_hasPlace : GoodIn wsX2_turnAt (wsV RX2 22 RX2 yX2_hasPlace wsX2_hasPlace) := goodIn_app (goodIn_of _ (by decide +kernel)) ggX2_turnAt_X2_hasPlace
theorem dX2_turnAt_0 : decode cX2_turnAt 0 = .ok (.aload_n 0, 1) := by decide +kernel
theorem dX2_turnAt_1 : decode cX2_turnAt 1 = .ok (.iload_n 1, 1) := by decide +kernel
theorem dX2_turnAt_2 : decode cX2_turnAt 2 = .ok (.invokevirtual 22, 3) := by decide +kernel
theorem dX2_turnAt_5 : decode cX2_turnAt 5 = .ok (.ifCond .eq 12, 3) := by decide +kernel
theorem dX2_turnAt_8 : decode cX2_turnAt 8 = .ok (.aload_n 0, 1) := by decide +kernel
theorem dX2_turnAt_9 : decode cX2_turnAt 9 = .ok (.getfield 15, 3) := by decide +kernel
theorem dX2_turnAt_12 : decode cX2_turnAt 12 = .ok (.iload_n 1, 1) := by decide +kernel
theorem dX2_turnAt_13 : decode cX2_turnAt 13 = .ok (.iaload, 1) := by decide +kernel
theorem dX2_turnAt_14 : decode cX2_turnAt 14 = .ok (.goto 4, 3) := by decide +kernel
theorem dX2_turnAt_17 : decode cX2_turnAt 17 = .ok (.iconst 0, 1) := by decide +kernel
theorem dX2_turnAt_18 : decode cX2_turnAt 18 = .ok (.ireturn, 1) := by decide +kernel
theorem dX2_clearAll_0 : decode cX2_clearAll 0 = .ok (.aload_n 0, 1) := by decide +kernel
theorem dX2_clearAll_1 : decode cX2_clearAll 1 = .ok (.iconst 0, 1) := by decide +kernel
theorem dX2_clearAll_2 : decode cX2_clearAll 2 = .ok (.putfield 18, 3) := by decide +kernel
theorem dX2_clearAll_5 : decode cX2_clearAll 5 = .ok (.return_, 1) := by decide +kernel
set_option maxRecDepth 20000 in
theorem ggX2_append_X2_isFull : GoodIn wsX2_append wsX2_isFull := goodIn_r _ [8, 2, 9, 10, 11] (by decide +kernel) (by decide +kernel)
set_option maxRecDepth 20000 in
theorem gX2_append_X2_isFull : GoodIn wsX2_append (wsV RX2 26 RX2 yX2_isFull wsX2_isFull) := goodIn_app (goodIn_of _ (by decide +kernel)) ggX2_append_X2_isFull
theorem dX2_append_0 : decode cX2_append 0 = .ok (.aload_n 0, 1) := by decide +kernel
theorem dX2_append_1 : decode cX2_append 1 = .ok (.invokevirtual 26, 3) := by decide +kernel
theorem dX2_append_4 : decode cX2_append 4 = .ok (.ifCond .ne 33, 3) := by decide +kernel
theorem dX2_append_7 : decode cX2_append 7 = .ok (.aload_n 0, 1) := by decide +kernel
theorem dX2_append_8 : decode cX2_append 8 = .ok (.getfield 9, 3) := by decide +kernel
theorem dX2_append_11 : decode cX2_append 11 = .ok (.aload_n 0, 1) := by decide +kernel
theorem dX2_append_12 : decode cX2_append 12 = .ok (.getfield 18, 3) := by decide +kernel
theorem dX2_append_15 : decode cX2_append 15 = .ok (.iload_n 1, 1) := by decide +kernel
theorem dX2_append_16 : decode cX2_append 16 = .ok (.iastore, 1) := by decide +kernel
theorem dX2_append_17 : decode cX2_append 17 = .ok (.aload_n 0, 1) := by decide +kernel
theorem dX2_append_18 : decode cX2_append 18 = .ok (.getfield 15, 3) := by decide +kernel
theorem dX2_append_21 : decode cX2_append 21 = .ok (.aload_n 0, 1) := by decide +kernel
theorem dX2_append_22 : decode cX2_append 22 = .ok (.getfield 18, 3) := by decide +kernel
theorem dX2_append_25 : decode cX2_append 25 = .ok (.iload_n 2, 1) := by decide +kernel
theorem dX2_append_26 : decode cX2_append 26 = .ok (.iastore, 1) := by decide +kernel
theorem dX2_append_27 : decode cX2_append 27 = .ok (.aload_n 0, 1) := by decide +kernel
theorem dX2_append_28 : decode cX2_append 28 = .ok (.dup, 1) := by decide +kernel
theorem dX2_append_29 : decode cX2_append 29 = .ok (.getfield 18, 3) := by decide +kernel
theorem dX2_append_32 : decode cX2_append 32 = .ok (.iconst 1, 1) := by decide +kernel
theorem dX2_append_33 : decode cX2_append 33 = .ok (.iadd, 1) := by decide +kernel
theorem dX2_append_34 : decode cX2_append 34 = .ok (.putfield 18, 3) := by decide +kernel
theorem dX2_append_37 : decode cX2_append 37 = .ok (.return_, 1) := by decide +kernel
set_option maxRecDepth 20000 in
theorem ggX2_setTurn_X2_hasPlace : GoodIn wsX2_setTurn wsX2_hasPlace := goodIn_r _ [6, 7, 8, 9, 10] (by decide +kernel) (by decide +kernel)
set_option maxRecDepth 20000 in
theorem gX2_setTurn_X2_hasPlace : GoodIn wsX2_setTurn (wsV RX2 22 RX2 yX2_hasPlace wsX2_hasPlace) := goodIn_app (goodIn_of _ (by decide +kernel)) ggX2_setTurn_X2_hasPlace
theorem dX2_setTurn_0 : decode cX2_setTurn 0 = .ok (.aload_n 0, 1) := by decide +kernel
theorem dX2_setTurn_1 : decode cX2_setTurn 1 = .ok (.iload_n 1, 1) := by decide +kernel
theorem dX2_setTurn_2 : decode cX2_setTurn 2 = .ok (.invokevirtual 22, 3) := by decide +kernel
theorem dX2_setTurn_5 : decode cX2_setTurn 5 = .ok (.ifCond .eq 10, 3) := by decide +kernel
theorem dX2_setTurn_8 : decode cX2_setTurn 8 = .ok (.aload_n 0, 1) := by decide +kernel
theorem dX2_setTurn_9 : decode cX2_setTurn 9 = .ok (.getfield 15, 3) := by decide +kernel
theorem dX2_setTurn_12 : decode cX2_setTurn 12 = .ok (.iload_n 1, 1) := by decide +kernel
theorem dX2_setTurn_13 : decode cX2_setTurn 13 = .ok (.iload_n 2, 1) := by decide +kernel
theorem dX2_setTurn_14 : decode cX2_setTurn 14 = .ok (.iastore, 1) := by decide +kernel
theorem dX2_setTurn_15 : decode cX2_setTurn 15 = .ok (.return_, 1) := by decide +kernel
set_option maxRecDepth 20000 in
theorem ggX2_swapPieces_X2_hasPlace : GoodIn wsX2_swapPieces wsX2_hasPlace := goodIn_r _ [6, 7, 8, 9, 10] (by decide +kernel) (by decide +kernel)
set_option maxRecDepth 20000 in
theorem gX2_swapPieces_X2_hasPlace : GoodIn wsX2_swapPieces (wsV RX2 22 RX2 yX2_hasPlace wsX2_hasPlace) := goodIn_app (goodIn_of _ (by decide +kernel)) ggX2_swapPieces_X2_hasPlace
theorem dX2_swapPieces_0 : decode cX2_swapPieces 0 = .ok (.aload_n 0, 1) := by decide +kernel
theorem dX2_swapPieces_1 : decode cX2_swapPieces 1 = .ok (.iload_n 1, 1) := by decide +kernel
theorem dX2_swapPieces_2 : decode cX2_swapPieces 2 = .ok (.invokevirtual 22, 3) := by decide +kernel
theorem dX2_swapPieces_5 : decode cX2_swapPieces 5 = .ok (.ifCond .eq 37, 3) := by decide +kernel
theorem dX2_swapPieces_8 : decode cX2_swapPieces 8 = .ok (.aload_n 0, 1) := by decide +kernel
theorem dX2_swapPieces_9 : decode cX2_swapPieces 9 = .ok (.iload_n 2, 1) := by decide +kernel
theorem dX2_swapPieces_10 : decode cX2_swapPieces 10 = .ok (.invokevirtual 22, 3) := by decide +kernel
theorem dX2_swapPieces_13 : decode cX2_swapPieces 13 = .ok (.ifCond .eq 29, 3) := by decide +kernel
theorem dX2_swapPieces_16 : decode cX2_swapPieces 16 = .ok (.aload_n 0, 1) := by decide +kernel
theorem dX2_swapPieces_17 : decode cX2_swapPieces 17 = .ok (.getfield 9, 3) := by decide +kernel
theorem dX2_swapPieces_20 : decode cX2_swapPieces 20 = .ok (.iload_n 1, 1) := by decide +kernel
theorem dX2_swapPieces_21 : decode cX2_swapPieces 21 = .ok (.iaload, 1) := by decide +kernel
theorem dX2_swapPieces_22 : decode cX2_swapPieces 22 = .ok (.istore_n 3, 1) := by decide +kernel
theorem dX2_swapPieces_23 : decode cX2_swapPieces 23 = .ok (.aload_n 0, 1) := by decide +kernel
theorem dX2_swapPieces_24 : decode cX2_swapPieces 24 = .ok (.getfield 9, 3) := by decide +kernel
theorem dX2_swapPieces_27 : decode cX2_swapPieces 27 = .ok (.iload_n 1, 1) := by decide +kernel
theorem dX2_swapPieces_28 : decode cX2_swapPieces 28 = .ok (.aload_n 0, 1) := by decide +kernel
theorem dX2_swapPieces_29 : decode cX2_swapPieces 29 = .ok (.getfield 9, 3) := by decide +kernel
theorem dX2_swapPieces_32 : decode cX2_swapPieces 32 = .ok (.iload_n 2, 1) := by decide +kernel
theorem dX2_swapPieces_33 : decode cX2_swapPieces 33 = .ok (.iaload, 1) := by decide +kernel
theorem dX2_swapPieces_34 : decode cX2_swapPieces 34 = .ok (.iastore, 1) := by decide +kernel
theorem dX2_swapPieces_35 : decode cX2_swapPieces 35 = .ok (.aload_n 0, 1) := by decide +kernel
theorem dX2_swapPieces_36 : decode cX2_swapPieces 36 = .ok (.getfield 9, 3) := by decide +kernel
theorem dX2_swapPieces_39 : decode cX2_swapPieces 39 = .ok (.iload_n 2, 1) := by decide +kernel
theorem dX2_swapPieces_40 : decode cX2_swapPieces 40 = .ok (.iload_n 3, 1) := by decide +kernel
theorem dX2_swapPieces_41 : decode cX2_swapPieces 41 = .ok (.iastore, 1) := by decide +kernel
theorem dX2_swapPieces_42 : decode cX2_swapPieces 42 = .ok (.return_, 1) := by decide +kernel
set_option maxRecDepth 20000 in
theorem ggX2_removeAt_X2_hasPlace : GoodIn wsX2_removeAt wsX2_hasPlace := goodIn_r _ [8, 1, 9, 10, 11] (by decide +kernel) (by decide +kernel)
set_option maxRecDepth 20000 in
theorem gX2_removeAt_X2_hasPlace : GoodIn wsX2_removeAt (wsV RX2 22 RX2 yX2_hasPlace wsX2_hasPlace) := goodIn_app (goodIn_of _ (by decide +kernel)) ggX2_removeAt_X2_hasPlace
theorem dX2_removeAt_0 : decode cX2_removeAt 0 = .ok (.aload_n 0, 1) := by decide +kernel
theorem dX2_removeAt_1 : decode cX2_removeAt 1 = .ok (.iload_n 1, 1) := by decide +kernel
theorem dX2_removeAt_2 : decode cX2_removeAt 2 = .ok (.invokevirtual 22, 3) := by decide +kernel
theorem dX2_removeAt_5 : decode cX2_removeAt 5 = .ok (.ifCond .eq 59, 3) := by decide +kernel
theorem dX2_removeAt_8 : decode cX2_removeAt 8 = .ok (.iload_n 1, 1) := by decide +kernel
theorem dX2_removeAt_9 : decode cX2_removeAt 9 = .ok (.iconst 1, 1) := by decide +kernel
theorem dX2_removeAt_10 : decode cX2_removeAt 10 = .ok (.iadd, 1) := by decide +kernel
theorem dX2_removeAt_11 : decode cX2_removeAt 11 = .ok (.istore_n 2, 1) := by decide +kernel
theorem dX2_removeAt_12 : decode cX2_removeAt 12 = .ok (.iload_n 2, 1) := by decide +kernel
theorem dX2_removeAt_13 : decode cX2_removeAt 13 = .ok (.aload_n 0, 1) := by decide +kernel
theorem dX2_removeAt_14 : decode cX2_removeAt 14 = .ok (.getfield 18, 3) := by decide +kernel
theorem dX2_removeAt_17 : decode cX2_removeAt 17 = .ok (.if_icmp .ge 37, 3) := by decide +kernel
theorem dX2_removeAt_20 : decode cX2_removeAt 20 = .ok (.aload_n 0, 1) := by decide +kernel
theorem dX2_removeAt_21 : decode cX2_removeAt 21 = .ok (.getfield 9, 3) := by decide +kernel
theorem dX2_removeAt_24 : decode cX2_removeAt 24 = .ok (.iload_n 2, 1) := by decide +kernel
theorem dX2_removeAt_25 : decode cX2_removeAt 25 = .ok (.iconst 1, 1) := by decide +kernel
theorem dX2_removeAt_26 : decode cX2_removeAt 26 = .ok (.isub, 1) := by decide +kernel
theorem dX2_removeAt_27 : decode cX2_removeAt 27 = .ok (.aload_n 0, 1) := by decide +kernel
theorem dX2_removeAt_28 : decode cX2_removeAt 28 = .ok (.getfield 9, 3) := by decide +kernel
theorem dX2_removeAt_31 : decode cX2_removeAt 31 = .ok (.iload_n 2, 1) := by decide +kernel
theorem dX2_removeAt_32 : decode cX2_removeAt 32 = .ok (.iaload, 1) := by decide +kernel
theorem dX2_removeAt_33 : decode cX2_removeAt 33 = .ok (.iastore, 1) := by decide +kernel
theorem dX2_removeAt_34 : decode cX2_removeAt 34 = .ok (.aload_n 0, 1) := by decide +kernel
theorem dX2_removeAt_35 : decode cX2_removeAt 35 = .ok (.getfield 15, 3) := by decide +kernel
theorem dX2_removeAt_38 : decode cX2_removeAt 38 = .ok (.iload_n 2, 1) := by decide +kernel
theorem dX2_removeAt_39 : decode cX2_removeAt 39 = .ok (.iconst 1, 1) := by decide +kernel
theorem dX2_removeAt_40 : decode cX2_removeAt 40 = .ok (.isub, 1) := by decide +kernel
theorem dX2_removeAt_41 : decode cX2_removeAt 41 = .ok (.aload_n 0, 1) := by decide +kernel
theorem dX2_removeAt_42 : decode cX2_removeAt 42 = .ok (.getfield 15, 3) := by decide +kernel
theorem dX2_removeAt_45 : decode cX2_removeAt 45 = .ok (.iload_n 2, 1) := by decide +kernel
theorem dX2_removeAt_46 : decode cX2_removeAt 46 = .ok (.iaload, 1) := by decide +kernel
theorem dX2_removeAt_47 : decode cX2_removeAt 47 = .ok (.iastore, 1) := by decide +kernel
theorem dX2_removeAt_48 : decode cX2_removeAt 48 = .ok (.iinc 2 1, 3) := by decide +kernel
theorem dX2_removeAt_51 : decode cX2_removeAt 51 = .ok (.goto (-39), 3) := by decide +kernel
theorem dX2_removeAt_54 : decode cX2_removeAt 54 = .ok (.aload_n 0, 1) := by decide +kernel
theorem dX2_removeAt_55 : decode cX2_removeAt 55 = .ok (.dup, 1) := by decide +kernel
theorem dX2_removeAt_56 : decode cX2_removeAt 56 = .ok (.getfield 18, 3) := by decide +kernel
theorem dX2_removeAt_59 : decode cX2_removeAt 59 = .ok (.iconst 1, 1) := by decide +kernel
theorem dX2_removeAt_60 : decode cX2_removeAt 60 = .ok (.isub, 1) := by decide +kernel
theorem dX2_removeAt_61 : decode cX2_removeAt 61 = .ok (.putfield 18, 3) := by decide +kernel
theorem dX2_removeAt_64 : decode cX2_removeAt 64 = .ok (.return_, 1) := by decide +kernel
theorem dX2_timesOf_0 : decode cX2_timesOf 0 = .ok (.iconst 0, 1) := by decide +kernel
theorem dX2_timesOf_1 : decode cX2_timesOf 1 = .ok (.istore_n 2, 1) := by decide +kernel
theorem dX2_timesOf_2 : decode cX2_timesOf 2 = .ok (.iconst 0, 1) := by decide +kernel
theorem dX2_timesOf_3 : decode cX2_timesOf 3 = .ok (.istore_n 3, 1) := by decide +kernel
theorem dX2_timesOf_4 : decode cX2_timesOf 4 = .ok (.iload_n 3, 1) := by decide +kernel
theorem dX2_timesOf_5 : decode cX2_timesOf 5 = .ok (.aload_n 0, 1) := by decide +kernel
theorem dX2_timesOf_6 : decode cX2_timesOf 6 = .ok (.getfield 18, 3) := by decide +kernel
theorem dX2_timesOf_9 : decode cX2_timesOf 9 = .ok (.if_icmp .ge 22, 3) := by decide +kernel
theorem dX2_timesOf_12 : decode cX2_timesOf 12 = .ok (.aload_n 0, 1) := by decide +kernel
theorem dX2_timesOf_13 : decode cX2_timesOf 13 = .ok (.getfield 9, 3) := by decide +kernel
theorem dX2_timesOf_16 : decode cX2_timesOf 16 = .ok (.iload_n 3, 1) := by decide +kernel
theorem dX2_timesOf_17 : decode cX2_timesOf 17 = .ok (.iaload, 1) := by decide +kernel
theorem dX2_timesOf_18 : decode cX2_timesOf 18 = .ok (.iload_n 1, 1) := by decide +kernel
theorem dX2_timesOf_19 : decode cX2_timesOf 19 = .ok (.if_icmp .ne 6, 3) := by decide +kernel
theorem dX2_timesOf_22 : decode cX2_timesOf 22 = .ok (.iinc 2 1, 3) := by decide +kernel
theorem dX2_timesOf_25 : decode cX2_timesOf 25 = .ok (.iinc 3 1, 3) := by decide +kernel
theorem dX2_timesOf_28 : decode cX2_timesOf 28 = .ok (.goto (-24), 3) := by decide +kernel
theorem dX2_timesOf_31 : decode cX2_timesOf 31 = .ok (.iload_n 2, 1) := by decide +kernel
theorem dX2_timesOf_32 : decode cX2_timesOf 32 = .ok (.ireturn, 1) := by decide +kernel
theorem dX3_init_0 : decode cX3_init 0 = .ok (.aload_n 0, 1) := by decide +kernel
theorem dX3_init_1 : decode cX3_init 1 = .ok (.invokespecial 3, 3) := by decide +kernel
theorem dX3_init_4 : decode cX3_init 4 = .ok (.aload_n 0, 1) := by decide +kernel
theorem dX3_init_5 : decode cX3_init 5 = .ok (.sipush 400, 3) := by decide +kernel
theorem dX3_init_8 : decode cX3_init 8 = .ok (.newarray .int, 2) := by decide +kernel
theorem dX3_init_10 : decode cX3_init 10 = .ok (.putfield 9, 3) := by decide +kernel
theorem dX3_init_13 : decode cX3_init 13 = .ok (.aload_n 0, 1) := by decide +kernel
theorem dX3_init_14 : decode cX3_init 14 = .ok (.sipush 400, 3) := by decide +kernel
theorem dX3_init_17 : decode cX3_init 17 = .ok (.newarray .int, 2) := by decide +kernel
theorem dX3_init_19 : decode cX3_init 19 = .ok (.putfield 15, 3) := by decide +kernel
theorem dX3_init_22 : decode cX3_init 22 = .ok (.aload_n 0, 1) := by decide +kernel
theorem dX3_init_23 : decode cX3_init 23 = .ok (.bipush 100, 2) := by decide +kernel
theorem dX3_init_25 : decode cX3_init 25 = .ok (.newarray .int, 2) := by decide +kernel
theorem dX3_init_27 : decode cX3_init 27 = .ok (.putfield 18, 3) := by decide +kernel
theorem dX3_init_30 : decode cX3_init 30 = .ok (.aload_n 0, 1) := by decide +kernel
theorem dX3_init_31 : decode cX3_init 31 = .ok (.bipush 25, 2) := by decide +kernel
theorem dX3_init_33 : decode cX3_init 33 = .ok (.newarray .boolean, 2) := by decide +kernel
theorem dX3_init_35 : decode cX3_init 35 = .ok (.putfield 21, 3) := by decide +kernel
theorem dX3_init_38 : decode cX3_init 38 = .ok (.aload_n 0, 1) := by decide +kernel
theorem dX3_init_39 : decode cX3_init 39 = .ok (.bipush 25, 2) := by decide +kernel
theorem dX3_init_41 : decode cX3_init 41 = .ok (.newarray .int, 2) := by decide +kernel
theorem dX3_init_43 : decode cX3_init 43 = .ok (.putfield 25, 3) := by decide +kernel
theorem dX3_init_46 : decode cX3_init 46 = .ok (.aload_n 0, 1) := by decide +kernel
theorem dX3_init_47 : decode cX3_init 47 = .ok (.bipush 25, 2) := by decide +kernel
theorem dX3_init_49 : decode cX3_init 49 = .ok (.newarray .int, 2) := by decide +kernel
theorem dX3_init_51 : decode cX3_init 51 = .ok (.putfield 28, 3) := by decide +kernel
theorem dX3_init_54 : decode cX3_init 54 = .ok (.aload_n 0, 1) := by decide +kernel
theorem dX3_init_55 : decode cX3_init 55 = .ok (.aload_n 1, 1) := by decide +kernel
theorem dX3_init_56 : decode cX3_init 56 = .ok (.putfield 31, 3) := by decide +kernel
theorem dX3_init_59 : decode cX3_init 59 = .ok (.aload_n 0, 1) := by decide +kernel
theorem dX3_init_60 : decode cX3_init 60 = .ok (.aload_n 2, 1) := by decide +kernel
theorem dX3_init_61 : decode cX3_init 61 = .ok (.putfield 35, 3) := by decide +kernel
theorem dX3_init_64 : decode cX3_init 64 = .ok (.return_, 1) := by decide +kernel
theorem dX3_trialsCounted_0 : decode cX3_trialsCounted 0 = .ok (.aload_n 0, 1) := by decide +kernel
theorem dX3_trialsCounted_1 : decode cX3_trialsCounted 1 = .ok (.getfield 39, 3) := by decide +kernel
theorem dX3_trialsCounted_4 : decode cX3_trialsCounted 4 = .ok (.ireturn, 1) := by decide +kernel
theorem dX3_hasJoined_0 : decode cX3_hasJoined 0 = .ok (.aload_n 0, 1) := by decide +kernel
theorem dX3_hasJoined_1 : decode cX3_hasJoined 1 = .ok (.getfield 43, 3) := by decide +kernel
theorem dX3_hasJoined_4 : decode cX3_hasJoined 4 = .ok (.ireturn, 1) := by decide +kernel
theorem dX3_forgetJoined_0 : decode cX3_forgetJoined 0 = .ok (.aload_n 0, 1) := by decide +kernel
theorem dX3_forgetJoined_1 : decode cX3_forgetJoined 1 = .ok (.iconst 0, 1) := by decide +kernel
theorem dX3_forgetJoined_2 : decode cX3_forgetJoined 2 = .ok (.putfield 43, 3) := by decide +kernel
theorem dX3_forgetJoined_5 : decode cX3_forgetJoined 5 = .ok (.return_, 1) := by decide +kernel
set_option maxRecDepth 20000 in
theorem ggX3_joinedFrom_X1_hasPiece : GoodIn wsX3_joinedFrom wsX1_hasPiece := goodIn_r _ [7, 8, 9, 10, 6, 11, 12, 13, 27, 28, 29, 30] (by decide +kernel) (by decide +kernel)
set_option maxRecDepth 20000 in
theorem gX3_joinedFrom_X1_hasPiece : GoodIn wsX3_joinedFrom (wsV RX3 47 RX1 yX1_hasPiece wsX1_hasPiece) := goodIn_app (goodIn_of _ (by decide +kernel)) ggX3_joinedFrom_X1_hasPiece
theorem dX3_joinedFrom_0 : decode cX3_joinedFrom 0 = .ok (.aload_n 0, 1) := by decide +kernel
theorem dX3_joinedFrom_1 : decode cX3_joinedFrom 1 = .ok (.getfield 31, 3) := by decide +kernel
theorem dX3_joinedFrom_4 : decode cX3_joinedFrom 4 = .ok (.iload_n 1, 1) := by decide +kernel
theorem dX3_joinedFrom_5 : decode cX3_joinedFrom 5 = .ok (.invokevirtual 47, 3) := by decide +kernel
theorem dX3_joinedFrom_8 : decode cX3_joinedFrom 8 = .ok (.ifCond .eq 14, 3) := by decide +kernel
theorem dX3_joinedFrom_11 : decode cX3_joinedFrom 11 = .ok (.aload_n 0, 1) := by decide +kernel
theorem dX3_joinedFrom_12 : decode cX3_joinedFrom 12 = .ok (.getfield 28, 3) := by decide +kernel
theorem dX3_joinedFrom_15 : decode cX3_joinedFrom 15 = .ok (.iload_n 1, 1) := by decide +kernel
theorem dX3_joinedFrom_16 : decode cX3_joinedFrom 16 = .ok (.iaload, 1) := by decide +kernel
theorem dX3_joinedFrom_17 : decode cX3_joinedFrom 17 = .ok (.iconst 4, 1) := by decide +kernel
theorem dX3_joinedFrom_18 : decode cX3_joinedFrom 18 = .ok (.idiv, 1) := by decide +kernel
theorem dX3_joinedFrom_19 : decode cX3_joinedFrom 19 = .ok (.goto 4, 3) := by decide +kernel
theorem dX3_joinedFrom_22 : decode cX3_joinedFrom 22 = .ok (.iconst (-1), 1) := by decide +kernel
theorem dX3_joinedFrom_23 : decode cX3_joinedFrom 23 = .ok (.ireturn, 1) := by decide +kernel
set_option maxRecDepth 20000 in
theorem ggX3_joinedTurn_X1_hasPiece : GoodIn wsX3_joinedTurn wsX1_hasPiece := goodIn_r _ [7, 8, 9, 10, 6, 11, 12, 13, 27, 28, 29, 30] (by decide +kernel) (by decide +kernel)
set_option maxRecDepth 20000 in
theorem gX3_joinedTurn_X1_hasPiece : GoodIn wsX3_joinedTurn (wsV RX3 47 RX1 yX1_hasPiece wsX1_hasPiece) := goodIn_app (goodIn_of _ (by decide +kernel)) ggX3_joinedTurn_X1_hasPiece
theorem dX3_joinedTurn_0 : decode cX3_joinedTurn 0 = .ok (.aload_n 0, 1) := by decide +kernel
theorem dX3_joinedTurn_1 : decode cX3_joinedTurn 1 = .ok (.getfield 31, 3) := by decide +kernel
theorem dX3_joinedTurn_4 : decode cX3_joinedTurn 4 = .ok (.iload_n 1, 1) := by decide +kernel
theorem dX3_joinedTurn_5 : decode cX3_joinedTurn 5 = .ok (.invokevirtual 47, 3) := by decide +kernel
theorem dX3_joinedTurn_8 : decode cX3_joinedTurn 8 = .ok (.ifCond .eq 14, 3) := by decide +kernel
theorem dX3_joinedTurn_11 : decode cX3_joinedTurn 11 = .ok (.aload_n 0, 1) := by decide +kernel
theorem dX3_joinedTurn_12 : decode cX3_joinedTurn 12 = .ok (.getfield 28, 3) := by decide +kernel
theorem dX3_joinedTurn_15 : decode cX3_joinedTurn 15 = .ok (.iload_n 1, 1) := by decide +kernel
theorem dX3_joinedTurn_16 : decode cX3_joinedTurn 16 = .ok (.iaload, 1) := by decide +kernel
theorem dX3_joinedTurn_17 : decode cX3_joinedTurn 17 = .ok (.iconst 4, 1) := by decide +kernel
theorem dX3_joinedTurn_18 : decode cX3_joinedTurn 18 = .ok (.irem, 1) := by decide +kernel
theorem dX3_joinedTurn_19 : decode cX3_joinedTurn 19 = .ok (.goto 4, 3) := by decide +kernel
theorem dX3_joinedTurn_22 : decode cX3_joinedTurn 22 = .ok (.iconst (-1), 1) := by decide +kernel
theorem dX3_joinedTurn_23 : decode cX3_joinedTurn 23 = .ok (.ireturn, 1) := by decide +kernel
set_option maxRecDepth 20000 in
theorem ggX3_countWays_X3_run : GoodIn wsX3_countWays wsX3_run := goodIn_r _ [7, 8, 9, 10, 1, 2, 11, 12, 13, 14, 15, 16, 17, 18, 19, 20, 6, 21, 22, 23, 24, 25, 26, 27, 28, 29, 30, 31, 32, 33, 34, 35, 36, 37, 38, 39, 40, 41, 42, 43, 44, 45, 46, 47, 48, 49, 50, 51, 52, 53, 54, 55, 56, 57, 58, 59, 60, 61, 62, 63, 64, 65, 66, 67, 68, 69, 70, 71, 72, 73, 74, 75, 76, 77, 78, 79, 80, 81, 82, 83, 84, 85, 86, 87, 88, 89, 90, 91, 92, 93, 94, 95, 96, 97, 98, 99, 100, 101, 102, 103, 104, 105, 106, 107, 108, 109, 110] (by decide +kernel) (by decide +kernel)
set_option maxRecDepth 20000 in
theorem gX3_countWays_X3_run : GoodIn wsX3_countWays (wsV RX3 53 RX3 yX3_run wsX3_run) := goodIn_app (goodIn_of _ (by decide +kernel)) ggX3_countWays_X3_run
theorem dX3_countWays_0 : decode cX3_countWays 0 = .ok (.aload_n 0, 1) := by decide +kernel
theorem dX3_countWays_1 : decode cX3_countWays 1 = .ok (.iconst 0, 1) := by decide +kernel
theorem dX3_countWays_2 : decode cX3_countWays 2 = .ok (.invokevirtual 53, 3) := by decide +kernel
theorem dX3_countWays_5 : decode cX3_countWays 5 = .ok (.aload_n 0, 1) := by decide +kernel
theorem dX3_countWays_6 : decode cX3_countWays 6 = .ok (.getfield 57, 3) := by decide +kernel
theorem dX3_countWays_9 : decode cX3_countWays 9 = .ok (.ifCond .eq 8, 3) := by decide +kernel
theorem dX3_countWays_12 : decode cX3_countWays 12 = .ok (.bipush (-6), 2) := by decide +kernel
theorem dX3_countWays_14 : decode cX3_countWays 14 = .ok (.goto 7, 3) := by decide +kernel
theorem dX3_countWays_17 : decode cX3_countWays 17 = .ok (.aload_n 0, 1) := by decide +kernel
theorem dX3_countWays_18 : decode cX3_countWays 18 = .ok (.getfield 60, 3) := by decide +kernel
theorem dX3_countWays_21 : decode cX3_countWays 21 = .ok (.ireturn, 1) := by decide +kernel
set_option maxRecDepth 20000 in
theorem ggX3_findFirst_X3_run : GoodIn wsX3_findFirst wsX3_run := goodIn_r _ [11, 12, 13, 14, 1, 2, 15, 16, 17, 18, 19, 20, 21, 22, 23, 24, 10, 25, 4, 26, 27, 28, 29, 30, 31, 32, 33, 34, 35, 36, 37, 38, 39, 40, 41, 42, 43, 44, 45, 46, 47, 48, 49, 50, 51, 52, 53, 54, 55, 56, 57, 58, 59, 60, 61, 62, 63, 64, 65, 66, 67, 68, 69, 70, 71, 72, 73, 6, 74, 75, 76, 77, 78, 79, 80, 81, 82, 83, 84, 85, 86, 87, 88, 89, 90, 91, 92, 93, 94, 95, 96, 97, 98, 99, 100, 101, 102, 103, 104, 105, 106, 107, 108, 109, 110, 111, 112] (by decide +kernel) (by decide +kernel)
set_option maxRecDepth 20000 in
theorem gX3_findFirst_X3_run : GoodIn wsX3_findFirst (wsV RX3 53 RX3 yX3_run wsX3_run) := goodIn_app (goodIn_of _ (by decide +kernel)) ggX3_findFirst_X3_run
set_option maxRecDepth 20000 in
theorem ggX3_findFirst_X1_pieces : GoodIn wsX3_findFirst wsX1_pieces := goodIn_r _ [77, 78, 79, 109, 110, 111, 112] (by decide +kernel) (by decide +kernel)
set_option maxRecDepth 20000 in
theorem gX3_findFirst_X1_pieces : GoodIn wsX3_findFirst (wsV RX3 63 RX1 yX1_pieces wsX1_pieces) := goodIn_app (goodIn_of _ (by decide +kernel)) ggX3_findFirst_X1_pieces
theorem dX3_findFirst_0 : decode cX3_findFirst 0 = .ok (.aload_n 0, 1) := by decide +kernel
theorem dX3_findFirst_1 : decode cX3_findFirst 1 = .ok (.iconst 1, 1) := by decide +kernel
theorem dX3_findFirst_2 : decode cX3_findFirst 2 = .ok (.invokevirtual 53, 3) := by decide +kernel
theorem dX3_findFirst_5 : decode cX3_findFirst 5 = .ok (.aload_n 0, 1) := by decide +kernel
theorem dX3_findFirst_6 : decode cX3_findFirst 6 = .ok (.getfield 57, 3) := by decide +kernel
theorem dX3_findFirst_9 : decode cX3_findFirst 9 = .ok (.ifCond .eq 6, 3) := by decide +kernel
theorem dX3_findFirst_12 : decode cX3_findFirst 12 = .ok (.bipush (-6), 2) := by decide +kernel
theorem dX3_findFirst_14 : decode cX3_findFirst 14 = .ok (.ireturn, 1) := by decide +kernel
theorem dX3_findFirst_15 : decode cX3_findFirst 15 = .ok (.aload_n 0, 1) := by decide +kernel
theorem dX3_findFirst_16 : decode cX3_findFirst 16 = .ok (.aload_n 0, 1) := by decide +kernel
theorem dX3_findFirst_17 : decode cX3_findFirst 17 = .ok (.getfield 60, 3) := by decide +kernel
theorem dX3_findFirst_20 : decode cX3_findFirst 20 = .ok (.ifCond .le 7, 3) := by decide +kernel
theorem dX3_findFirst_23 : decode cX3_findFirst 23 = .ok (.iconst 1, 1) := by decide +kernel
theorem dX3_findFirst_24 : decode cX3_findFirst 24 = .ok (.goto 4, 3) := by decide +kernel
theorem dX3_findFirst_27 : decode cX3_findFirst 27 = .ok (.iconst 0, 1) := by decide +kernel
theorem dX3_findFirst_28 : decode cX3_findFirst 28 = .ok (.putfield 43, 3) := by decide +kernel
theorem dX3_findFirst_31 : decode cX3_findFirst 31 = .ok (.iconst 0, 1) := by decide +kernel
theorem dX3_findFirst_32 : decode cX3_findFirst 32 = .ok (.istore_n 1, 1) := by decide +kernel
theorem dX3_findFirst_33 : decode cX3_findFirst 33 = .ok (.aload_n 0, 1) := by decide +kernel
theorem dX3_findFirst_34 : decode cX3_findFirst 34 = .ok (.getfield 43, 3) := by decide +kernel
theorem dX3_findFirst_37 : decode cX3_findFirst 37 = .ok (.ifCond .eq 32, 3) := by decide +kernel
theorem dX3_findFirst_40 : decode cX3_findFirst 40 = .ok (.iload_n 1, 1) := by decide +kernel
theorem dX3_findFirst_41 : decode cX3_findFirst 41 = .ok (.aload_n 0, 1) := by decide +kernel
theorem dX3_findFirst_42 : decode cX3_findFirst 42 = .ok (.getfield 31, 3) := by decide +kernel
theorem dX3_findFirst_45 : decode cX3_findFirst 45 = .ok (.invokevirtual 63, 3) := by decide +kernel
theorem dX3_findFirst_48 : decode cX3_findFirst 48 = .ok (.if_icmp .ge 21, 3) := by decide +kernel
theorem dX3_findFirst_51 : decode cX3_findFirst 51 = .ok (.aload_n 0, 1) := by decide +kernel
theorem dX3_findFirst_52 : decode cX3_findFirst 52 = .ok (.getfield 28, 3) := by decide +kernel
theorem dX3_findFirst_55 : decode cX3_findFirst 55 = .ok (.iload_n 1, 1) := by decide +kernel
theorem dX3_findFirst_56 : decode cX3_findFirst 56 = .ok (.aload_n 0, 1) := by decide +kernel
theorem dX3_findFirst_57 : decode cX3_findFirst 57 = .ok (.getfield 25, 3) := by decide +kernel
theorem dX3_findFirst_60 : decode cX3_findFirst 60 = .ok (.iload_n 1, 1) := by decide +kernel
theorem dX3_findFirst_61 : decode cX3_findFirst 61 = .ok (.iaload, 1) := by decide +kernel
theorem dX3_findFirst_62 : decode cX3_findFirst 62 = .ok (.iastore, 1) := by decide +kernel
theorem dX3_findFirst_63 : decode cX3_findFirst 63 = .ok (.iinc 1 1, 3) := by decide +kernel
theorem dX3_findFirst_66 : decode cX3_findFirst 66 = .ok (.goto (-33), 3) := by decide +kernel
theorem dX3_findFirst_69 : decode cX3_findFirst 69 = .ok (.aload_n 0, 1) := by decide +kernel
theorem dX3_findFirst_70 : decode cX3_findFirst 70 = .ok (.getfield 60, 3) := by decide +kernel
theorem dX3_findFirst_73 : decode cX3_findFirst 73 = .ok (.ireturn, 1) := by decide +kernel
set_option maxRecDepth 20000 in
theorem ggX3_run_X2_size : GoodIn wsX3_run wsX2_size := goodIn_r _ [11, 12, 100, 101, 102] (by decide +kernel) (by decide +kernel)
set_option maxRecDepth 20000 in
theorem gX3_run_X2_size : GoodIn wsX3_run (wsV RX3 67 RX2 yX2_size wsX2_size) := goodIn_app (goodIn_of _ (by decide +kernel)) ggX3_run_X2_size
set_option maxRecDepth 20000 in
theorem ggX3_run_X3_readEdges : GoodIn wsX3_run wsX3_readEdges := goodIn_r _ [17, 1, 18, 19, 20, 21, 22, 23, 10, 24, 25, 26, 27, 28, 29, 12, 30, 31, 32, 33, 34, 35, 36, 37, 38, 39, 40, 41, 42, 16, 43, 44, 45, 46, 47, 48, 49, 50, 51, 52, 53, 54, 55, 56, 57, 58, 59, 60, 61, 87, 88, 89, 90, 91, 92, 93, 94, 95, 96, 97, 98, 99, 100, 101, 102, 103, 104, 105, 106] (by decide +kernel) (by decide +kernel)
set_option maxRecDepth 20000 in
theorem gX3_run_X3_readEdges : GoodIn wsX3_run (wsV RX3 72 RX3 yX3_readEdges wsX3_readEdges) := goodIn_app (goodIn_of _ (by decide +kernel)) ggX3_run_X3_readEdges
set_option maxRecDepth 20000 in
theorem ggX3_run_X3_fillFrom : GoodIn wsX3_run wsX3_fillFrom := goodIn_r _ [65, 18, 5, 1, 2, 6, 66, 4, 67, 3, 68, 69, 70, 33, 71, 72, 73, 74, 75, 76, 16, 77, 20, 78, 79, 80, 81, 82, 30, 31, 32, 34, 35, 36, 37, 38, 39, 7, 8, 9, 10, 11, 12, 83, 84, 85, 86, 19, 62, 63, 64, 87, 88, 89, 90, 91, 92, 93, 94, 95, 96, 97, 98, 99, 103, 104, 105, 106, 100, 101, 102] (by decide +kernel) (by decide +kernel)
set_option maxRecDepth 20000 in
theorem gX3_run_X3_fillFrom : GoodIn wsX3_run (wsV RX3 79 RX3 yX3_fillFrom wsX3_fillFrom) := goodIn_app (goodIn_of _ (by decide +kernel)) ggX3_run_X3_fillFrom
theorem dX3_run_0 : decode cX3_run 0 = .ok (.iconst 0, 1) := by decide +kernel
theorem dX3_run_1 : decode cX3_run 1 = .ok (.istore_n 2, 1) := by decide +kernel
theorem dX3_run_2 : decode cX3_run 2 = .ok (.iload_n 2, 1) := by decide +kernel
theorem dX3_run_3 : decode cX3_run 3 = .ok (.aload_n 0, 1) := by decide +kernel
theorem dX3_run_4 : decode cX3_run 4 = .ok (.getfield 35, 3) := by decide +kernel
theorem dX3_run_7 : decode cX3_run 7 = .ok (.invokevirtual 67, 3) := by decide +kernel
theorem dX3_run_10 : decode cX3_run 10 = .ok (.if_icmp .ge 21, 3) := by decide +kernel
theorem dX3_run_13 : decode cX3_run 13 = .ok (.aload_n 0, 1) := by decide +kernel
theorem dX3_run_14 : decode cX3_run 14 = .ok (.getfield 21, 3) := by decide +kernel
theorem dX3_run_17 : decode cX3_run 17 = .ok (.iload_n 2, 1) := by decide +kernel
theorem dX3_run_18 : decode cX3_run 18 = .ok (.iconst 0, 1) := by decide +kernel
theorem dX3_run_19 : decode cX3_run 19 = .ok (.bastore, 1) := by decide +kernel
theorem dX3_run_20 : decode cX3_run 20 = .ok (.aload_n 0, 1) := by decide +kernel
theorem dX3_run_21 : decode cX3_run 21 = .ok (.iload_n 2, 1) := by decide +kernel
theorem dX3_run_22 : decode cX3_run 22 = .ok (.invokevirtual 72, 3) := by decide +kernel
theorem dX3_run_25 : decode cX3_run 25 = .ok (.iinc 2 1, 3) := by decide +kernel
theorem dX3_run_28 : decode cX3_run 28 = .ok (.goto (-26), 3) := by decide +kernel
theorem dX3_run_31 : decode cX3_run 31 = .ok (.aload_n 0, 1) := by decide +kernel
theorem dX3_run_32 : decode cX3_run 32 = .ok (.iload_n 1, 1) := by decide +kernel
theorem dX3_run_33 : decode cX3_run 33 = .ok (.putfield 76, 3) := by decide +kernel
theorem dX3_run_36 : decode cX3_run 36 = .ok (.aload_n 0, 1) := by decide +kernel
theorem dX3_run_37 : decode cX3_run 37 = .ok (.iconst 0, 1) := by decide +kernel
theorem dX3_run_38 : decode cX3_run 38 = .ok (.putfield 57, 3) := by decide +kernel
theorem dX3_run_41 : decode cX3_run 41 = .ok (.aload_n 0, 1) := by decide +kernel
theorem dX3_run_42 : decode cX3_run 42 = .ok (.iconst 0, 1) := by decide +kernel
theorem dX3_run_43 : decode cX3_run 43 = .ok (.putfield 60, 3) := by decide +kernel
theorem dX3_run_46 : decode cX3_run 46 = .ok (.aload_n 0, 1) := by decide +kernel
theorem dX3_run_47 : decode cX3_run 47 = .ok (.iconst 0, 1) := by decide +kernel
theorem dX3_run_48 : decode cX3_run 48 = .ok (.putfield 39, 3) := by decide +kernel
theorem dX3_run_51 : decode cX3_run 51 = .ok (.aload_n 0, 1) := by decide +kernel
theorem dX3_run_52 : decode cX3_run 52 = .ok (.iconst 0, 1) := by decide +kernel
theorem dX3_run_53 : decode cX3_run 53 = .ok (.invokevirtual 79, 3) := by decide +kernel
theorem dX3_run_56 : decode cX3_run 56 = .ok (.return_, 1) := by decide +kernel
set_option maxRecDepth 20000 in
theorem ggX3_readEdges_X2_pieceAt : GoodIn wsX3_readEdges wsX2_pieceAt := goodIn_r _ [9, 10, 11, 12, 13, 8, 14, 15, 62, 63, 64] (by decide +kernel) (by decide +kernel)
set_option maxRecDepth 20000 in
theorem gX3_readEdges_X2_pieceAt : GoodIn wsX3_readEdges (wsV RX3 82 RX2 yX2_pieceAt wsX2_pieceAt) := goodIn_app (goodIn_of _ (by decide +kernel)) ggX3_readEdges_X2_pieceAt
set_option maxRecDepth 20000 in
theorem ggX3_readEdges_X1_isFlat : GoodIn wsX3_readEdges wsX1_isFlat := goodIn_r _ [20, 21, 22, 23, 19, 24, 25, 65, 66, 67, 68] (by decide +kernel) (by decide +kernel)
set_option maxRecDepth 20000 in
theorem gX3_readEdges_X1_isFlat : GoodIn wsX3_readEdges (wsV RX3 86 RX1 yX1_isFlat wsX1_isFlat) := goodIn_app (goodIn_of _ (by decide +kernel)) ggX3_readEdges_X1_isFlat
set_option maxRecDepth 20000 in
theorem ggX3_readEdges_X3_codeOf : GoodIn wsX3_readEdges wsX3_codeOf := goodIn_r _ [30, 2, 31, 32, 33, 19, 34, 21, 22, 23, 24, 25, 35, 36, 37, 38, 39, 49, 50, 51, 52, 53, 54, 55, 56, 57, 58, 59, 60, 61, 65, 66, 67, 68] (by decide +kernel) (by decide +kernel)
set_option maxRecDepth 20000 in
theorem gX3_readEdges_X3_codeOf : GoodIn wsX3_readEdges (wsV RX3 90 RX3 yX3_codeOf wsX3_codeOf) := goodIn_app (goodIn_of _ (by decide +kernel)) ggX3_readEdges_X3_codeOf
set_option maxRecDepth 20000 in
theorem ggX3_readEdges_X3_mateOf : GoodIn wsX3_readEdges wsX3_mateOf := goodIn_r _ [43, 2, 31, 32, 33, 19, 34, 21, 22, 23, 24, 25, 35, 36, 37, 38, 39, 49, 50, 51, 52, 53, 54, 55, 56, 57, 58, 59, 60, 61, 65, 66, 67, 68] (by decide +kernel) (by decide +kernel)
set_option maxRecDepth 20000 in
theorem gX3_readEdges_X3_mateOf : GoodIn wsX3_readEdges (wsV RX3 94 RX3 yX3_mateOf wsX3_mateOf) := goodIn_app (goodIn_of _ (by decide +kernel)) ggX3_readEdges_X3_mateOf
set_option maxRecDepth 20000 in
theorem ggX3_readEdges_X2_turnAt : GoodIn wsX3_readEdges wsX2_turnAt := goodIn_r _ [47, 48, 11, 12, 13, 8, 14, 15, 62, 63, 64] (by decide +kernel) (by decide +kernel)
set_option maxRecDepth 20000 in
theorem gX3_readEdges_X2_turnAt : GoodIn wsX3_readEdges (wsV RX3 97 RX2 yX2_turnAt wsX2_turnAt) := goodIn_app (goodIn_of _ (by decide +kernel)) ggX3_readEdges_X2_turnAt
theorem dX3_readEdges_0 : decode cX3_readEdges 0 = .ok (.aload_n 0, 1) := by decide +kernel
theorem dX3_readEdges_1 : decode cX3_readEdges 1 = .ok (.getfield 35, 3) := by decide +kernel
theorem dX3_readEdges_4 : decode cX3_readEdges 4 = .ok (.iload_n 1, 1) := by decide +kernel
theorem dX3_readEdges_5 : decode cX3_readEdges 5 = .ok (.invokevirtual 82, 3) := by decide +kernel
theorem dX3_readEdges_8 : decode cX3_readEdges 8 = .ok (.istore_n 2, 1) := by decide +kernel
theorem dX3_readEdges_9 : decode cX3_readEdges 9 = .ok (.iconst 0, 1) := by decide +kernel
theorem dX3_readEdges_10 : decode cX3_readEdges 10 = .ok (.istore_n 3, 1) := by decide +kernel
theorem dX3_readEdges_11 : decode cX3_readEdges 11 = .ok (.iload_n 3, 1) := by decide +kernel
theorem dX3_readEdges_12 : decode cX3_readEdges 12 = .ok (.iconst 4, 1) := by decide +kernel
theorem dX3_readEdges_13 : decode cX3_readEdges 13 = .ok (.if_icmp .ge 120, 3) := by decide +kernel
theorem dX3_readEdges_16 : decode cX3_readEdges 16 = .ok (.aload_n 0, 1) := by decide +kernel
theorem dX3_readEdges_17 : decode cX3_readEdges 17 = .ok (.getfield 31, 3) := by decide +kernel
theorem dX3_readEdges_20 : decode cX3_readEdges 20 = .ok (.iload_n 2, 1) := by decide +kernel
theorem dX3_readEdges_21 : decode cX3_readEdges 21 = .ok (.iload_n 3, 1) := by decide +kernel
theorem dX3_readEdges_22 : decode cX3_readEdges 22 = .ok (.invokevirtual 86, 3) := by decide +kernel
theorem dX3_readEdges_25 : decode cX3_readEdges 25 = .ok (.ifCond .eq 7, 3) := by decide +kernel
theorem dX3_readEdges_28 : decode cX3_readEdges 28 = .ok (.iconst (-1), 1) := by decide +kernel
theorem dX3_readEdges_29 : decode cX3_readEdges 29 = .ok (.goto 9, 3) := by decide +kernel
theorem dX3_readEdges_32 : decode cX3_readEdges 32 = .ok (.aload_n 0, 1) := by decide +kernel
theorem dX3_readEdges_33 : decode cX3_readEdges 33 = .ok (.iload_n 2, 1) := by decide +kernel
theorem dX3_readEdges_34 : decode cX3_readEdges 34 = .ok (.iload_n 3, 1) := by decide +kernel
theorem dX3_readEdges_35 : decode cX3_readEdges 35 = .ok (.invokevirtual 90, 3) := by decide +kernel
theorem dX3_readEdges_38 : decode cX3_readEdges 38 = .ok (.istore 4, 2) := by decide +kernel
theorem dX3_readEdges_40 : decode cX3_readEdges 40 = .ok (.aload_n 0, 1) := by decide +kernel
theorem dX3_readEdges_41 : decode cX3_readEdges 41 = .ok (.getfield 31, 3) := by decide +kernel
theorem dX3_readEdges_44 : decode cX3_readEdges 44 = .ok (.iload_n 2, 1) := by decide +kernel
theorem dX3_readEdges_45 : decode cX3_readEdges 45 = .ok (.iload_n 3, 1) := by decide +kernel
theorem dX3_readEdges_46 : decode cX3_readEdges 46 = .ok (.invokevirtual 86, 3) := by decide +kernel
theorem dX3_readEdges_49 : decode cX3_readEdges 49 = .ok (.ifCond .eq 7, 3) := by decide +kernel
theorem dX3_readEdges_52 : decode cX3_readEdges 52 = .ok (.iconst (-1), 1) := by decide +kernel
theorem dX3_readEdges_53 : decode cX3_readEdges 53 = .ok (.goto 9, 3) := by decide +kernel
theorem dX3_readEdges_56 : decode cX3_readEdges 56 = .ok (.aload_n 0, 1) := by decide +kernel
theorem dX3_readEdges_57 : decode cX3_readEdges 57 = .ok (.iload_n 2, 1) := by decide +kernel
theorem dX3_readEdges_58 : decode cX3_readEdges 58 = .ok (.iload_n 3, 1) := by decide +kernel
theorem dX3_readEdges_59 : decode cX3_readEdges 59 = .ok (.invokevirtual 94, 3) := by decide +kernel
theorem dX3_readEdges_62 : decode cX3_readEdges 62 = .ok (.istore 5, 2) := by decide +kernel
theorem dX3_readEdges_64 : decode cX3_readEdges 64 = .ok (.iconst 0, 1) := by decide +kernel
theorem dX3_readEdges_65 : decode cX3_readEdges 65 = .ok (.istore 6, 2) := by decide +kernel
theorem dX3_readEdges_67 : decode cX3_readEdges 67 = .ok (.iload 6, 2) := by decide +kernel
theorem dX3_readEdges_69 : decode cX3_readEdges 69 = .ok (.iconst 4, 1) := by decide +kernel
theorem dX3_readEdges_70 : decode cX3_readEdges 70 = .ok (.if_icmp .ge 57, 3) := by decide +kernel
theorem dX3_readEdges_73 : decode cX3_readEdges 73 = .ok (.iload_n 3, 1) := by decide +kernel
theorem dX3_readEdges_74 : decode cX3_readEdges 74 = .ok (.aload_n 0, 1) := by decide +kernel
theorem dX3_readEdges_75 : decode cX3_readEdges 75 = .ok (.getfield 35, 3) := by decide +kernel
theorem dX3_readEdges_78 : decode cX3_readEdges 78 = .ok (.iload_n 1, 1) := by decide +kernel
theorem dX3_readEdges_79 : decode cX3_readEdges 79 = .ok (.invokevirtual 97, 3) := by decide +kernel
theorem dX3_readEdges_82 : decode cX3_readEdges 82 = .ok (.iadd, 1) := by decide +kernel
theorem dX3_readEdges_83 : decode cX3_readEdges 83 = .ok (.iload 6, 2) := by decide +kernel
theorem dX3_readEdges_85 : decode cX3_readEdges 85 = .ok (.iadd, 1) := by decide +kernel
theorem dX3_readEdges_86 : decode cX3_readEdges 86 = .ok (.iconst 4, 1) := by decide +kernel
theorem dX3_readEdges_87 : decode cX3_readEdges 87 = .ok (.irem, 1) := by decide +kernel
theorem dX3_readEdges_88 : decode cX3_readEdges 88 = .ok (.istore 7, 2) := by decide +kernel
theorem dX3_readEdges_90 : decode cX3_readEdges 90 = .ok (.iload_n 1, 1) := by decide +kernel
theorem dX3_readEdges_91 : decode cX3_readEdges 91 = .ok (.iconst 4, 1) := by decide +kernel
theorem dX3_readEdges_92 : decode cX3_readEdges 92 = .ok (.imul, 1) := by decide +kernel
theorem dX3_readEdges_93 : decode cX3_readEdges 93 = .ok (.iload 6, 2) := by decide +kernel
theorem dX3_readEdges_95 : decode cX3_readEdges 95 = .ok (.iadd, 1) := by decide +kernel
theorem dX3_readEdges_96 : decode cX3_readEdges 96 = .ok (.iconst 4, 1) := by decide +kernel
theorem dX3_readEdges_97 : decode cX3_readEdges 97 = .ok (.imul, 1) := by decide +kernel
theorem dX3_readEdges_98 : decode cX3_readEdges 98 = .ok (.iload 7, 2) := by decide +kernel
theorem dX3_readEdges_100 : decode cX3_readEdges 100 = .ok (.iadd, 1) := by decide +kernel
theorem dX3_readEdges_101 : decode cX3_readEdges 101 = .ok (.istore 8, 2) := by decide +kernel
theorem dX3_readEdges_103 : decode cX3_readEdges 103 = .ok (.aload_n 0, 1) := by decide +kernel
theorem dX3_readEdges_104 : decode cX3_readEdges 104 = .ok (.getfield 9, 3) := by decide +kernel
theorem dX3_readEdges_107 : decode cX3_readEdges 107 = .ok (.iload 8, 2) := by decide +kernel
theorem dX3_readEdges_109 : decode cX3_readEdges 109 = .ok (.iload 4, 2) := by decide +kernel
theorem dX3_readEdges_111 : decode cX3_readEdges 111 = .ok (.iastore, 1) := by decide +kernel
theorem dX3_readEdges_112 : decode cX3_readEdges 112 = .ok (.aload_n 0, 1) := by decide +kernel
theorem dX3_readEdges_113 : decode cX3_readEdges 113 = .ok (.getfield 15, 3) := by decide +kernel
theorem dX3_readEdges_116 : decode cX3_readEdges 116 = .ok (.iload 8, 2) := by decide +kernel
theorem dX3_readEdges_118 : decode cX3_readEdges 118 = .ok (.iload 5, 2) := by decide +kernel
theorem dX3_readEdges_120 : decode cX3_readEdges 120 = .ok (.iastore, 1) := by decide +kernel
theorem dX3_readEdges_121 : decode cX3_readEdges 121 = .ok (.iinc 6 1, 3) := by decide +kernel
theorem dX3_readEdges_124 : decode cX3_readEdges 124 = .ok (.goto (-57), 3) := by decide +kernel
theorem dX3_readEdges_127 : decode cX3_readEdges 127 = .ok (.iinc 3 1, 3) := by decide +kernel
theorem dX3_readEdges_130 : decode cX3_readEdges 130 = .ok (.goto (-119), 3) := by decide +kernel
theorem dX3_readEdges_133 : decode cX3_readEdges 133 = .ok (.return_, 1) := by decide +kernel
set_option maxRecDepth 20000 in
theorem ggX3_codeOf_X1_edgeHeight : GoodIn wsX3_codeOf wsX1_edgeHeight := goodIn_r _ [6, 7, 8, 9, 5, 10, 11, 12, 13, 14, 15, 16, 30, 31, 32, 33] (by decide +kernel) (by decide +kernel)
set_option maxRecDepth 20000 in
theorem gX3_codeOf_X1_edgeHeight : GoodIn wsX3_codeOf (wsV RX3 100 RX1 yX1_edgeHeight wsX1_edgeHeight) := goodIn_app (goodIn_of _ (by decide +kernel)) ggX3_codeOf_X1_edgeHeight
theorem dX3_codeOf_0 : decode cX3_codeOf 0 = .ok (.iconst 0, 1) := by decide +kernel
theorem dX3_codeOf_1 : decode cX3_codeOf 1 = .ok (.istore_n 3, 1) := by decide +kernel
theorem dX3_codeOf_2 : decode cX3_codeOf 2 = .ok (.iconst 0, 1) := by decide +kernel
theorem dX3_codeOf_3 : decode cX3_codeOf 3 = .ok (.istore 4, 2) := by decide +kernel
theorem dX3_codeOf_5 : decode cX3_codeOf 5 = .ok (.iload 4, 2) := by decide +kernel
theorem dX3_codeOf_7 : decode cX3_codeOf 7 = .ok (.iconst 5, 1) := by decide +kernel
theorem dX3_codeOf_8 : decode cX3_codeOf 8 = .ok (.if_icmp .ge 29, 3) := by decide +kernel
theorem dX3_codeOf_11 : decode cX3_codeOf 11 = .ok (.iload_n 3, 1) := by decide +kernel
theorem dX3_codeOf_12 : decode cX3_codeOf 12 = .ok (.bipush 19, 2) := by decide +kernel
theorem dX3_codeOf_14 : decode cX3_codeOf 14 = .ok (.imul, 1) := by decide +kernel
theorem dX3_codeOf_15 : decode cX3_codeOf 15 = .ok (.bipush 9, 2) := by decide +kernel
theorem dX3_codeOf_17 : decode cX3_codeOf 17 = .ok (.iadd, 1) := by decide +kernel
theorem dX3_codeOf_18 : decode cX3_codeOf 18 = .ok (.aload_n 0, 1) := by decide +kernel
theorem dX3_codeOf_19 : decode cX3_codeOf 19 = .ok (.getfield 31, 3) := by decide +kernel
theorem dX3_codeOf_22 : decode cX3_codeOf 22 = .ok (.iload_n 1, 1) := by decide +kernel
theorem dX3_codeOf_23 : decode cX3_codeOf 23 = .ok (.iload_n 2, 1) := by decide +kernel
theorem dX3_codeOf_24 : decode cX3_codeOf 24 = .ok (.iload 4, 2) := by decide +kernel
theorem dX3_codeOf_26 : decode cX3_codeOf 26 = .ok (.invokevirtual 100, 3) := by decide +kernel
theorem dX3_codeOf_29 : decode cX3_codeOf 29 = .ok (.iadd, 1) := by decide +kernel
theorem dX3_codeOf_30 : decode cX3_codeOf 30 = .ok (.istore_n 3, 1) := by decide +kernel
theorem dX3_codeOf_31 : decode cX3_codeOf 31 = .ok (.iinc 4 1, 3) := by decide +kernel
theorem dX3_codeOf_34 : decode cX3_codeOf 34 = .ok (.goto (-29), 3) := by decide +kernel
theorem dX3_codeOf_37 : decode cX3_codeOf 37 = .ok (.iload_n 3, 1) := by decide +kernel
theorem dX3_codeOf_38 : decode cX3_codeOf 38 = .ok (.ireturn, 1) := by decide +kernel
set_option maxRecDepth 20000 in
theorem ggX3_mateOf_X1_edgeHeight : GoodIn wsX3_mateOf wsX1_edgeHeight := goodIn_r _ [6, 7, 8, 9, 5, 10, 11, 12, 13, 14, 15, 16, 30, 31, 32, 33] (by decide +kernel) (by decide +kernel)
set_option maxRecDepth 20000 in
theorem gX3_mateOf_X1_edgeHeight : GoodIn wsX3_mateOf (wsV RX3 100 RX1 yX1_edgeHeight wsX1_edgeHeight) := goodIn_app (goodIn_of _ (by decide +kernel)) ggX3_mateOf_X1_edgeHeight
theorem dX3_mateOf_0 : decode cX3_mateOf 0 = .ok (.iconst 0, 1) := by decide +kernel
theorem dX3_mateOf_1 : decode cX3_mateOf 1 = .ok (.istore_n 3, 1) := by decide +kernel
theorem dX3_mateOf_2 : decode cX3_mateOf 2 = .ok (.iconst 4, 1) := by decide +kernel
theorem dX3_mateOf_3 : decode cX3_mateOf 3 = .ok (.istore 4, 2) := by decide +kernel
theorem dX3_mateOf_5 : decode cX3_mateOf 5 = .ok (.iload 4, 2) := by decide +kernel
theorem dX3_mateOf_7 : decode cX3_mateOf 7 = .ok (.ifCond .lt 29, 3) := by decide +kernel
theorem dX3_mateOf_10 : decode cX3_mateOf 10 = .ok (.iload_n 3, 1) := by decide +kernel
theorem dX3_mateOf_11 : decode cX3_mateOf 11 = .ok (.bipush 19, 2) := by decide +kernel
theorem dX3_mateOf_13 : decode cX3_mateOf 13 = .ok (.imul, 1) := by decide +kernel
theorem dX3_mateOf_14 : decode cX3_mateOf 14 = .ok (.bipush 9, 2) := by decide +kernel
theorem dX3_mateOf_16 : decode cX3_mateOf 16 = .ok (.iadd, 1) := by decide +kernel
theorem dX3_mateOf_17 : decode cX3_mateOf 17 = .ok (.aload_n 0, 1) := by decide +kernel
theorem dX3_mateOf_18 : decode cX3_mateOf 18 = .ok (.getfield 31, 3) := by decide +kernel
theorem dX3_mateOf_21 : decode cX3_mateOf 21 = .ok (.iload_n 1, 1) := by decide +kernel
theorem dX3_mateOf_22 : decode cX3_mateOf 22 = .ok (.iload_n 2, 1) := by decide +kernel
theorem dX3_mateOf_23 : decode cX3_mateOf 23 = .ok (.iload 4, 2) := by decide +kernel
theorem dX3_mateOf_25 : decode cX3_mateOf 25 = .ok (.invokevirtual 100, 3) := by decide +kernel
theorem dX3_mateOf_28 : decode cX3_mateOf 28 = .ok (.isub, 1) := by decide +kernel
theorem dX3_mateOf_29 : decode cX3_mateOf 29 = .ok (.istore_n 3, 1) := by decide +kernel
theorem dX3_mateOf_30 : decode cX3_mateOf 30 = .ok (.iinc 4 (-1), 3) := by decide +kernel
theorem dX3_mateOf_33 : decode cX3_mateOf 33 = .ok (.goto (-28), 3) := by decide +kernel
theorem dX3_mateOf_36 : decode cX3_mateOf 36 = .ok (.iload_n 3, 1) := by decide +kernel
theorem dX3_mateOf_37 : decode cX3_mateOf 37 = .ok (.ireturn, 1) := by decide +kernel
set_option maxRecDepth 20000 in
theorem ggX3_fillFrom_X1_pieces : GoodIn wsX3_fillFrom wsX1_pieces := goodIn_r _ [14, 15, 16, 64, 65, 66, 67] (by decide +kernel) (by decide +kernel)
set_option maxRecDepth 20000 in
theorem gX3_fillFrom_X1_pieces : GoodIn wsX3_fillFrom (wsV RX3 63 RX1 yX1_pieces wsX1_pieces) := goodIn_app (goodIn_of _ (by decide +kernel)) ggX3_fillFrom_X1_pieces
set_option maxRecDepth 20000 in
theorem ggX3_fillFrom_X3_lookAround : GoodIn wsX3_fillFrom wsX3_lookAround := goodIn_r _ [21, 1, 22, 8, 23, 24, 25, 26, 13, 27, 15, 28, 29, 30, 31, 32, 33, 34, 35, 36, 51, 52, 53, 54, 55, 56, 57, 58, 59, 60, 61, 62, 63, 64, 65, 66, 67] (by decide +kernel) (by decide +kernel)
set_option maxRecDepth 20000 in
theorem gX3_fillFrom_X3_lookAround : GoodIn wsX3_fillFrom (wsV RX3 104 RX3 yX3_lookAround wsX3_lookAround) := goodIn_app (goodIn_of _ (by decide +kernel)) ggX3_fillFrom_X3_lookAround
set_option maxRecDepth 20000 in
theorem ggX3_fillFrom_X2_size : GoodIn wsX3_fillFrom wsX2_size := goodIn_r _ [41, 42, 68, 69, 70] (by decide +kernel) (by decide +kernel)
set_option maxRecDepth 20000 in
theorem gX3_fillFrom_X2_size : GoodIn wsX3_fillFrom (wsV RX3 67 RX2 yX2_size wsX2_size) := goodIn_app (goodIn_of _ (by decide +kernel)) ggX3_fillFrom_X2_size
set_option maxRecDepth 20000 in
theorem ggX3_fillFrom_X3_fits : GoodIn wsX3_fillFrom wsX3_fits := goodIn_r _ [46, 23, 47, 8, 51, 52, 53, 54, 55, 56, 57, 58, 59, 60, 61, 62, 63] (by decide +kernel) (by decide +kernel)
set_option maxRecDepth 20000 in
theorem gX3_fillFrom_X3_fits : GoodIn wsX3_fillFrom (wsV RX3 108 RX3 yX3_fits wsX3_fits) := goodIn_app (goodIn_of _ (by decide +kernel)) ggX3_fillFrom_X3_fits
set_option maxRecDepth 20000 in
theorem ggX3_fillFrom_X3_fillFrom : GoodIn wsX3_fillFrom wsX3_fillFrom := goodIn_r _ [0, 1, 2, 3, 4, 5, 6, 7, 8, 9, 10, 11, 12, 13, 14, 15, 16, 17, 18, 19, 20, 21, 22, 23, 24, 25, 26, 27, 28, 29, 30, 31, 32, 33, 34, 35, 36, 37, 38, 39, 40, 41, 42, 43, 44, 45, 46, 47, 48, 49, 50, 51, 52, 53, 54, 55, 56, 57, 58, 59, 60, 61, 62, 63, 64, 65, 66, 67, 68, 69, 70] (by decide +kernel) (by decide +kernel)
set_option maxRecDepth 20000 in
theorem gX3_fillFrom_X3_fillFrom : GoodIn wsX3_fillFrom (wsV RX3 79 RX3 yX3_fillFrom wsX3_fillFrom) := goodIn_app (goodIn_of _ (by decide +kernel)) ggX3_fillFrom_X3_fillFrom
theorem dX3_fillFrom_0 : decode cX3_fillFrom 0 = .ok (.iload_n 1, 1) := by decide +kernel
theorem dX3_fillFrom_1 : decode cX3_fillFrom 1 = .ok (.aload_n 0, 1) := by decide +kernel
theorem dX3_fillFrom_2 : decode cX3_fillFrom 2 = .ok (.getfield 31, 3) := by decide +kernel
theorem dX3_fillFrom_5 : decode cX3_fillFrom 5 = .ok (.invokevirtual 63, 3) := by decide +kernel
theorem dX3_fillFrom_8 : decode cX3_fillFrom 8 = .ok (.if_icmp .lt 14, 3) := by decide +kernel
theorem dX3_fillFrom_11 : decode cX3_fillFrom 11 = .ok (.aload_n 0, 1) := by decide +kernel
theorem dX3_fillFrom_12 : decode cX3_fillFrom 12 = .ok (.dup, 1) := by decide +kernel
theorem dX3_fillFrom_13 : decode cX3_fillFrom 13 = .ok (.getfield 60, 3) := by decide +kernel
theorem dX3_fillFrom_16 : decode cX3_fillFrom 16 = .ok (.iconst 1, 1) := by decide +kernel
theorem dX3_fillFrom_17 : decode cX3_fillFrom 17 = .ok (.iadd, 1) := by decide +kernel
theorem dX3_fillFrom_18 : decode cX3_fillFrom 18 = .ok (.putfield 60, 3) := by decide +kernel
theorem dX3_fillFrom_21 : decode cX3_fillFrom 21 = .ok (.return_, 1) := by decide +kernel
theorem dX3_fillFrom_22 : decode cX3_fillFrom 22 = .ok (.aload_n 0, 1) := by decide +kernel
theorem dX3_fillFrom_23 : decode cX3_fillFrom 23 = .ok (.iload_n 1, 1) := by decide +kernel
theorem dX3_fillFrom_24 : decode cX3_fillFrom 24 = .ok (.invokevirtual 104, 3) := by decide +kernel
theorem dX3_fillFrom_27 : decode cX3_fillFrom 27 = .ok (.iconst 0, 1) := by decide +kernel
theorem dX3_fillFrom_28 : decode cX3_fillFrom 28 = .ok (.istore_n 2, 1) := by decide +kernel
theorem dX3_fillFrom_29 : decode cX3_fillFrom 29 = .ok (.iload_n 2, 1) := by decide +kernel
theorem dX3_fillFrom_30 : decode cX3_fillFrom 30 = .ok (.aload_n 0, 1) := by decide +kernel
theorem dX3_fillFrom_31 : decode cX3_fillFrom 31 = .ok (.getfield 35, 3) := by decide +kernel
theorem dX3_fillFrom_34 : decode cX3_fillFrom 34 = .ok (.invokevirtual 67, 3) := by decide +kernel
theorem dX3_fillFrom_37 : decode cX3_fillFrom 37 = .ok (.if_icmp .ge 118, 3) := by decide +kernel
theorem dX3_fillFrom_40 : decode cX3_fillFrom 40 = .ok (.iconst 0, 1) := by decide +kernel
theorem dX3_fillFrom_41 : decode cX3_fillFrom 41 = .ok (.istore_n 3, 1) := by decide +kernel
theorem dX3_fillFrom_42 : decode cX3_fillFrom 42 = .ok (.iload_n 3, 1) := by decide +kernel
theorem dX3_fillFrom_43 : decode cX3_fillFrom 43 = .ok (.iconst 4, 1) := by decide +kernel
theorem dX3_fillFrom_44 : decode cX3_fillFrom 44 = .ok (.if_icmp .ge 105, 3) := by decide +kernel
theorem dX3_fillFrom_47 : decode cX3_fillFrom 47 = .ok (.aload_n 0, 1) := by decide +kernel
theorem dX3_fillFrom_48 : decode cX3_fillFrom 48 = .ok (.getfield 21, 3) := by decide +kernel
theorem dX3_fillFrom_51 : decode cX3_fillFrom 51 = .ok (.iload_n 2, 1) := by decide +kernel
theorem dX3_fillFrom_52 : decode cX3_fillFrom 52 = .ok (.baload, 1) := by decide +kernel
theorem dX3_fillFrom_53 : decode cX3_fillFrom 53 = .ok (.ifCond .ne 96, 3) := by decide +kernel
theorem dX3_fillFrom_56 : decode cX3_fillFrom 56 = .ok (.aload_n 0, 1) := by decide +kernel
theorem dX3_fillFrom_57 : decode cX3_fillFrom 57 = .ok (.getfield 39, 3) := by decide +kernel
theorem dX3_fillFrom_60 : decode cX3_fillFrom 60 = .ok (.ldc 107, 2) := by decide +kernel
theorem dX3_fillFrom_62 : decode cX3_fillFrom 62 = .ok (.if_icmp .lt 9, 3) := by decide +kernel
theorem dX3_fillFrom_65 : decode cX3_fillFrom 65 = .ok (.aload_n 0, 1) := by decide +kernel
theorem dX3_fillFrom_66 : decode cX3_fillFrom 66 = .ok (.iconst 1, 1) := by decide +kernel
theorem dX3_fillFrom_67 : decode cX3_fillFrom 67 = .ok (.putfield 57, 3) := by decide +kernel
theorem dX3_fillFrom_70 : decode cX3_fillFrom 70 = .ok (.return_, 1) := by decide +kernel
theorem dX3_fillFrom_71 : decode cX3_fillFrom 71 = .ok (.aload_n 0, 1) := by decide +kernel
theorem dX3_fillFrom_72 : decode cX3_fillFrom 72 = .ok (.dup, 1) := by decide +kernel
theorem dX3_fillFrom_73 : decode cX3_fillFrom 73 = .ok (.getfield 39, 3) := by decide +kernel
theorem dX3_fillFrom_76 : decode cX3_fillFrom 76 = .ok (.iconst 1, 1) := by decide +kernel
theorem dX3_fillFrom_77 : decode cX3_fillFrom 77 = .ok (.iadd, 1) := by decide +kernel
theorem dX3_fillFrom_78 : decode cX3_fillFrom 78 = .ok (.putfield 39, 3) := by decide +kernel
theorem dX3_fillFrom_81 : decode cX3_fillFrom 81 = .ok (.aload_n 0, 1) := by decide +kernel
theorem dX3_fillFrom_82 : decode cX3_fillFrom 82 = .ok (.getfield 25, 3) := by decide +kernel
theorem dX3_fillFrom_85 : decode cX3_fillFrom 85 = .ok (.iload_n 1, 1) := by decide +kernel
theorem dX3_fillFrom_86 : decode cX3_fillFrom 86 = .ok (.iload_n 2, 1) := by decide +kernel
theorem dX3_fillFrom_87 : decode cX3_fillFrom 87 = .ok (.iconst 4, 1) := by decide +kernel
theorem dX3_fillFrom_88 : decode cX3_fillFrom 88 = .ok (.imul, 1) := by decide +kernel
theorem dX3_fillFrom_89 : decode cX3_fillFrom 89 = .ok (.iload_n 3, 1) := by decide +kernel
theorem dX3_fillFrom_90 : decode cX3_fillFrom 90 = .ok (.iadd, 1) := by decide +kernel
theorem dX3_fillFrom_91 : decode cX3_fillFrom 91 = .ok (.iastore, 1) := by decide +kernel
theorem dX3_fillFrom_92 : decode cX3_fillFrom 92 = .ok (.aload_n 0, 1) := by decide +kernel
theorem dX3_fillFrom_93 : decode cX3_fillFrom 93 = .ok (.iload_n 1, 1) := by decide +kernel
theorem dX3_fillFrom_94 : decode cX3_fillFrom 94 = .ok (.invokevirtual 108, 3) := by decide +kernel
theorem dX3_fillFrom_97 : decode cX3_fillFrom 97 = .ok (.ifCond .eq 24, 3) := by decide +kernel
theorem dX3_fillFrom_100 : decode cX3_fillFrom 100 = .ok (.aload_n 0, 1) := by decide +kernel
theorem dX3_fillFrom_101 : decode cX3_fillFrom 101 = .ok (.getfield 21, 3) := by decide +kernel
theorem dX3_fillFrom_104 : decode cX3_fillFrom 104 = .ok (.iload_n 2, 1) := by decide +kernel
theorem dX3_fillFrom_105 : decode cX3_fillFrom 105 = .ok (.iconst 1, 1) := by decide +kernel
theorem dX3_fillFrom_106 : decode cX3_fillFrom 106 = .ok (.bastore, 1) := by decide +kernel
theorem dX3_fillFrom_107 : decode cX3_fillFrom 107 = .ok (.aload_n 0, 1) := by decide +kernel
theorem dX3_fillFrom_108 : decode cX3_fillFrom 108 = .ok (.iload_n 1, 1) := by decide +kernel
theorem dX3_fillFrom_109 : decode cX3_fillFrom 109 = .ok (.iconst 1, 1) := by decide +kernel
theorem dX3_fillFrom_110 : decode cX3_fillFrom 110 = .ok (.iadd, 1) := by decide +kernel
theorem dX3_fillFrom_111 : decode cX3_fillFrom 111 = .ok (.invokevirtual 79, 3) := by decide +kernel
theorem dX3_fillFrom_114 : decode cX3_fillFrom 114 = .ok (.aload_n 0, 1) := by decide +kernel
theorem dX3_fillFrom_115 : decode cX3_fillFrom 115 = .ok (.getfield 21, 3) := by decide +kernel
theorem dX3_fillFrom_118 : decode cX3_fillFrom 118 = .ok (.iload_n 2, 1) := by decide +kernel
theorem dX3_fillFrom_119 : decode cX3_fillFrom 119 = .ok (.iconst 0, 1) := by decide +kernel
theorem dX3_fillFrom_120 : decode cX3_fillFrom 120 = .ok (.bastore, 1) := by decide +kernel
theorem dX3_fillFrom_121 : decode cX3_fillFrom 121 = .ok (.aload_n 0, 1) := by decide +kernel
theorem dX3_fillFrom_122 : decode cX3_fillFrom 122 = .ok (.getfield 57, 3) := by decide +kernel
theorem dX3_fillFrom_125 : decode cX3_fillFrom 125 = .ok (.ifCond .ne 17, 3) := by decide +kernel
theorem dX3_fillFrom_128 : decode cX3_fillFrom 128 = .ok (.aload_n 0, 1) := by decide +kernel
theorem dX3_fillFrom_129 : decode cX3_fillFrom 129 = .ok (.getfield 76, 3) := by decide +kernel
theorem dX3_fillFrom_132 : decode cX3_fillFrom 132 = .ok (.ifCond .eq 11, 3) := by decide +kernel
theorem dX3_fillFrom_135 : decode cX3_fillFrom 135 = .ok (.aload_n 0, 1) := by decide +kernel
theorem dX3_fillFrom_136 : decode cX3_fillFrom 136 = .ok (.getfield 60, 3) := by decide +kernel
theorem dX3_fillFrom_139 : decode cX3_fillFrom 139 = .ok (.ifCond .le 4, 3) := by decide +kernel
theorem dX3_fillFrom_142 : decode cX3_fillFrom 142 = .ok (.return_, 1) := by decide +kernel
theorem dX3_fillFrom_143 : decode cX3_fillFrom 143 = .ok (.iinc 3 1, 3) := by decide +kernel
theorem dX3_fillFrom_146 : decode cX3_fillFrom 146 = .ok (.goto (-104), 3) := by decide +kernel
theorem dX3_fillFrom_149 : decode cX3_fillFrom 149 = .ok (.iinc 2 1, 3) := by decide +kernel
theorem dX3_fillFrom_152 : decode cX3_fillFrom 152 = .ok (.goto (-123), 3) := by decide +kernel
theorem dX3_fillFrom_155 : decode cX3_fillFrom 155 = .ok (.return_, 1) := by decide +kernel
set_option maxRecDepth 20000 in
theorem ggX3_lookAround_X1_nextTo : GoodIn wsX3_lookAround wsX1_nextTo := goodIn_r _ [9, 10, 33, 34, 35, 36] (by decide +kernel) (by decide +kernel)
set_option maxRecDepth 20000 in
theorem gX3_lookAround_X1_nextTo : GoodIn wsX3_lookAround (wsV RX3 111 RX1 yX1_nextTo wsX1_nextTo) := goodIn_app (goodIn_of _ (by decide +kernel)) ggX3_lookAround_X1_nextTo
set_option maxRecDepth 20000 in
theorem ggX3_lookAround_X1_isFlat : GoodIn wsX3_lookAround wsX1_isFlat := goodIn_r _ [14, 15, 16, 17, 8, 18, 19, 33, 34, 35, 36] (by decide +kernel) (by decide +kernel)
set_option maxRecDepth 20000 in
theorem gX3_lookAround_X1_isFlat : GoodIn wsX3_lookAround (wsV RX3 86 RX1 yX1_isFlat wsX1_isFlat) := goodIn_app (goodIn_of _ (by decide +kernel)) ggX3_lookAround_X1_isFlat
theorem dX3_lookAround_0 : decode cX3_lookAround 0 = .ok (.iconst 0, 1) := by decide +kernel
theorem dX3_lookAround_1 : decode cX3_lookAround 1 = .ok (.istore_n 2, 1) := by decide +kernel
theorem dX3_lookAround_2 : decode cX3_lookAround 2 = .ok (.iload_n 2, 1) := by decide +kernel
theorem dX3_lookAround_3 : decode cX3_lookAround 3 = .ok (.iconst 4, 1) := by decide +kernel
theorem dX3_lookAround_4 : decode cX3_lookAround 4 = .ok (.if_icmp .ge 83, 3) := by decide +kernel
theorem dX3_lookAround_7 : decode cX3_lookAround 7 = .ok (.aload_n 0, 1) := by decide +kernel
theorem dX3_lookAround_8 : decode cX3_lookAround 8 = .ok (.getfield 31, 3) := by decide +kernel
theorem dX3_lookAround_11 : decode cX3_lookAround 11 = .ok (.iload_n 1, 1) := by decide +kernel
theorem dX3_lookAround_12 : decode cX3_lookAround 12 = .ok (.iload_n 2, 1) := by decide +kernel
theorem dX3_lookAround_13 : decode cX3_lookAround 13 = .ok (.invokevirtual 111, 3) := by decide +kernel
theorem dX3_lookAround_16 : decode cX3_lookAround 16 = .ok (.istore_n 3, 1) := by decide +kernel
theorem dX3_lookAround_17 : decode cX3_lookAround 17 = .ok (.bipush (-2), 2) := by decide +kernel
theorem dX3_lookAround_19 : decode cX3_lookAround 19 = .ok (.istore 4, 2) := by decide +kernel
theorem dX3_lookAround_21 : decode cX3_lookAround 21 = .ok (.aload_n 0, 1) := by decide +kernel
theorem dX3_lookAround_22 : decode cX3_lookAround 22 = .ok (.getfield 31, 3) := by decide +kernel
theorem dX3_lookAround_25 : decode cX3_lookAround 25 = .ok (.iload_n 1, 1) := by decide +kernel
theorem dX3_lookAround_26 : decode cX3_lookAround 26 = .ok (.iload_n 2, 1) := by decide +kernel
theorem dX3_lookAround_27 : decode cX3_lookAround 27 = .ok (.invokevirtual 86, 3) := by decide +kernel
theorem dX3_lookAround_30 : decode cX3_lookAround 30 = .ok (.ifCond .eq 9, 3) := by decide +kernel
theorem dX3_lookAround_33 : decode cX3_lookAround 33 = .ok (.iconst (-1), 1) := by decide +kernel
theorem dX3_lookAround_34 : decode cX3_lookAround 34 = .ok (.istore 4, 2) := by decide +kernel
theorem dX3_lookAround_36 : decode cX3_lookAround 36 = .ok (.goto 33, 3) := by decide +kernel
theorem dX3_lookAround_39 : decode cX3_lookAround 39 = .ok (.iload_n 3, 1) := by decide +kernel
theorem dX3_lookAround_40 : decode cX3_lookAround 40 = .ok (.ifCond .lt 29, 3) := by decide +kernel
theorem dX3_lookAround_43 : decode cX3_lookAround 43 = .ok (.iload_n 3, 1) := by decide +kernel
theorem dX3_lookAround_44 : decode cX3_lookAround 44 = .ok (.iload_n 1, 1) := by decide +kernel
theorem dX3_lookAround_45 : decode cX3_lookAround 45 = .ok (.if_icmp .ge 24, 3) := by decide +kernel
theorem dX3_lookAround_48 : decode cX3_lookAround 48 = .ok (.aload_n 0, 1) := by decide +kernel
theorem dX3_lookAround_49 : decode cX3_lookAround 49 = .ok (.getfield 15, 3) := by decide +kernel
theorem dX3_lookAround_52 : decode cX3_lookAround 52 = .ok (.aload_n 0, 1) := by decide +kernel
theorem dX3_lookAround_53 : decode cX3_lookAround 53 = .ok (.getfield 25, 3) := by decide +kernel
theorem dX3_lookAround_56 : decode cX3_lookAround 56 = .ok (.iload_n 3, 1) := by decide +kernel
theorem dX3_lookAround_57 : decode cX3_lookAround 57 = .ok (.iaload, 1) := by decide +kernel
theorem dX3_lookAround_58 : decode cX3_lookAround 58 = .ok (.iconst 4, 1) := by decide +kernel
theorem dX3_lookAround_59 : decode cX3_lookAround 59 = .ok (.imul, 1) := by decide +kernel
theorem dX3_lookAround_60 : decode cX3_lookAround 60 = .ok (.iload_n 2, 1) := by decide +kernel
theorem dX3_lookAround_61 : decode cX3_lookAround 61 = .ok (.iconst 2, 1) := by decide +kernel
theorem dX3_lookAround_62 : decode cX3_lookAround 62 = .ok (.iadd, 1) := by decide +kernel
theorem dX3_lookAround_63 : decode cX3_lookAround 63 = .ok (.iconst 4, 1) := by decide +kernel
theorem dX3_lookAround_64 : decode cX3_lookAround 64 = .ok (.irem, 1) := by decide +kernel
theorem dX3_lookAround_65 : decode cX3_lookAround 65 = .ok (.iadd, 1) := by decide +kernel
theorem dX3_lookAround_66 : decode cX3_lookAround 66 = .ok (.iaload, 1) := by decide +kernel
theorem dX3_lookAround_67 : decode cX3_lookAround 67 = .ok (.istore 4, 2) := by decide +kernel
theorem dX3_lookAround_69 : decode cX3_lookAround 69 = .ok (.aload_n 0, 1) := by decide +kernel
theorem dX3_lookAround_70 : decode cX3_lookAround 70 = .ok (.getfield 18, 3) := by decide +kernel
theorem dX3_lookAround_73 : decode cX3_lookAround 73 = .ok (.iload_n 1, 1) := by decide +kernel
theorem dX3_lookAround_74 : decode cX3_lookAround 74 = .ok (.iconst 4, 1) := by decide +kernel
theorem dX3_lookAround_75 : decode cX3_lookAround 75 = .ok (.imul, 1) := by decide +kernel
theorem dX3_lookAround_76 : decode cX3_lookAround 76 = .ok (.iload_n 2, 1) := by decide +kernel
theorem dX3_lookAround_77 : decode cX3_lookAround 77 = .ok (.iadd, 1) := by decide +kernel
theorem dX3_lookAround_78 : decode cX3_lookAround 78 = .ok (.iload 4, 2) := by decide +kernel
theorem dX3_lookAround_80 : decode cX3_lookAround 80 = .ok (.iastore, 1) := by decide +kernel
theorem dX3_lookAround_81 : decode cX3_lookAround 81 = .ok (.iinc 2 1, 3) := by decide +kernel
theorem dX3_lookAround_84 : decode cX3_lookAround 84 = .ok (.goto (-82), 3) := by decide +kernel
theorem dX3_lookAround_87 : decode cX3_lookAround 87 = .ok (.return_, 1) := by decide +kernel
theorem dX3_fits_0 : decode cX3_fits 0 = .ok (.iconst 0, 1) := by decide +kernel
theorem dX3_fits_1 : decode cX3_fits 1 = .ok (.istore_n 2, 1) := by decide +kernel
theorem dX3_fits_2 : decode cX3_fits 2 = .ok (.iload_n 2, 1) := by decide +kernel
theorem dX3_fits_3 : decode cX3_fits 3 = .ok (.iconst 4, 1) := by decide +kernel
theorem dX3_fits_4 : decode cX3_fits 4 = .ok (.if_icmp .ge 60, 3) := by decide +kernel
theorem dX3_fits_7 : decode cX3_fits 7 = .ok (.aload_n 0, 1) := by decide +kernel
theorem dX3_fits_8 : decode cX3_fits 8 = .ok (.getfield 18, 3) := by decide +kernel
theorem dX3_fits_11 : decode cX3_fits 11 = .ok (.iload_n 1, 1) := by decide +kernel
theorem dX3_fits_12 : decode cX3_fits 12 = .ok (.iconst 4, 1) := by decide +kernel
theorem dX3_fits_13 : decode cX3_fits 13 = .ok (.imul, 1) := by decide +kernel
theorem dX3_fits_14 : decode cX3_fits 14 = .ok (.iload_n 2, 1) := by decide +kernel
theorem dX3_fits_15 : decode cX3_fits 15 = .ok (.iadd, 1) := by decide +kernel
theorem dX3_fits_16 : decode cX3_fits 16 = .ok (.iaload, 1) := by decide +kernel
theorem dX3_fits_17 : decode cX3_fits 17 = .ok (.istore_n 3, 1) := by decide +kernel
theorem dX3_fits_18 : decode cX3_fits 18 = .ok (.aload_n 0, 1) := by decide +kernel
theorem dX3_fits_19 : decode cX3_fits 19 = .ok (.getfield 9, 3) := by decide +kernel
theorem dX3_fits_22 : decode cX3_fits 22 = .ok (.aload_n 0, 1) := by decide +kernel
theorem dX3_fits_23 : decode cX3_fits 23 = .ok (.getfield 25, 3) := by decide +kernel
theorem dX3_fits_26 : decode cX3_fits 26 = .ok (.iload_n 1, 1) := by decide +kernel
theorem dX3_fits_27 : decode cX3_fits 27 = .ok (.iaload, 1) := by decide +kernel
theorem dX3_fits_28 : decode cX3_fits 28 = .ok (.iconst 4, 1) := by decide +kernel
theorem dX3_fits_29 : decode cX3_fits 29 = .ok (.imul, 1) := by decide +kernel
theorem dX3_fits_30 : decode cX3_fits 30 = .ok (.iload_n 2, 1) := by decide +kernel
theorem dX3_fits_31 : decode cX3_fits 31 = .ok (.iadd, 1) := by decide +kernel
theorem dX3_fits_32 : decode cX3_fits 32 = .ok (.iaload, 1) := by decide +kernel
theorem dX3_fits_33 : decode cX3_fits 33 = .ok (.istore 4, 2) := by decide +kernel
theorem dX3_fits_35 : decode cX3_fits 35 = .ok (.iload_n 3, 1) := by decide +kernel
theorem dX3_fits_36 : decode cX3_fits 36 = .ok (.bipush (-2), 2) := by decide +kernel
theorem dX3_fits_38 : decode cX3_fits 38 = .ok (.if_icmp .ne 12, 3) := by decide +kernel
theorem dX3_fits_41 : decode cX3_fits 41 = .ok (.iload 4, 2) := by decide +kernel
theorem dX3_fits_43 : decode cX3_fits 43 = .ok (.iconst (-1), 1) := by decide +kernel
theorem dX3_fits_44 : decode cX3_fits 44 = .ok (.if_icmp .ne 14, 3) := by decide +kernel
theorem dX3_fits_47 : decode cX3_fits 47 = .ok (.goto 9, 3) := by decide +kernel
theorem dX3_fits_50 : decode cX3_fits 50 = .ok (.iload 4, 2) := by decide +kernel
theorem dX3_fits_52 : decode cX3_fits 52 = .ok (.iload_n 3, 1) := by decide +kernel
theorem dX3_fits_53 : decode cX3_fits 53 = .ok (.if_icmp .eq 5, 3) := by decide +kernel
theorem dX3_fits_56 : decode cX3_fits 56 = .ok (.iconst 0, 1) := by decide +kernel
theorem dX3_fits_57 : decode cX3_fits 57 = .ok (.ireturn, 1) := by decide +kernel
theorem dX3_fits_58 : decode cX3_fits 58 = .ok (.iinc 2 1, 3) := by decide +kernel
theorem dX3_fits_61 : decode cX3_fits 61 = .ok (.goto (-59), 3) := by decide +kernel
theorem dX3_fits_64 : decode cX3_fits 64 = .ok (.iconst 1, 1) := by decide +kernel
theorem dX3_fits_65 : decode cX3_fits 65 = .ok (.ireturn, 1) := by decide +kernel
theorem dX4_init_0 : decode cX4_init 0 = .ok (.aload_n 0, 1) := by decide +kernel
theorem dX4_init_1 : decode cX4_init 1 = .ok (.invokespecial 3, 3) := by decide +kernel
theorem dX4_init_4 : decode cX4_init 4 = .ok (.aload_n 0, 1) := by decide +kernel
theorem dX4_init_5 : decode cX4_init 5 = .ok (.bipush 50, 2) := by decide +kernel
theorem dX4_init_7 : decode cX4_init 7 = .ok (.newarray .int, 2) := by decide +kernel
theorem dX4_init_9 : decode cX4_init 9 = .ok (.putfield 9, 3) := by decide +kernel
theorem dX4_init_12 : decode cX4_init 12 = .ok (.return_, 1) := by decide +kernel
theorem dX4_isThere_0 : decode cX4_isThere 0 = .ok (.aload_n 0, 1) := by decide +kernel
theorem dX4_isThere_1 : decode cX4_isThere 1 = .ok (.getfield 15, 3) := by decide +kernel
theorem dX4_isThere_4 : decode cX4_isThere 4 = .ok (.ireturn, 1) := by decide +kernel
theorem dX4_laneHeld_0 : decode cX4_laneHeld 0 = .ok (.aload_n 0, 1) := by decide +kernel
theorem dX4_laneHeld_1 : decode cX4_laneHeld 1 = .ok (.getfield 19, 3) := by decide +kernel
theorem dX4_laneHeld_4 : decode cX4_laneHeld 4 = .ok (.ireturn, 1) := by decide +kernel
theorem dX4_isOfOther_0 : decode cX4_isOfOther 0 = .ok (.aload_n 0, 1) := by decide +kernel
theorem dX4_isOfOther_1 : decode cX4_isOfOther 1 = .ok (.getfield 15, 3) := by decide +kernel
theorem dX4_isOfOther_4 : decode cX4_isOfOther 4 = .ok (.ifCond .eq 15, 3) := by decide +kernel
theorem dX4_isOfOther_7 : decode cX4_isOfOther 7 = .ok (.aload_n 0, 1) := by decide +kernel
theorem dX4_isOfOther_8 : decode cX4_isOfOther 8 = .ok (.getfield 19, 3) := by decide +kernel
theorem dX4_isOfOther_11 : decode cX4_isOfOther 11 = .ok (.iload_n 1, 1) := by decide +kernel
theorem dX4_isOfOther_12 : decode cX4_isOfOther 12 = .ok (.if_icmp .eq 7, 3) := by decide +kernel
theorem dX4_isOfOther_15 : decode cX4_isOfOther 15 = .ok (.iconst 1, 1) := by decide +kernel
theorem dX4_isOfOther_16 : decode cX4_isOfOther 16 = .ok (.goto 4, 3) := by decide +kernel
theorem dX4_isOfOther_19 : decode cX4_isOfOther 19 = .ok (.iconst 0, 1) := by decide +kernel
theorem dX4_isOfOther_20 : decode cX4_isOfOther 20 = .ok (.ireturn, 1) := by decide +kernel
theorem dX4_renew_0 : decode cX4_renew 0 = .ok (.aload_n 0, 1) := by decide +kernel
theorem dX4_renew_1 : decode cX4_renew 1 = .ok (.iconst 1, 1) := by decide +kernel
theorem dX4_renew_2 : decode cX4_renew 2 = .ok (.putfield 15, 3) := by decide +kernel
theorem dX4_renew_5 : decode cX4_renew 5 = .ok (.aload_n 0, 1) := by decide +kernel
theorem dX4_renew_6 : decode cX4_renew 6 = .ok (.iload_n 1, 1) := by decide +kernel
theorem dX4_renew_7 : decode cX4_renew 7 = .ok (.putfield 19, 3) := by decide +kernel
theorem dX4_renew_10 : decode cX4_renew 10 = .ok (.aload_n 0, 1) := by decide +kernel
theorem dX4_renew_11 : decode cX4_renew 11 = .ok (.iconst 0, 1) := by decide +kernel
theorem dX4_renew_12 : decode cX4_renew 12 = .ok (.iload_n 2, 1) := by decide +kernel
theorem dX4_renew_13 : decode cX4_renew 13 = .ok (.invokestatic 23, 3) := by decide +kernel
theorem dX4_renew_16 : decode cX4_renew 16 = .ok (.bipush 50, 2) := by decide +kernel
theorem dX4_renew_18 : decode cX4_renew 18 = .ok (.invokestatic 29, 3) := by decide +kernel
theorem dX4_renew_21 : decode cX4_renew 21 = .ok (.putfield 32, 3) := by decide +kernel
theorem dX4_renew_24 : decode cX4_renew 24 = .ok (.iconst 0, 1) := by decide +kernel
theorem dX4_renew_25 : decode cX4_renew 25 = .ok (.istore_n 3, 1) := by decide +kernel
theorem dX4_renew_26 : decode cX4_renew 26 = .ok (.iload_n 3, 1) := by decide +kernel
theorem dX4_renew_27 : decode cX4_renew 27 = .ok (.bipush 50, 2) := by decide +kernel
theorem dX4_renew_29 : decode cX4_renew 29 = .ok (.if_icmp .ge 16, 3) := by decide +kernel
theorem dX4_renew_32 : decode cX4_renew 32 = .ok (.aload_n 0, 1) := by decide +kernel
theorem dX4_renew_33 : decode cX4_renew 33 = .ok (.getfield 9, 3) := by decide +kernel
theorem dX4_renew_36 : decode cX4_renew 36 = .ok (.iload_n 3, 1) := by decide +kernel
theorem dX4_renew_37 : decode cX4_renew 37 = .ok (.iconst 0, 1) := by decide +kernel
theorem dX4_renew_38 : decode cX4_renew 38 = .ok (.iastore, 1) := by decide +kernel
theorem dX4_renew_39 : decode cX4_renew 39 = .ok (.iinc 3 1, 3) := by decide +kernel
theorem dX4_renew_42 : decode cX4_renew 42 = .ok (.goto (-16), 3) := by decide +kernel
theorem dX4_renew_45 : decode cX4_renew 45 = .ok (.return_, 1) := by decide +kernel
theorem dX4_drop_0 : decode cX4_drop 0 = .ok (.aload_n 0, 1) := by decide +kernel
theorem dX4_drop_1 : decode cX4_drop 1 = .ok (.iconst 0, 1) := by decide +kernel
theorem dX4_drop_2 : decode cX4_drop 2 = .ok (.putfield 15, 3) := by decide +kernel
theorem dX4_drop_5 : decode cX4_drop 5 = .ok (.aload_n 0, 1) := by decide +kernel
theorem dX4_drop_6 : decode cX4_drop 6 = .ok (.iconst 0, 1) := by decide +kernel
theorem dX4_drop_7 : decode cX4_drop 7 = .ok (.putfield 32, 3) := by decide +kernel
theorem dX4_drop_10 : decode cX4_drop 10 = .ok (.return_, 1) := by decide +kernel
theorem dX4_holds_0 : decode cX4_holds 0 = .ok (.iload_n 1, 1) := by decide +kernel
theorem dX4_holds_1 : decode cX4_holds 1 = .ok (.ifCond .lt 26, 3) := by decide +kernel
theorem dX4_holds_4 : decode cX4_holds 4 = .ok (.lload_n 2, 1) := by decide +kernel
theorem dX4_holds_5 : decode cX4_holds 5 = .ok (.lconst 0, 1) := by decide +kernel
theorem dX4_holds_6 : decode cX4_holds 6 = .ok (.lcmp, 1) := by decide +kernel
theorem dX4_holds_7 : decode cX4_holds 7 = .ok (.ifCond .lt 20, 3) := by decide +kernel
theorem dX4_holds_10 : decode cX4_holds 10 = .ok (.iload_n 1, 1) := by decide +kernel
theorem dX4_holds_11 : decode cX4_holds 11 = .ok (.i2l, 1) := by decide +kernel
theorem dX4_holds_12 : decode cX4_holds 12 = .ok (.lload_n 2, 1) := by decide +kernel
theorem dX4_holds_13 : decode cX4_holds 13 = .ok (.ladd, 1) := by decide +kernel
theorem dX4_holds_14 : decode cX4_holds 14 = .ok (.aload_n 0, 1) := by decide +kernel
theorem dX4_holds_15 : decode cX4_holds 15 = .ok (.getfield 32, 3) := by decide +kernel
theorem dX4_holds_18 : decode cX4_holds 18 = .ok (.i2l, 1) := by decide +kernel
theorem dX4_holds_19 : decode cX4_holds 19 = .ok (.lcmp, 1) := by decide +kernel
theorem dX4_holds_20 : decode cX4_holds 20 = .ok (.ifCond .gt 7, 3) := by decide +kernel
theorem dX4_holds_23 : decode cX4_holds 23 = .ok (.iconst 1, 1) := by decide +kernel
theorem dX4_holds_24 : decode cX4_holds 24 = .ok (.goto 4, 3) := by decide +kernel
theorem dX4_holds_27 : decode cX4_holds 27 = .ok (.iconst 0, 1) := by decide +kernel
theorem dX4_holds_28 : decode cX4_holds 28 = .ok (.ireturn, 1) := by decide +kernel
set_option maxRecDepth 20000 in
theorem ggX4_read_X4_holds : GoodIn wsX4_read wsX4_holds := goodIn_r _ [6, 7, 8, 9, 10, 11] (by decide +kernel) (by decide +kernel)
set_option maxRecDepth 20000 in
theorem gX4_read_X4_holds : GoodIn wsX4_read (wsV RX4 35 RX4 yX4_holds wsX4_holds) := goodIn_app (goodIn_of _ (by decide +kernel)) ggX4_read_X4_holds
theorem dX4_read_0 : decode cX4_read 0 = .ok (.aload_n 0, 1) := by decide +kernel
theorem dX4_read_1 : decode cX4_read 1 = .ok (.iload_n 1, 1) := by decide +kernel
theorem dX4_read_2 : decode cX4_read 2 = .ok (.lconst 1, 1) := by decide +kernel
theorem dX4_read_3 : decode cX4_read 3 = .ok (.invokevirtual 35, 3) := by decide +kernel
theorem dX4_read_6 : decode cX4_read 6 = .ok (.ifCond .eq 12, 3) := by decide +kernel
theorem dX4_read_9 : decode cX4_read 9 = .ok (.aload_n 0, 1) := by decide +kernel
theorem dX4_read_10 : decode cX4_read 10 = .ok (.getfield 9, 3) := by decide +kernel
theorem dX4_read_13 : decode cX4_read 13 = .ok (.iload_n 1, 1) := by decide +kernel
theorem dX4_read_14 : decode cX4_read 14 = .ok (.iaload, 1) := by decide +kernel
theorem dX4_read_15 : decode cX4_read 15 = .ok (.goto 4, 3) := by decide +kernel
theorem dX4_read_18 : decode cX4_read 18 = .ok (.iconst 0, 1) := by decide +kernel
theorem dX4_read_19 : decode cX4_read 19 = .ok (.ireturn, 1) := by decide +kernel
set_option maxRecDepth 20000 in
theorem ggX4_write_X4_holds : GoodIn wsX4_write wsX4_holds := goodIn_r _ [6, 7, 13, 14, 15, 16] (by decide +kernel) (by decide +kernel)
set_option maxRecDepth 20000 in
theorem gX4_write_X4_holds : GoodIn wsX4_write (wsV RX4 35 RX4 yX4_holds wsX4_holds) := goodIn_app (goodIn_of _ (by decide +kernel)) ggX4_write_X4_holds
set_option maxRecDepth 20000 in
theorem ggX4_write_X4_cutToLane : GoodIn wsX4_write wsX4_cutToLane := goodIn_r _ [11, 12, 13, 14, 15, 16] (by decide +kernel) (by decide +kernel)
set_option maxRecDepth 20000 in
theorem gX4_write_X4_cutToLane : GoodIn wsX4_write (wsV RX4 39 RX4 yX4_cutToLane wsX4_cutToLane) := goodIn_app (goodIn_of _ (by decide +kernel)) ggX4_write_X4_cutToLane
theorem dX4_write_0 : decode cX4_write 0 = .ok (.aload_n 0, 1) := by decide +kernel
theorem dX4_write_1 : decode cX4_write 1 = .ok (.iload_n 1, 1) := by decide +kernel
theorem dX4_write_2 : decode cX4_write 2 = .ok (.lconst 1, 1) := by decide +kernel
theorem dX4_write_3 : decode cX4_write 3 = .ok (.invokevirtual 35, 3) := by decide +kernel
theorem dX4_write_6 : decode cX4_write 6 = .ok (.ifCond .eq 14, 3) := by decide +kernel
theorem dX4_write_9 : decode cX4_write 9 = .ok (.aload_n 0, 1) := by decide +kernel
theorem dX4_write_10 : decode cX4_write 10 = .ok (.getfield 9, 3) := by decide +kernel
theorem dX4_write_13 : decode cX4_write 13 = .ok (.iload_n 1, 1) := by decide +kernel
theorem dX4_write_14 : decode cX4_write 14 = .ok (.aload_n 0, 1) := by decide +kernel
theorem dX4_write_15 : decode cX4_write 15 = .ok (.iload_n 2, 1) := by decide +kernel
theorem dX4_write_16 : decode cX4_write 16 = .ok (.invokevirtual 39, 3) := by decide +kernel
theorem dX4_write_19 : decode cX4_write 19 = .ok (.iastore, 1) := by decide +kernel
theorem dX4_write_20 : decode cX4_write 20 = .ok (.return_, 1) := by decide +kernel
theorem dX4_cutToLane_0 : decode cX4_cutToLane 0 = .ok (.aload_n 0, 1) := by decide +kernel
theorem dX4_cutToLane_1 : decode cX4_cutToLane 1 = .ok (.getfield 19, 3) := by decide +kernel
theorem dX4_cutToLane_4 : decode cX4_cutToLane 4 = .ok (.lookupswitch 34 #[(0, 28), (1, 31)], 28) := by decide +kernel
theorem dX4_cutToLane_32 : decode cX4_cutToLane 32 = .ok (.iload_n 1, 1) := by decide +kernel
theorem dX4_cutToLane_33 : decode cX4_cutToLane 33 = .ok (.i2b, 1) := by decide +kernel
theorem dX4_cutToLane_34 : decode cX4_cutToLane 34 = .ok (.ireturn, 1) := by decide +kernel
theorem dX4_cutToLane_35 : decode cX4_cutToLane 35 = .ok (.iload_n 1, 1) := by decide +kernel
theorem dX4_cutToLane_36 : decode cX4_cutToLane 36 = .ok (.i2s, 1) := by decide +kernel
theorem dX4_cutToLane_37 : decode cX4_cutToLane 37 = .ok (.ireturn, 1) := by decide +kernel
theorem dX4_cutToLane_38 : decode cX4_cutToLane 38 = .ok (.iload_n 1, 1) := by decide +kernel
theorem dX4_cutToLane_39 : decode cX4_cutToLane 39 = .ok (.ireturn, 1) := by decide +kernel
set_option maxRecDepth 20000 in
theorem ggX4_writeFrom_X4_holds : GoodIn wsX4_writeFrom wsX4_holds := goodIn_r _ [10, 11, 12, 13, 14, 15] (by decide +kernel) (by decide +kernel)
set_option maxRecDepth 20000 in
theorem gX4_writeFrom_X4_holds : GoodIn wsX4_writeFrom (wsV RX4 35 RX4 yX4_holds wsX4_holds) := goodIn_app (goodIn_of _ (by decide +kernel)) ggX4_writeFrom_X4_holds
theorem dX4_writeFrom_0 : decode cX4_writeFrom 0 = .ok (.aload_n 1, 1) := by decide +kernel
theorem dX4_writeFrom_1 : decode cX4_writeFrom 1 = .ok (.iload_n 2, 1) := by decide +kernel
theorem dX4_writeFrom_2 : decode cX4_writeFrom 2 = .ok (.iload 4, 2) := by decide +kernel
theorem dX4_writeFrom_4 : decode cX4_writeFrom 4 = .ok (.i2l, 1) := by decide +kernel
theorem dX4_writeFrom_5 : decode cX4_writeFrom 5 = .ok (.invokevirtual 35, 3) := by decide +kernel
theorem dX4_writeFrom_8 : decode cX4_writeFrom 8 = .ok (.ifCond .eq 29, 3) := by decide +kernel
theorem dX4_writeFrom_11 : decode cX4_writeFrom 11 = .ok (.aload_n 0, 1) := by decide +kernel
theorem dX4_writeFrom_12 : decode cX4_writeFrom 12 = .ok (.iload_n 3, 1) := by decide +kernel
theorem dX4_writeFrom_13 : decode cX4_writeFrom 13 = .ok (.iload 4, 2) := by decide +kernel
theorem dX4_writeFrom_15 : decode cX4_writeFrom 15 = .ok (.i2l, 1) := by decide +kernel
theorem dX4_writeFrom_16 : decode cX4_writeFrom 16 = .ok (.invokevirtual 35, 3) := by decide +kernel
theorem dX4_writeFrom_19 : decode cX4_writeFrom 19 = .ok (.ifCond .eq 18, 3) := by decide +kernel
theorem dX4_writeFrom_22 : decode cX4_writeFrom 22 = .ok (.aload_n 1, 1) := by decide +kernel
theorem dX4_writeFrom_23 : decode cX4_writeFrom 23 = .ok (.getfield 9, 3) := by decide +kernel
theorem dX4_writeFrom_26 : decode cX4_writeFrom 26 = .ok (.iload_n 2, 1) := by decide +kernel
theorem dX4_writeFrom_27 : decode cX4_writeFrom 27 = .ok (.aload_n 0, 1) := by decide +kernel
theorem dX4_writeFrom_28 : decode cX4_writeFrom 28 = .ok (.getfield 9, 3) := by decide +kernel
theorem dX4_writeFrom_31 : decode cX4_writeFrom 31 = .ok (.iload_n 3, 1) := by decide +kernel
theorem dX4_writeFrom_32 : decode cX4_writeFrom 32 = .ok (.iload 4, 2) := by decide +kernel
theorem dX4_writeFrom_34 : decode cX4_writeFrom 34 = .ok (.invokestatic 43, 3) := by decide +kernel
theorem dX4_writeFrom_37 : decode cX4_writeFrom 37 = .ok (.return_, 1) := by decide +kernel
set_option maxRecDepth 20000 in
theorem ggX5_init_X1_init : GoodIn wsX5_init wsX1_init := goodIn_r _ [26, 27, 2, 3, 28, 29, 30, 31, 32, 33, 6, 34, 35, 36, 37, 38, 39, 40, 66, 67, 68, 69] (by decide +kernel) (by decide +kernel)
set_option maxRecDepth 20000 in
theorem gX5_init_X1_init : GoodIn wsX5_init (wsX1_init) := ggX5_init_X1_init
set_option maxRecDepth 20000 in
theorem ggX5_init_X2_init : GoodIn wsX5_init wsX2_init := goodIn_r _ [42, 43, 2, 3, 28, 44, 45, 77, 78, 79] (by decide +kernel) (by decide +kernel)
set_option maxRecDepth 20000 in
theorem gX5_init_X2_init_n20 : GoodIn wsX5_init (wsX2_init) := ggX5_init_X2_init
set_option maxRecDepth 20000 in
theorem ggX5_init_X3_init : GoodIn wsX5_init wsX3_init := goodIn_r _ [48, 49, 2, 3, 28, 50, 51, 52, 53, 54, 55, 56, 57, 58, 80, 81, 82, 83, 84, 85, 86, 87, 88, 89, 90, 91, 92] (by decide +kernel) (by decide +kernel)
set_option maxRecDepth 20000 in
theorem gX5_init_X3_init : GoodIn wsX5_init (wsX3_init) := ggX5_init_X3_init
set_option maxRecDepth 20000 in
theorem ggX5_init_X0_init : GoodIn wsX5_init wsX0_init := goodIn_r _ [60, 61, 2, 3] (by decide +kernel) (by decide +kernel)
set_option maxRecDepth 20000 in
theorem gX5_init_X0_init_n36 : GoodIn wsX5_init (wsX0_init) := ggX5_init_X0_init
set_option maxRecDepth 20000 in
theorem ggX5_init_X4_init : GoodIn wsX5_init wsX4_init := goodIn_r _ [63, 64, 2, 3, 28, 65, 94, 95, 96, 97] (by decide +kernel) (by decide +kernel)
set_option maxRecDepth 20000 in
theorem gX5_init_X4_init_n47 : GoodIn wsX5_init (wsX4_init) := ggX5_init_X4_init
theorem dX5_init_0 : decode cX5_init 0 = .ok (.aload_n 0, 1) := by decide +kernel
theorem dX5_init_1 : decode cX5_init 1 = .ok (.invokespecial 3, 3) := by decide +kernel
theorem dX5_init_4 : decode cX5_init 4 = .ok (.aload_n 0, 1) := by decide +kernel
theorem dX5_init_5 : decode cX5_init 5 = .ok (.new 9, 3) := by decide +kernel
theorem dX5_init_8 : decode cX5_init 8 = .ok (.dup, 1) := by decide +kernel
theorem dX5_init_9 : decode cX5_init 9 = .ok (.invokespecial 11, 3) := by decide +kernel
theorem dX5_init_12 : decode cX5_init 12 = .ok (.putfield 12, 3) := by decide +kernel
theorem dX5_init_15 : decode cX5_init 15 = .ok (.aload_n 0, 1) := by decide +kernel
theorem dX5_init_16 : decode cX5_init 16 = .ok (.new 18, 3) := by decide +kernel
theorem dX5_init_19 : decode cX5_init 19 = .ok (.dup, 1) := by decide +kernel
theorem dX5_init_20 : decode cX5_init 20 = .ok (.invokespecial 20, 3) := by decide +kernel
theorem dX5_init_23 : decode cX5_init 23 = .ok (.putfield 21, 3) := by decide +kernel
theorem dX5_init_26 : decode cX5_init 26 = .ok (.aload_n 0, 1) := by decide +kernel
theorem dX5_init_27 : decode cX5_init 27 = .ok (.new 25, 3) := by decide +kernel
theorem dX5_init_30 : decode cX5_init 30 = .ok (.dup, 1) := by decide +kernel
theorem dX5_init_31 : decode cX5_init 31 = .ok (.aload_n 0, 1) := by decide +kernel
theorem dX5_init_32 : decode cX5_init 32 = .ok (.getfield 12, 3) := by decide +kernel
theorem dX5_init_35 : decode cX5_init 35 = .ok (.aload_n 0, 1) := by decide +kernel
theorem dX5_init_36 : decode cX5_init 36 = .ok (.getfield 21, 3) := by decide +kernel
theorem dX5_init_39 : decode cX5_init 39 = .ok (.invokespecial 27, 3) := by decide +kernel
theorem dX5_init_42 : decode cX5_init 42 = .ok (.putfield 30, 3) := by decide +kernel
theorem dX5_init_45 : decode cX5_init 45 = .ok (.aload_n 0, 1) := by decide +kernel
theorem dX5_init_46 : decode cX5_init 46 = .ok (.new 34, 3) := by decide +kernel
theorem dX5_init_49 : decode cX5_init 49 = .ok (.dup, 1) := by decide +kernel
theorem dX5_init_50 : decode cX5_init 50 = .ok (.invokespecial 36, 3) := by decide +kernel
theorem dX5_init_53 : decode cX5_init 53 = .ok (.putfield 37, 3) := by decide +kernel
theorem dX5_init_56 : decode cX5_init 56 = .ok (.aload_n 0, 1) := by decide +kernel
theorem dX5_init_57 : decode cX5_init 57 = .ok (.iconst 4, 1) := by decide +kernel
theorem dX5_init_58 : decode cX5_init 58 = .ok (.anewarray 41, 3) := by decide +kernel
theorem dX5_init_61 : decode cX5_init 61 = .ok (.putfield 43, 3) := by decide +kernel
theorem dX5_init_64 : decode cX5_init 64 = .ok (.iconst 0, 1) := by decide +kernel
theorem dX5_init_65 : decode cX5_init 65 = .ok (.istore_n 1, 1) := by decide +kernel
theorem dX5_init_66 : decode cX5_init 66 = .ok (.iload_n 1, 1) := by decide +kernel
theorem dX5_init_67 : decode cX5_init 67 = .ok (.iconst 4, 1) := by decide +kernel
theorem dX5_init_68 : decode cX5_init 68 = .ok (.if_icmp .ge 22, 3) := by decide +kernel
theorem dX5_init_71 : decode cX5_init 71 = .ok (.aload_n 0, 1) := by decide +kernel
theorem dX5_init_72 : decode cX5_init 72 = .ok (.getfield 43, 3) := by decide +kernel
theorem dX5_init_75 : decode cX5_init 75 = .ok (.iload_n 1, 1) := by decide +kernel
theorem dX5_init_76 : decode cX5_init 76 = .ok (.new 41, 3) := by decide +kernel
theorem dX5_init_79 : decode cX5_init 79 = .ok (.dup, 1) := by decide +kernel
theorem dX5_init_80 : decode cX5_init 80 = .ok (.invokespecial 47, 3) := by decide +kernel
theorem dX5_init_83 : decode cX5_init 83 = .ok (.aastore, 1) := by decide +kernel
theorem dX5_init_84 : decode cX5_init 84 = .ok (.iinc 1 1, 3) := by decide +kernel
theorem dX5_init_87 : decode cX5_init 87 = .ok (.goto (-21), 3) := by decide +kernel
theorem dX5_init_90 : decode cX5_init 90 = .ok (.return_, 1) := by decide +kernel
set_option maxRecDepth 20000 in
theorem ggX5_picture_X1_cutAnew : GoodIn wsX5_picture wsX1_cutAnew := goodIn_r _ [8, 9, 10, 11, 12, 13, 14, 7, 15, 16, 40, 41, 42, 43] (by decide +kernel) (by decide +kernel)
set_option maxRecDepth 20000 in
theorem gX5_picture_X1_cutAnew : GoodIn wsX5_picture (wsV RX5 48 RX1 yX1_cutAnew wsX1_cutAnew) := goodIn_app (goodIn_of _ (by decide +kernel)) ggX5_picture_X1_cutAnew
set_option maxRecDepth 20000 in
theorem ggX5_picture_X2_clearAll : GoodIn wsX5_picture wsX2_clearAll := goodIn_r _ [21, 22, 44, 45, 46] (by decide +kernel) (by decide +kernel)
set_option maxRecDepth 20000 in
theorem gX5_picture_X2_clearAll : GoodIn wsX5_picture (wsV RX5 52 RX2 yX2_clearAll wsX2_clearAll) := goodIn_app (goodIn_of _ (by decide +kernel)) ggX5_picture_X2_clearAll
set_option maxRecDepth 20000 in
theorem ggX5_picture_X3_forgetJoined : GoodIn wsX5_picture wsX3_forgetJoined := goodIn_r _ [27, 28, 47, 48, 49, 50, 51, 52, 53, 54, 55, 56, 57, 58, 59] (by decide +kernel) (by decide +kernel)
set_option maxRecDepth 20000 in
theorem gX5_picture_X3_forgetJoined : GoodIn wsX5_picture (wsV RX5 55 RX3 yX3_forgetJoined wsX3_forgetJoined) := goodIn_app (goodIn_of _ (by decide +kernel)) ggX5_picture_X3_forgetJoined
set_option maxRecDepth 20000 in
theorem ggX5_picture_X1_sides : GoodIn wsX5_picture wsX1_sides := goodIn_r _ [32, 9, 10, 40, 41, 42, 43] (by decide +kernel) (by decide +kernel)
set_option maxRecDepth 20000 in
theorem gX5_picture_X1_sides : GoodIn wsX5_picture (wsV RX5 58 RX1 yX1_sides wsX1_sides) := goodIn_app (goodIn_of _ (by decide +kernel)) ggX5_picture_X1_sides
theorem dX5_picture_0 : decode cX5_picture 0 = .ok (.iload_n 1, 1) := by decide +kernel
theorem dX5_picture_1 : decode cX5_picture 1 = .ok (.iconst 1, 1) := by decide +kernel
theorem dX5_picture_2 : decode cX5_picture 2 = .ok (.if_icmp .lt 18, 3) := by decide +kernel
theorem dX5_picture_5 : decode cX5_picture 5 = .ok (.iload_n 1, 1) := by decide +kernel
theorem dX5_picture_6 : decode cX5_picture 6 = .ok (.iconst 5, 1) := by decide +kernel
theorem dX5_picture_7 : decode cX5_picture 7 = .ok (.if_icmp .gt 13, 3) := by decide +kernel
theorem dX5_picture_10 : decode cX5_picture 10 = .ok (.iload_n 2, 1) := by decide +kernel
theorem dX5_picture_11 : decode cX5_picture 11 = .ok (.iconst 1, 1) := by decide +kernel
theorem dX5_picture_12 : decode cX5_picture 12 = .ok (.if_icmp .lt 8, 3) := by decide +kernel
theorem dX5_picture_15 : decode cX5_picture 15 = .ok (.iload_n 2, 1) := by decide +kernel
theorem dX5_picture_16 : decode cX5_picture 16 = .ok (.iconst 5, 1) := by decide +kernel
theorem dX5_picture_17 : decode cX5_picture 17 = .ok (.if_icmp .le 6, 3) := by decide +kernel
theorem dX5_picture_20 : decode cX5_picture 20 = .ok (.bipush (-2), 2) := by decide +kernel
theorem dX5_picture_22 : decode cX5_picture 22 = .ok (.ireturn, 1) := by decide +kernel
theorem dX5_picture_23 : decode cX5_picture 23 = .ok (.aload_n 0, 1) := by decide +kernel
theorem dX5_picture_24 : decode cX5_picture 24 = .ok (.getfield 12, 3) := by decide +kernel
theorem dX5_picture_27 : decode cX5_picture 27 = .ok (.iload_n 1, 1) := by decide +kernel
theorem dX5_picture_28 : decode cX5_picture 28 = .ok (.iload_n 2, 1) := by decide +kernel
theorem dX5_picture_29 : decode cX5_picture 29 = .ok (.invokevirtual 48, 3) := by decide +kernel
theorem dX5_picture_32 : decode cX5_picture 32 = .ok (.aload_n 0, 1) := by decide +kernel
theorem dX5_picture_33 : decode cX5_picture 33 = .ok (.getfield 21, 3) := by decide +kernel
theorem dX5_picture_36 : decode cX5_picture 36 = .ok (.invokevirtual 52, 3) := by decide +kernel
theorem dX5_picture_39 : decode cX5_picture 39 = .ok (.aload_n 0, 1) := by decide +kernel
theorem dX5_picture_40 : decode cX5_picture 40 = .ok (.getfield 30, 3) := by decide +kernel
theorem dX5_picture_43 : decode cX5_picture 43 = .ok (.invokevirtual 55, 3) := by decide +kernel
theorem dX5_picture_46 : decode cX5_picture 46 = .ok (.aload_n 0, 1) := by decide +kernel
theorem dX5_picture_47 : decode cX5_picture 47 = .ok (.getfield 12, 3) := by decide +kernel
theorem dX5_picture_50 : decode cX5_picture 50 = .ok (.invokevirtual 58, 3) := by decide +kernel
theorem dX5_picture_53 : decode cX5_picture 53 = .ok (.ireturn, 1) := by decide +kernel
set_option maxRecDepth 20000 in
theorem ggX5_make_X0_begin : GoodIn wsX5_make wsX0_begin := goodIn_r _ [8, 9, 43] (by decide +kernel) (by decide +kernel)
set_option maxRecDepth 20000 in
theorem gX5_make_X0_begin : GoodIn wsX5_make (wsV RX5 62 RX0 yX0_begin wsX0_begin) := goodIn_app (goodIn_of _ (by decide +kernel)) ggX5_make_X0_begin
set_option maxRecDepth 20000 in
theorem ggX5_make_X1_sides : GoodIn wsX5_make wsX1_sides := goodIn_r _ [14, 15, 16, 44, 45, 46, 47] (by decide +kernel) (by decide +kernel)
set_option maxRecDepth 20000 in
theorem gX5_make_X1_sides : GoodIn wsX5_make (wsV RX5 58 RX1 yX1_sides wsX1_sides) := goodIn_app (goodIn_of _ (by decide +kernel)) ggX5_make_X1_sides
set_option maxRecDepth 20000 in
theorem ggX5_make_X0_below : GoodIn wsX5_make wsX0_below := goodIn_r _ [20, 9, 21, 22, 23, 24, 43] (by decide +kernel) (by decide +kernel)
set_option maxRecDepth 20000 in
theorem gX5_make_X0_below : GoodIn wsX5_make (wsV RX5 66 RX0 yX0_below wsX0_below) := goodIn_app (goodIn_of _ (by decide +kernel)) ggX5_make_X0_below
set_option maxRecDepth 20000 in
theorem ggX5_make_X1_setHeight : GoodIn wsX5_make wsX1_setHeight := goodIn_r _ [28, 29, 44, 45, 46, 47] (by decide +kernel) (by decide +kernel)
set_option maxRecDepth 20000 in
theorem gX5_make_X1_setHeight : GoodIn wsX5_make (wsV RX5 70 RX1 yX1_setHeight wsX1_setHeight) := goodIn_app (goodIn_of _ (by decide +kernel)) ggX5_make_X1_setHeight
set_option maxRecDepth 20000 in
theorem ggX5_make_X3_forgetJoined : GoodIn wsX5_make wsX3_forgetJoined := goodIn_r _ [34, 35, 48, 49, 50, 51, 52, 53, 54, 55, 56, 57, 58, 59, 60] (by decide +kernel) (by decide +kernel)
set_option maxRecDepth 20000 in
theorem gX5_make_X3_forgetJoined : GoodIn wsX5_make (wsV RX5 55 RX3 yX3_forgetJoined wsX3_forgetJoined) := goodIn_app (goodIn_of _ (by decide +kernel)) ggX5_make_X3_forgetJoined
theorem dX5_make_0 : decode cX5_make 0 = .ok (.aload_n 0, 1) := by decide +kernel
theorem dX5_make_1 : decode cX5_make 1 = .ok (.getfield 37, 3) := by decide +kernel
theorem dX5_make_4 : decode cX5_make 4 = .ok (.lload_n 1, 1) := by decide +kernel
theorem dX5_make_5 : decode cX5_make 5 = .ok (.invokevirtual 62, 3) := by decide +kernel
theorem dX5_make_8 : decode cX5_make 8 = .ok (.iconst 0, 1) := by decide +kernel
theorem dX5_make_9 : decode cX5_make 9 = .ok (.istore_n 3, 1) := by decide +kernel
theorem dX5_make_10 : decode cX5_make 10 = .ok (.iload_n 3, 1) := by decide +kernel
theorem dX5_make_11 : decode cX5_make 11 = .ok (.aload_n 0, 1) := by decide +kernel
theorem dX5_make_12 : decode cX5_make 12 = .ok (.getfield 12, 3) := by decide +kernel
theorem dX5_make_15 : decode cX5_make 15 = .ok (.invokevirtual 58, 3) := by decide +kernel
theorem dX5_make_18 : decode cX5_make 18 = .ok (.if_icmp .ge 46, 3) := by decide +kernel
theorem dX5_make_21 : decode cX5_make 21 = .ok (.iconst 0, 1) := by decide +kernel
theorem dX5_make_22 : decode cX5_make 22 = .ok (.istore 4, 2) := by decide +kernel
theorem dX5_make_24 : decode cX5_make 24 = .ok (.iload 4, 2) := by decide +kernel
theorem dX5_make_26 : decode cX5_make 26 = .ok (.iconst 5, 1) := by decide +kernel
theorem dX5_make_27 : decode cX5_make 27 = .ok (.if_icmp .ge 31, 3) := by decide +kernel
theorem dX5_make_30 : decode cX5_make 30 = .ok (.aload_n 0, 1) := by decide +kernel
theorem dX5_make_31 : decode cX5_make 31 = .ok (.getfield 12, 3) := by decide +kernel
theorem dX5_make_34 : decode cX5_make 34 = .ok (.iload_n 3, 1) := by decide +kernel
theorem dX5_make_35 : decode cX5_make 35 = .ok (.iload 4, 2) := by decide +kernel
theorem dX5_make_37 : decode cX5_make 37 = .ok (.aload_n 0, 1) := by decide +kernel
theorem dX5_make_38 : decode cX5_make 38 = .ok (.getfield 37, 3) := by decide +kernel
theorem dX5_make_41 : decode cX5_make 41 = .ok (.bipush 19, 2) := by decide +kernel
theorem dX5_make_43 : decode cX5_make 43 = .ok (.invokevirtual 66, 3) := by decide +kernel
theorem dX5_make_46 : decode cX5_make 46 = .ok (.bipush 9, 2) := by decide +kernel
theorem dX5_make_48 : decode cX5_make 48 = .ok (.isub, 1) := by decide +kernel
theorem dX5_make_49 : decode cX5_make 49 = .ok (.invokevirtual 70, 3) := by decide +kernel
theorem dX5_make_52 : decode cX5_make 52 = .ok (.iinc 4 1, 3) := by decide +kernel
theorem dX5_make_55 : decode cX5_make 55 = .ok (.goto (-31), 3) := by decide +kernel
theorem dX5_make_58 : decode cX5_make 58 = .ok (.iinc 3 1, 3) := by decide +kernel
theorem dX5_make_61 : decode cX5_make 61 = .ok (.goto (-51), 3) := by decide +kernel
theorem dX5_make_64 : decode cX5_make 64 = .ok (.aload_n 0, 1) := by decide +kernel
theorem dX5_make_65 : decode cX5_make 65 = .ok (.getfield 30, 3) := by decide +kernel
theorem dX5_make_68 : decode cX5_make 68 = .ok (.invokevirtual 55, 3) := by decide +kernel
theorem dX5_make_71 : decode cX5_make 71 = .ok (.iconst 1, 1) := by decide +kernel
theorem dX5_make_72 : decode cX5_make 72 = .ok (.ireturn, 1) := by decide +kernel
set_option maxRecDepth 20000 in
theorem ggX5_bend_X1_hasSide : GoodIn wsX5_bend wsX1_hasSide := goodIn_r _ [8, 9, 10, 11, 7, 12, 13, 14, 44, 45, 46, 47] (by decide +kernel) (by decide +kernel)
set_option maxRecDepth 20000 in
theorem gX5_bend_X1_hasSide : GoodIn wsX5_bend (wsV RX5 74 RX1 yX1_hasSide wsX1_hasSide) := goodIn_app (goodIn_of _ (by decide +kernel)) ggX5_bend_X1_hasSide
set_option maxRecDepth 20000 in
theorem ggX5_bend_X5_isHeightPlace : GoodIn wsX5_bend wsX5_isHeightPlace := goodIn_r _ [18] (by decide +kernel) (by decide +kernel)
set_option maxRecDepth 20000 in
theorem gX5_bend_X5_isHeightPlace : GoodIn wsX5_bend (va_wsS RX5 78 yX5_isHeightPlace wsX5_isHeightPlace) := goodIn_app (goodIn_of _ (by decide +kernel)) ggX5_bend_X5_isHeightPlace
set_option maxRecDepth 20000 in
theorem ggX5_bend_X5_isHeight : GoodIn wsX5_bend wsX5_isHeight := goodIn_r _ [21] (by decide +kernel) (by decide +kernel)
set_option maxRecDepth 20000 in
theorem gX5_bend_X5_isHeight : GoodIn wsX5_bend (va_wsS RX5 81 yX5_isHeight wsX5_isHeight) := goodIn_app (goodIn_of _ (by decide +kernel)) ggX5_bend_X5_isHeight
set_option maxRecDepth 20000 in
theorem ggX5_bend_X1_heightAt : GoodIn wsX5_bend wsX1_heightAt := goodIn_r _ [25, 26, 44, 45, 46, 47] (by decide +kernel) (by decide +kernel)
set_option maxRecDepth 20000 in
theorem gX5_bend_X1_heightAt : GoodIn wsX5_bend (wsV RX5 86 RX1 yX1_heightAt wsX1_heightAt) := goodIn_app (goodIn_of _ (by decide +kernel)) ggX5_bend_X1_heightAt
set_option maxRecDepth 20000 in
theorem ggX5_bend_X1_setHeight : GoodIn wsX5_bend wsX1_setHeight := goodIn_r _ [30, 26, 44, 45, 46, 47] (by decide +kernel) (by decide +kernel)
set_option maxRecDepth 20000 in
theorem gX5_bend_X1_setHeight : GoodIn wsX5_bend (wsV RX5 70 RX1 yX1_setHeight wsX1_setHeight) := goodIn_app (goodIn_of _ (by decide +kernel)) ggX5_bend_X1_setHeight
set_option maxRecDepth 20000 in
theorem ggX5_bend_X3_forgetJoined : GoodIn wsX5_bend wsX3_forgetJoined := goodIn_r _ [35, 36, 48, 49, 50, 51, 52, 53, 54, 55, 56, 57, 58, 59, 60] (by decide +kernel) (by decide +kernel)
set_option maxRecDepth 20000 in
theorem gX5_bend_X3_forgetJoined : GoodIn wsX5_bend (wsV RX5 55 RX3 yX3_forgetJoined wsX3_forgetJoined) := goodIn_app (goodIn_of _ (by decide +kernel)) ggX5_bend_X3_forgetJoined
theorem dX5_bend_0 : decode cX5_bend 0 = .ok (.aload_n 0, 1) := by decide +kernel
theorem dX5_bend_1 : decode cX5_bend 1 = .ok (.getfield 12, 3) := by decide +kernel
theorem dX5_bend_4 : decode cX5_bend 4 = .ok (.iload_n 1, 1) := by decide +kernel
theorem dX5_bend_5 : decode cX5_bend 5 = .ok (.invokevirtual 74, 3) := by decide +kernel
theorem dX5_bend_8 : decode cX5_bend 8 = .ok (.ifCond .eq 17, 3) := by decide +kernel
theorem dX5_bend_11 : decode cX5_bend 11 = .ok (.iload_n 2, 1) := by decide +kernel
theorem dX5_bend_12 : decode cX5_bend 12 = .ok (.invokestatic 78, 3) := by decide +kernel
theorem dX5_bend_15 : decode cX5_bend 15 = .ok (.ifCond .eq 10, 3) := by decide +kernel
theorem dX5_bend_18 : decode cX5_bend 18 = .ok (.iload_n 3, 1) := by decide +kernel
theorem dX5_bend_19 : decode cX5_bend 19 = .ok (.invokestatic 81, 3) := by decide +kernel
theorem dX5_bend_22 : decode cX5_bend 22 = .ok (.ifCond .ne 7, 3) := by decide +kernel
theorem dX5_bend_25 : decode cX5_bend 25 = .ok (.ldc2_w 84, 3) := by decide +kernel
theorem dX5_bend_28 : decode cX5_bend 28 = .ok (.lreturn, 1) := by decide +kernel
theorem dX5_bend_29 : decode cX5_bend 29 = .ok (.aload_n 0, 1) := by decide +kernel
theorem dX5_bend_30 : decode cX5_bend 30 = .ok (.getfield 12, 3) := by decide +kernel
theorem dX5_bend_33 : decode cX5_bend 33 = .ok (.iload_n 1, 1) := by decide +kernel
theorem dX5_bend_34 : decode cX5_bend 34 = .ok (.iload_n 2, 1) := by decide +kernel
theorem dX5_bend_35 : decode cX5_bend 35 = .ok (.iconst 0, 1) := by decide +kernel
theorem dX5_bend_36 : decode cX5_bend 36 = .ok (.invokevirtual 86, 3) := by decide +kernel
theorem dX5_bend_39 : decode cX5_bend 39 = .ok (.istore 4, 2) := by decide +kernel
theorem dX5_bend_41 : decode cX5_bend 41 = .ok (.aload_n 0, 1) := by decide +kernel
theorem dX5_bend_42 : decode cX5_bend 42 = .ok (.getfield 12, 3) := by decide +kernel
theorem dX5_bend_45 : decode cX5_bend 45 = .ok (.iload_n 1, 1) := by decide +kernel
theorem dX5_bend_46 : decode cX5_bend 46 = .ok (.iload_n 2, 1) := by decide +kernel
theorem dX5_bend_47 : decode cX5_bend 47 = .ok (.iload_n 3, 1) := by decide +kernel
theorem dX5_bend_48 : decode cX5_bend 48 = .ok (.invokevirtual 70, 3) := by decide +kernel
theorem dX5_bend_51 : decode cX5_bend 51 = .ok (.aload_n 0, 1) := by decide +kernel
theorem dX5_bend_52 : decode cX5_bend 52 = .ok (.getfield 30, 3) := by decide +kernel
theorem dX5_bend_55 : decode cX5_bend 55 = .ok (.invokevirtual 55, 3) := by decide +kernel
theorem dX5_bend_58 : decode cX5_bend 58 = .ok (.iload 4, 2) := by decide +kernel
theorem dX5_bend_60 : decode cX5_bend 60 = .ok (.i2l, 1) := by decide +kernel
theorem dX5_bend_61 : decode cX5_bend 61 = .ok (.lreturn, 1) := by decide +kernel
set_option maxRecDepth 20000 in
theorem ggX5_height_X1_hasSide : GoodIn wsX5_height wsX1_hasSide := goodIn_r _ [7, 8, 9, 10, 6, 11, 12, 13, 30, 31, 32, 33] (by decide +kernel) (by decide +kernel)
set_option maxRecDepth 20000 in
theorem gX5_height_X1_hasSide : GoodIn wsX5_height (wsV RX5 74 RX1 yX1_hasSide wsX1_hasSide) := goodIn_app (goodIn_of _ (by decide +kernel)) ggX5_height_X1_hasSide
set_option maxRecDepth 20000 in
theorem ggX5_height_X5_isHeightPlace : GoodIn wsX5_height wsX5_isHeightPlace := goodIn_r _ [17] (by decide +kernel) (by decide +kernel)
set_option maxRecDepth 20000 in
theorem gX5_height_X5_isHeightPlace : GoodIn wsX5_height (va_wsS RX5 78 yX5_isHeightPlace wsX5_isHeightPlace) := goodIn_app (goodIn_of _ (by decide +kernel)) ggX5_height_X5_isHeightPlace
set_option maxRecDepth 20000 in
theorem ggX5_height_X1_heightAt : GoodIn wsX5_height wsX1_heightAt := goodIn_r _ [21, 22, 30, 31, 32, 33] (by decide +kernel) (by decide +kernel)
set_option maxRecDepth 20000 in
theorem gX5_height_X1_heightAt : GoodIn wsX5_height (wsV RX5 86 RX1 yX1_heightAt wsX1_heightAt) := goodIn_app (goodIn_of _ (by decide +kernel)) ggX5_height_X1_heightAt
theorem dX5_height_0 : decode cX5_height 0 = .ok (.aload_n 0, 1) := by decide +kernel
theorem dX5_height_1 : decode cX5_height 1 = .ok (.getfield 12, 3) := by decide +kernel
theorem dX5_height_4 : decode cX5_height 4 = .ok (.iload_n 1, 1) := by decide +kernel
theorem dX5_height_5 : decode cX5_height 5 = .ok (.invokevirtual 74, 3) := by decide +kernel
theorem dX5_height_8 : decode cX5_height 8 = .ok (.ifCond .eq 10, 3) := by decide +kernel
theorem dX5_height_11 : decode cX5_height 11 = .ok (.iload_n 2, 1) := by decide +kernel
theorem dX5_height_12 : decode cX5_height 12 = .ok (.invokestatic 78, 3) := by decide +kernel
theorem dX5_height_15 : decode cX5_height 15 = .ok (.ifCond .ne 7, 3) := by decide +kernel
theorem dX5_height_18 : decode cX5_height 18 = .ok (.ldc2_w 84, 3) := by decide +kernel
theorem dX5_height_21 : decode cX5_height 21 = .ok (.lreturn, 1) := by decide +kernel
theorem dX5_height_22 : decode cX5_height 22 = .ok (.aload_n 0, 1) := by decide +kernel
theorem dX5_height_23 : decode cX5_height 23 = .ok (.getfield 12, 3) := by decide +kernel
theorem dX5_height_26 : decode cX5_height 26 = .ok (.iload_n 1, 1) := by decide +kernel
theorem dX5_height_27 : decode cX5_height 27 = .ok (.iload_n 2, 1) := by decide +kernel
theorem dX5_height_28 : decode cX5_height 28 = .ok (.iconst 0, 1) := by decide +kernel
theorem dX5_height_29 : decode cX5_height 29 = .ok (.invokevirtual 86, 3) := by decide +kernel
theorem dX5_height_32 : decode cX5_height 32 = .ok (.i2l, 1) := by decide +kernel
theorem dX5_height_33 : decode cX5_height 33 = .ok (.lreturn, 1) := by decide +kernel
set_option maxRecDepth 20000 in
theorem ggX5_shape_X5_isSheet : GoodIn wsX5_shape wsX5_isSheet := goodIn_r _ [9] (by decide +kernel) (by decide +kernel)
set_option maxRecDepth 20000 in
theorem gX5_shape_X5_isSheet : GoodIn wsX5_shape (va_wsS RX5 94 yX5_isSheet wsX5_isSheet) := goodIn_app (goodIn_of _ (by decide +kernel)) ggX5_shape_X5_isSheet
set_option maxRecDepth 20000 in
theorem ggX5_shape_X1_hasSide : GoodIn wsX5_shape wsX1_hasSide := goodIn_r _ [14, 15, 16, 17, 13, 18, 19, 20, 79, 80, 81, 82] (by decide +kernel) (by decide +kernel)
set_option maxRecDepth 20000 in
theorem gX5_shape_X1_hasSide : GoodIn wsX5_shape (wsV RX5 74 RX1 yX1_hasSide wsX1_hasSide) := goodIn_app (goodIn_of _ (by decide +kernel)) ggX5_shape_X1_hasSide
set_option maxRecDepth 20000 in
theorem ggX5_shape_X5_isLane : GoodIn wsX5_shape wsX5_isLane := goodIn_r _ [23] (by decide +kernel) (by decide +kernel)
set_option maxRecDepth 20000 in
theorem gX5_shape_X5_isLane : GoodIn wsX5_shape (va_wsS RX5 97 yX5_isLane wsX5_isLane) := goodIn_app (goodIn_of _ (by decide +kernel)) ggX5_shape_X5_isLane
set_option maxRecDepth 20000 in
theorem ggX5_shape_X4_isOfOther : GoodIn wsX5_shape wsX4_isOfOther := goodIn_r _ [28, 29, 30, 83, 84, 85, 86] (by decide +kernel) (by decide +kernel)
set_option maxRecDepth 20000 in
theorem gX5_shape_X4_isOfOther : GoodIn wsX5_shape (wsV RX5 100 RX4 yX4_isOfOther wsX4_isOfOther) := goodIn_app (goodIn_of _ (by decide +kernel)) ggX5_shape_X4_isOfOther
set_option maxRecDepth 20000 in
theorem ggX5_shape_X5_come : GoodIn wsX5_shape wsX5_come := goodIn_r _ [34, 1, 72, 73, 74, 75, 76, 77, 78] (by decide +kernel) (by decide +kernel)
set_option maxRecDepth 20000 in
theorem gX5_shape_X5_come : GoodIn wsX5_shape (wsV RX5 103 RX5 yX5_come wsX5_come) := goodIn_app (goodIn_of _ (by decide +kernel)) ggX5_shape_X5_come
set_option maxRecDepth 20000 in
theorem ggX5_shape_X4_isThere : GoodIn wsX5_shape wsX4_isThere := goodIn_r _ [38, 29, 83, 84, 85, 86] (by decide +kernel) (by decide +kernel)
set_option maxRecDepth 20000 in
theorem gX5_shape_X4_isThere : GoodIn wsX5_shape (wsV RX5 106 RX4 yX4_isThere wsX4_isThere) := goodIn_app (goodIn_of _ (by decide +kernel)) ggX5_shape_X4_isThere
set_option maxRecDepth 20000 in
theorem ggX5_shape_X4_holds : GoodIn wsX5_shape wsX4_holds := goodIn_r _ [42, 43, 83, 84, 85, 86] (by decide +kernel) (by decide +kernel)
set_option maxRecDepth 20000 in
theorem gX5_shape_X4_holds : GoodIn wsX5_shape (wsV RX5 112 RX4 yX4_holds wsX4_holds) := goodIn_app (goodIn_of _ (by decide +kernel)) ggX5_shape_X4_holds
set_option maxRecDepth 20000 in
theorem ggX5_shape_X1_sides : GoodIn wsX5_shape wsX1_sides := goodIn_r _ [18, 19, 20, 79, 80, 81, 82] (by decide +kernel) (by decide +kernel)
set_option maxRecDepth 20000 in
theorem gX5_shape_X1_sides : GoodIn wsX5_shape (wsV RX5 58 RX1 yX1_sides wsX1_sides) := goodIn_app (goodIn_of _ (by decide +kernel)) ggX5_shape_X1_sides
set_option maxRecDepth 20000 in
theorem ggX5_shape_X5_areHeights : GoodIn wsX5_shape wsX5_areHeights := goodIn_r _ [47, 48, 49, 50, 27, 51, 52, 53, 40, 41, 42, 43, 54, 55, 8, 56, 83, 84, 85, 86] (by decide +kernel) (by decide +kernel)
set_option maxRecDepth 20000 in
theorem gX5_shape_X5_areHeights : GoodIn wsX5_shape (va_wsS RX5 116 yX5_areHeights wsX5_areHeights) := goodIn_app (goodIn_of _ (by decide +kernel)) ggX5_shape_X5_areHeights
set_option maxRecDepth 20000 in
theorem ggX5_shape_X5_shapeFrom : GoodIn wsX5_shape wsX5_shapeFrom := goodIn_r _ [60, 2, 48, 49, 50, 27, 51, 52, 53, 40, 41, 42, 43, 61, 62, 63, 13, 64, 65, 72, 73, 74, 75, 76, 77, 78, 83, 84, 85, 86, 79, 80, 81, 82] (by decide +kernel) (by decide +kernel)
set_option maxRecDepth 20000 in
theorem gX5_shape_X5_shapeFrom : GoodIn wsX5_shape (wsV RX5 120 RX5 yX5_shapeFrom wsX5_shapeFrom) := goodIn_app (goodIn_of _ (by decide +kernel)) ggX5_shape_X5_shapeFrom
set_option maxRecDepth 20000 in
theorem ggX5_shape_X3_forgetJoined : GoodIn wsX5_shape wsX3_forgetJoined := goodIn_r _ [70, 71, 87, 88, 89, 90, 91, 92, 93, 94, 95, 96, 97, 98, 99] (by decide +kernel) (by decide +kernel)
set_option maxRecDepth 20000 in
theorem gX5_shape_X3_forgetJoined : GoodIn wsX5_shape (wsV RX5 55 RX3 yX3_forgetJoined wsX3_forgetJoined) := goodIn_app (goodIn_of _ (by decide +kernel)) ggX5_shape_X3_forgetJoined
theorem dX5_shape_0 : decode cX5_shape 0 = .ok (.aload_n 0, 1) := by decide +kernel
theorem dX5_shape_1 : decode cX5_shape 1 = .ok (.iconst 0, 1) := by decide +kernel
theorem dX5_shape_2 : decode cX5_shape 2 = .ok (.putfield 90, 3) := by decide +kernel
theorem dX5_shape_5 : decode cX5_shape 5 = .ok (.iload_n 1, 1) := by decide +kernel
theorem dX5_shape_6 : decode cX5_shape 6 = .ok (.invokestatic 94, 3) := by decide +kernel
theorem dX5_shape_9 : decode cX5_shape 9 = .ok (.ifCond .eq 15, 3) := by decide +kernel
theorem dX5_shape_12 : decode cX5_shape 12 = .ok (.aload_n 0, 1) := by decide +kernel
theorem dX5_shape_13 : decode cX5_shape 13 = .ok (.getfield 12, 3) := by decide +kernel
theorem dX5_shape_16 : decode cX5_shape 16 = .ok (.iload 5, 2) := by decide +kernel
theorem dX5_shape_18 : decode cX5_shape 18 = .ok (.invokevirtual 74, 3) := by decide +kernel
theorem dX5_shape_21 : decode cX5_shape 21 = .ok (.ifCond .ne 5, 3) := by decide +kernel
theorem dX5_shape_24 : decode cX5_shape 24 = .ok (.iconst (-1), 1) := by decide +kernel
theorem dX5_shape_25 : decode cX5_shape 25 = .ok (.ireturn, 1) := by decide +kernel
theorem dX5_shape_26 : decode cX5_shape 26 = .ok (.iload_n 2, 1) := by decide +kernel
theorem dX5_shape_27 : decode cX5_shape 27 = .ok (.invokestatic 97, 3) := by decide +kernel
theorem dX5_shape_30 : decode cX5_shape 30 = .ok (.ifCond .ne 6, 3) := by decide +kernel
theorem dX5_shape_33 : decode cX5_shape 33 = .ok (.bipush (-2), 2) := by decide +kernel
theorem dX5_shape_35 : decode cX5_shape 35 = .ok (.ireturn, 1) := by decide +kernel
theorem dX5_shape_36 : decode cX5_shape 36 = .ok (.aload_n 0, 1) := by decide +kernel
theorem dX5_shape_37 : decode cX5_shape 37 = .ok (.getfield 43, 3) := by decide +kernel
theorem dX5_shape_40 : decode cX5_shape 40 = .ok (.iload_n 1, 1) := by decide +kernel
theorem dX5_shape_41 : decode cX5_shape 41 = .ok (.aaload, 1) := by decide +kernel
theorem dX5_shape_42 : decode cX5_shape 42 = .ok (.astore 6, 2) := by decide +kernel
theorem dX5_shape_44 : decode cX5_shape 44 = .ok (.aload 6, 2) := by decide +kernel
theorem dX5_shape_46 : decode cX5_shape 46 = .ok (.iload_n 2, 1) := by decide +kernel
theorem dX5_shape_47 : decode cX5_shape 47 = .ok (.invokevirtual 100, 3) := by decide +kernel
theorem dX5_shape_50 : decode cX5_shape 50 = .ok (.ifCond .eq 9, 3) := by decide +kernel
theorem dX5_shape_53 : decode cX5_shape 53 = .ok (.aload_n 0, 1) := by decide +kernel
theorem dX5_shape_54 : decode cX5_shape 54 = .ok (.iconst 2, 1) := by decide +kernel
theorem dX5_shape_55 : decode cX5_shape 55 = .ok (.invokevirtual 103, 3) := by decide +kernel
theorem dX5_shape_58 : decode cX5_shape 58 = .ok (.ireturn, 1) := by decide +kernel
theorem dX5_shape_59 : decode cX5_shape 59 = .ok (.aload 6, 2) := by decide +kernel
theorem dX5_shape_61 : decode cX5_shape 61 = .ok (.invokevirtual 106, 3) := by decide +kernel
theorem dX5_shape_64 : decode cX5_shape 64 = .ok (.ifCond .ne 9, 3) := by decide +kernel
theorem dX5_shape_67 : decode cX5_shape 67 = .ok (.aload_n 0, 1) := by decide +kernel
theorem dX5_shape_68 : decode cX5_shape 68 = .ok (.iconst 1, 1) := by decide +kernel
theorem dX5_shape_69 : decode cX5_shape 69 = .ok (.invokevirtual 103, 3) := by decide +kernel
theorem dX5_shape_72 : decode cX5_shape 72 = .ok (.ireturn, 1) := by decide +kernel
theorem dX5_shape_73 : decode cX5_shape 73 = .ok (.iload 4, 2) := by decide +kernel
theorem dX5_shape_75 : decode cX5_shape 75 = .ok (.ifCond .ge 9, 3) := by decide +kernel
theorem dX5_shape_78 : decode cX5_shape 78 = .ok (.aload_n 0, 1) := by decide +kernel
theorem dX5_shape_79 : decode cX5_shape 79 = .ok (.iconst 4, 1) := by decide +kernel
theorem dX5_shape_80 : decode cX5_shape 80 = .ok (.invokevirtual 103, 3) := by decide +kernel
theorem dX5_shape_83 : decode cX5_shape 83 = .ok (.ireturn, 1) := by decide +kernel
theorem dX5_shape_84 : decode cX5_shape 84 = .ok (.aload 6, 2) := by decide +kernel
theorem dX5_shape_86 : decode cX5_shape 86 = .ok (.iload_n 3, 1) := by decide +kernel
theorem dX5_shape_87 : decode cX5_shape 87 = .ok (.iload 4, 2) := by decide +kernel
theorem dX5_shape_89 : decode cX5_shape 89 = .ok (.i2l, 1) := by decide +kernel
theorem dX5_shape_90 : decode cX5_shape 90 = .ok (.ldc2_w 110, 3) := by decide +kernel
theorem dX5_shape_93 : decode cX5_shape 93 = .ok (.lmul, 1) := by decide +kernel
theorem dX5_shape_94 : decode cX5_shape 94 = .ok (.invokevirtual 112, 3) := by decide +kernel
theorem dX5_shape_97 : decode cX5_shape 97 = .ok (.ifCond .eq 22, 3) := by decide +kernel
theorem dX5_shape_100 : decode cX5_shape 100 = .ok (.iload 5, 2) := by decide +kernel
theorem dX5_shape_102 : decode cX5_shape 102 = .ok (.i2l, 1) := by decide +kernel
theorem dX5_shape_103 : decode cX5_shape 103 = .ok (.iload 4, 2) := by decide +kernel
theorem dX5_shape_105 : decode cX5_shape 105 = .ok (.i2l, 1) := by decide +kernel
theorem dX5_shape_106 : decode cX5_shape 106 = .ok (.ladd, 1) := by decide +kernel
theorem dX5_shape_107 : decode cX5_shape 107 = .ok (.aload_n 0, 1) := by decide +kernel
theorem dX5_shape_108 : decode cX5_shape 108 = .ok (.getfield 12, 3) := by decide +kernel
theorem dX5_shape_111 : decode cX5_shape 111 = .ok (.invokevirtual 58, 3) := by decide +kernel
theorem dX5_shape_114 : decode cX5_shape 114 = .ok (.i2l, 1) := by decide +kernel
theorem dX5_shape_115 : decode cX5_shape 115 = .ok (.lcmp, 1) := by decide +kernel
theorem dX5_shape_116 : decode cX5_shape 116 = .ok (.ifCond .le 9, 3) := by decide +kernel
theorem dX5_shape_119 : decode cX5_shape 119 = .ok (.aload_n 0, 1) := by decide +kernel
theorem dX5_shape_120 : decode cX5_shape 120 = .ok (.iconst 3, 1) := by decide +kernel
theorem dX5_shape_121 : decode cX5_shape 121 = .ok (.invokevirtual 103, 3) := by decide +kernel
theorem dX5_shape_124 : decode cX5_shape 124 = .ok (.ireturn, 1) := by decide +kernel
theorem dX5_shape_125 : decode cX5_shape 125 = .ok (.aload 6, 2) := by decide +kernel
theorem dX5_shape_127 : decode cX5_shape 127 = .ok (.iload_n 3, 1) := by decide +kernel
theorem dX5_shape_128 : decode cX5_shape 128 = .ok (.iload 4, 2) := by decide +kernel
theorem dX5_shape_130 : decode cX5_shape 130 = .ok (.iconst 5, 1) := by decide +kernel
theorem dX5_shape_131 : decode cX5_shape 131 = .ok (.imul, 1) := by decide +kernel
theorem dX5_shape_132 : decode cX5_shape 132 = .ok (.invokestatic 116, 3) := by decide +kernel
theorem dX5_shape_135 : decode cX5_shape 135 = .ok (.ifCond .ne 6, 3) := by decide +kernel
theorem dX5_shape_138 : decode cX5_shape 138 = .ok (.bipush (-2), 2) := by decide +kernel
theorem dX5_shape_140 : decode cX5_shape 140 = .ok (.ireturn, 1) := by decide +kernel
theorem dX5_shape_141 : decode cX5_shape 141 = .ok (.aload_n 0, 1) := by decide +kernel
theorem dX5_shape_142 : decode cX5_shape 142 = .ok (.aload 6, 2) := by decide +kernel
theorem dX5_shape_144 : decode cX5_shape 144 = .ok (.iload_n 3, 1) := by decide +kernel
theorem dX5_shape_145 : decode cX5_shape 145 = .ok (.iload 4, 2) := by decide +kernel
theorem dX5_shape_147 : decode cX5_shape 147 = .ok (.iload 5, 2) := by decide +kernel
theorem dX5_shape_149 : decode cX5_shape 149 = .ok (.invokevirtual 120, 3) := by decide +kernel
theorem dX5_shape_152 : decode cX5_shape 152 = .ok (.aload_n 0, 1) := by decide +kernel
theorem dX5_shape_153 : decode cX5_shape 153 = .ok (.getfield 30, 3) := by decide +kernel
theorem dX5_shape_156 : decode cX5_shape 156 = .ok (.invokevirtual 55, 3) := by decide +kernel
theorem dX5_shape_159 : decode cX5_shape 159 = .ok (.iload 4, 2) := by decide +kernel
theorem dX5_shape_161 : decode cX5_shape 161 = .ok (.ireturn, 1) := by decide +kernel
set_option maxRecDepth 20000 in
theorem ggX5_sideOf_X1_hasEdge : GoodIn wsX5_sideOf wsX1_hasEdge := goodIn_r _ [6, 7, 8, 9, 5, 10, 11, 12, 13, 14, 15, 16, 29, 30, 31, 32] (by decide +kernel) (by decide +kernel)
set_option maxRecDepth 20000 in
theorem gX5_sideOf_X1_hasEdge : GoodIn wsX5_sideOf (wsV RX5 124 RX1 yX1_hasEdge wsX1_hasEdge) := goodIn_app (goodIn_of _ (by decide +kernel)) ggX5_sideOf_X1_hasEdge
set_option maxRecDepth 20000 in
theorem ggX5_sideOf_X1_sideAt : GoodIn wsX5_sideOf wsX1_sideAt := goodIn_r _ [20, 21, 29, 30, 31, 32] (by decide +kernel) (by decide +kernel)
set_option maxRecDepth 20000 in
theorem gX5_sideOf_X1_sideAt : GoodIn wsX5_sideOf (wsV RX5 128 RX1 yX1_sideAt wsX1_sideAt) := goodIn_app (goodIn_of _ (by decide +kernel)) ggX5_sideOf_X1_sideAt
theorem dX5_sideOf_0 : decode cX5_sideOf 0 = .ok (.aload_n 0, 1) := by decide +kernel
theorem dX5_sideOf_1 : decode cX5_sideOf 1 = .ok (.getfield 12, 3) := by decide +kernel
theorem dX5_sideOf_4 : decode cX5_sideOf 4 = .ok (.iload_n 1, 1) := by decide +kernel
theorem dX5_sideOf_5 : decode cX5_sideOf 5 = .ok (.iload_n 2, 1) := by decide +kernel
theorem dX5_sideOf_6 : decode cX5_sideOf 6 = .ok (.invokevirtual 124, 3) := by decide +kernel
theorem dX5_sideOf_9 : decode cX5_sideOf 9 = .ok (.ifCond .ne 5, 3) := by decide +kernel
theorem dX5_sideOf_12 : decode cX5_sideOf 12 = .ok (.iconst (-1), 1) := by decide +kernel
theorem dX5_sideOf_13 : decode cX5_sideOf 13 = .ok (.ireturn, 1) := by decide +kernel
theorem dX5_sideOf_14 : decode cX5_sideOf 14 = .ok (.aload_n 0, 1) := by decide +kernel
theorem dX5_sideOf_15 : decode cX5_sideOf 15 = .ok (.getfield 12, 3) := by decide +kernel
theorem dX5_sideOf_18 : decode cX5_sideOf 18 = .ok (.iload_n 1, 1) := by decide +kernel
theorem dX5_sideOf_19 : decode cX5_sideOf 19 = .ok (.iload_n 2, 1) := by decide +kernel
theorem dX5_sideOf_20 : decode cX5_sideOf 20 = .ok (.invokevirtual 128, 3) := by decide +kernel
theorem dX5_sideOf_23 : decode cX5_sideOf 23 = .ok (.ireturn, 1) := by decide +kernel
set_option maxRecDepth 20000 in
theorem ggX5_edge_X1_hasEdge : GoodIn wsX5_edge wsX1_hasEdge := goodIn_r _ [7, 8, 9, 10, 6, 11, 12, 13, 14, 15, 16, 17, 47, 48, 49, 50] (by decide +kernel) (by decide +kernel)
set_option maxRecDepth 20000 in
theorem gX5_edge_X1_hasEdge : GoodIn wsX5_edge (wsV RX5 124 RX1 yX1_hasEdge wsX1_hasEdge) := goodIn_app (goodIn_of _ (by decide +kernel)) ggX5_edge_X1_hasEdge
set_option maxRecDepth 20000 in
theorem ggX5_edge_X5_isHeightPlace : GoodIn wsX5_edge wsX5_isHeightPlace := goodIn_r _ [21] (by decide +kernel) (by decide +kernel)
set_option maxRecDepth 20000 in
theorem gX5_edge_X5_isHeightPlace : GoodIn wsX5_edge (va_wsS RX5 78 yX5_isHeightPlace wsX5_isHeightPlace) := goodIn_app (goodIn_of _ (by decide +kernel)) ggX5_edge_X5_isHeightPlace
set_option maxRecDepth 20000 in
theorem ggX5_edge_X1_isFlat : GoodIn wsX5_edge wsX1_isFlat := goodIn_r _ [25, 26, 27, 28, 6, 29, 30, 47, 48, 49, 50] (by decide +kernel) (by decide +kernel)
set_option maxRecDepth 20000 in
theorem gX5_edge_X1_isFlat : GoodIn wsX5_edge (wsV RX5 132 RX1 yX1_isFlat wsX1_isFlat) := goodIn_app (goodIn_of _ (by decide +kernel)) ggX5_edge_X1_isFlat
set_option maxRecDepth 20000 in
theorem ggX5_edge_X1_edgeHeight : GoodIn wsX5_edge wsX1_edgeHeight := goodIn_r _ [34, 26, 27, 28, 6, 29, 30, 35, 36, 37, 38, 39, 47, 48, 49, 50] (by decide +kernel) (by decide +kernel)
set_option maxRecDepth 20000 in
theorem gX5_edge_X1_edgeHeight : GoodIn wsX5_edge (wsV RX5 135 RX1 yX1_edgeHeight wsX1_edgeHeight) := goodIn_app (goodIn_of _ (by decide +kernel)) ggX5_edge_X1_edgeHeight
theorem dX5_edge_0 : decode cX5_edge 0 = .ok (.aload_n 0, 1) := by decide +kernel
theorem dX5_edge_1 : decode cX5_edge 1 = .ok (.getfield 12, 3) := by decide +kernel
theorem dX5_edge_4 : decode cX5_edge 4 = .ok (.iload_n 1, 1) := by decide +kernel
theorem dX5_edge_5 : decode cX5_edge 5 = .ok (.iload_n 2, 1) := by decide +kernel
theorem dX5_edge_6 : decode cX5_edge 6 = .ok (.invokevirtual 124, 3) := by decide +kernel
theorem dX5_edge_9 : decode cX5_edge 9 = .ok (.ifCond .eq 22, 3) := by decide +kernel
theorem dX5_edge_12 : decode cX5_edge 12 = .ok (.iload_n 3, 1) := by decide +kernel
theorem dX5_edge_13 : decode cX5_edge 13 = .ok (.invokestatic 78, 3) := by decide +kernel
theorem dX5_edge_16 : decode cX5_edge 16 = .ok (.ifCond .eq 15, 3) := by decide +kernel
theorem dX5_edge_19 : decode cX5_edge 19 = .ok (.aload_n 0, 1) := by decide +kernel
theorem dX5_edge_20 : decode cX5_edge 20 = .ok (.getfield 12, 3) := by decide +kernel
theorem dX5_edge_23 : decode cX5_edge 23 = .ok (.iload_n 1, 1) := by decide +kernel
theorem dX5_edge_24 : decode cX5_edge 24 = .ok (.iload_n 2, 1) := by decide +kernel
theorem dX5_edge_25 : decode cX5_edge 25 = .ok (.invokevirtual 132, 3) := by decide +kernel
theorem dX5_edge_28 : decode cX5_edge 28 = .ok (.ifCond .eq 7, 3) := by decide +kernel
theorem dX5_edge_31 : decode cX5_edge 31 = .ok (.ldc2_w 84, 3) := by decide +kernel
theorem dX5_edge_34 : decode cX5_edge 34 = .ok (.lreturn, 1) := by decide +kernel
theorem dX5_edge_35 : decode cX5_edge 35 = .ok (.aload_n 0, 1) := by decide +kernel
theorem dX5_edge_36 : decode cX5_edge 36 = .ok (.getfield 12, 3) := by decide +kernel
theorem dX5_edge_39 : decode cX5_edge 39 = .ok (.iload_n 1, 1) := by decide +kernel
theorem dX5_edge_40 : decode cX5_edge 40 = .ok (.iload_n 2, 1) := by decide +kernel
theorem dX5_edge_41 : decode cX5_edge 41 = .ok (.iload_n 3, 1) := by decide +kernel
theorem dX5_edge_42 : decode cX5_edge 42 = .ok (.invokevirtual 135, 3) := by decide +kernel
theorem dX5_edge_45 : decode cX5_edge 45 = .ok (.i2l, 1) := by decide +kernel
theorem dX5_edge_46 : decode cX5_edge 46 = .ok (.lreturn, 1) := by decide +kernel
set_option maxRecDepth 20000 in
theorem ggX5_far_X1_hasEdge : GoodIn wsX5_far wsX1_hasEdge := goodIn_r _ [6, 7, 8, 9, 5, 10, 11, 12, 13, 14, 15, 16, 50, 51, 52, 53] (by decide +kernel) (by decide +kernel)
set_option maxRecDepth 20000 in
theorem gX5_far_X1_hasEdge : GoodIn wsX5_far (wsV RX5 124 RX1 yX1_hasEdge wsX1_hasEdge) := goodIn_app (goodIn_of _ (by decide +kernel)) ggX5_far_X1_hasEdge
set_option maxRecDepth 20000 in
theorem ggX5_far_X1_isFlat : GoodIn wsX5_far wsX1_isFlat := goodIn_r _ [20, 21, 22, 23, 5, 24, 25, 50, 51, 52, 53] (by decide +kernel) (by decide +kernel)
set_option maxRecDepth 20000 in
theorem gX5_far_X1_isFlat : GoodIn wsX5_far (wsV RX5 132 RX1 yX1_isFlat wsX1_isFlat) := goodIn_app (goodIn_of _ (by decide +kernel)) ggX5_far_X1_isFlat
set_option maxRecDepth 20000 in
theorem ggX5_far_X1_farness : GoodIn wsX5_far wsX1_farness := goodIn_r _ [29, 30, 31, 32, 33, 34, 35, 36, 5, 37, 21, 22, 23, 24, 25, 38, 39, 40, 41, 42, 50, 51, 52, 53] (by decide +kernel) (by decide +kernel)
set_option maxRecDepth 20000 in
theorem gX5_far_X1_farness : GoodIn wsX5_far (wsV RX5 138 RX1 yX1_farness wsX1_farness) := goodIn_app (goodIn_of _ (by decide +kernel)) ggX5_far_X1_farness
theorem dX5_far_0 : decode cX5_far 0 = .ok (.aload_n 0, 1) := by decide +kernel
theorem dX5_far_1 : decode cX5_far 1 = .ok (.getfield 12, 3) := by decide +kernel
theorem dX5_far_4 : decode cX5_far 4 = .ok (.iload_n 1, 1) := by decide +kernel
theorem dX5_far_5 : decode cX5_far 5 = .ok (.iload_n 2, 1) := by decide +kernel
theorem dX5_far_6 : decode cX5_far 6 = .ok (.invokevirtual 124, 3) := by decide +kernel
theorem dX5_far_9 : decode cX5_far 9 = .ok (.ifCond .eq 16, 3) := by decide +kernel
theorem dX5_far_12 : decode cX5_far 12 = .ok (.aload_n 0, 1) := by decide +kernel
theorem dX5_far_13 : decode cX5_far 13 = .ok (.getfield 12, 3) := by decide +kernel
theorem dX5_far_16 : decode cX5_far 16 = .ok (.iload_n 3, 1) := by decide +kernel
theorem dX5_far_17 : decode cX5_far 17 = .ok (.iload 4, 2) := by decide +kernel
theorem dX5_far_19 : decode cX5_far 19 = .ok (.invokevirtual 124, 3) := by decide +kernel
theorem dX5_far_22 : decode cX5_far 22 = .ok (.ifCond .ne 5, 3) := by decide +kernel
theorem dX5_far_25 : decode cX5_far 25 = .ok (.iconst (-1), 1) := by decide +kernel
theorem dX5_far_26 : decode cX5_far 26 = .ok (.ireturn, 1) := by decide +kernel
theorem dX5_far_27 : decode cX5_far 27 = .ok (.aload_n 0, 1) := by decide +kernel
theorem dX5_far_28 : decode cX5_far 28 = .ok (.getfield 12, 3) := by decide +kernel
theorem dX5_far_31 : decode cX5_far 31 = .ok (.iload_n 1, 1) := by decide +kernel
theorem dX5_far_32 : decode cX5_far 32 = .ok (.iload_n 2, 1) := by decide +kernel
theorem dX5_far_33 : decode cX5_far 33 = .ok (.invokevirtual 132, 3) := by decide +kernel
theorem dX5_far_36 : decode cX5_far 36 = .ok (.ifCond .ne 16, 3) := by decide +kernel
theorem dX5_far_39 : decode cX5_far 39 = .ok (.aload_n 0, 1) := by decide +kernel
theorem dX5_far_40 : decode cX5_far 40 = .ok (.getfield 12, 3) := by decide +kernel
theorem dX5_far_43 : decode cX5_far 43 = .ok (.iload_n 3, 1) := by decide +kernel
theorem dX5_far_44 : decode cX5_far 44 = .ok (.iload 4, 2) := by decide +kernel
theorem dX5_far_46 : decode cX5_far 46 = .ok (.invokevirtual 132, 3) := by decide +kernel
theorem dX5_far_49 : decode cX5_far 49 = .ok (.ifCond .eq 6, 3) := by decide +kernel
theorem dX5_far_52 : decode cX5_far 52 = .ok (.bipush (-3), 2) := by decide +kernel
theorem dX5_far_54 : decode cX5_far 54 = .ok (.ireturn, 1) := by decide +kernel
theorem dX5_far_55 : decode cX5_far 55 = .ok (.aload_n 0, 1) := by decide +kernel
theorem dX5_far_56 : decode cX5_far 56 = .ok (.getfield 12, 3) := by decide +kernel
theorem dX5_far_59 : decode cX5_far 59 = .ok (.iload_n 1, 1) := by decide +kernel
theorem dX5_far_60 : decode cX5_far 60 = .ok (.iload_n 2, 1) := by decide +kernel
theorem dX5_far_61 : decode cX5_far 61 = .ok (.iload_n 3, 1) := by decide +kernel
theorem dX5_far_62 : decode cX5_far 62 = .ok (.iload 4, 2) := by decide +kernel
theorem dX5_far_64 : decode cX5_far 64 = .ok (.invokevirtual 138, 3) := by decide +kernel
theorem dX5_far_67 : decode cX5_far 67 = .ok (.ireturn, 1) := by decide +kernel
set_option maxRecDepth 20000 in
theorem ggX5_kind_X1_hasSide : GoodIn wsX5_kind wsX1_hasSide := goodIn_r _ [6, 7, 8, 9, 5, 10, 11, 12, 37, 38, 39, 40] (by decide +kernel) (by decide +kernel)
set_option maxRecDepth 20000 in
theorem gX5_kind_X1_hasSide : GoodIn wsX5_kind (wsV RX5 74 RX1 yX1_hasSide wsX1_hasSide) := goodIn_app (goodIn_of _ (by decide +kernel)) ggX5_kind_X1_hasSide
set_option maxRecDepth 20000 in
theorem ggX5_kind_X1_kindAt : GoodIn wsX5_kind wsX1_kindAt := goodIn_r _ [16, 17, 18, 19, 5, 20, 21, 22, 23, 24, 25, 7, 8, 9, 10, 11, 12, 26, 27, 28, 29, 37, 38, 39, 40] (by decide +kernel) (by decide +kernel)
set_option maxRecDepth 20000 in
theorem gX5_kind_X1_kindAt : GoodIn wsX5_kind (wsV RX5 142 RX1 yX1_kindAt wsX1_kindAt) := goodIn_app (goodIn_of _ (by decide +kernel)) ggX5_kind_X1_kindAt
theorem dX5_kind_0 : decode cX5_kind 0 = .ok (.aload_n 0, 1) := by decide +kernel
theorem dX5_kind_1 : decode cX5_kind 1 = .ok (.getfield 12, 3) := by decide +kernel
theorem dX5_kind_4 : decode cX5_kind 4 = .ok (.iload_n 1, 1) := by decide +kernel
theorem dX5_kind_5 : decode cX5_kind 5 = .ok (.invokevirtual 74, 3) := by decide +kernel
theorem dX5_kind_8 : decode cX5_kind 8 = .ok (.ifCond .ne 5, 3) := by decide +kernel
theorem dX5_kind_11 : decode cX5_kind 11 = .ok (.iconst (-1), 1) := by decide +kernel
theorem dX5_kind_12 : decode cX5_kind 12 = .ok (.ireturn, 1) := by decide +kernel
theorem dX5_kind_13 : decode cX5_kind 13 = .ok (.aload_n 0, 1) := by decide +kernel
theorem dX5_kind_14 : decode cX5_kind 14 = .ok (.getfield 12, 3) := by decide +kernel
theorem dX5_kind_17 : decode cX5_kind 17 = .ok (.iload_n 1, 1) := by decide +kernel
theorem dX5_kind_18 : decode cX5_kind 18 = .ok (.invokevirtual 142, 3) := by decide +kernel
theorem dX5_kind_21 : decode cX5_kind 21 = .ok (.ireturn, 1) := by decide +kernel
set_option maxRecDepth 20000 in
theorem ggX5_unlike_X1_leastFar : GoodIn wsX5_unlike wsX1_leastFar := goodIn_r _ [6, 7, 8, 9, 5, 10, 11, 12, 13, 14, 15, 16, 17, 18, 19, 20, 21, 22, 23, 24, 25, 26, 27, 28, 29, 30, 31, 32, 33, 34, 35, 36, 37, 38, 39, 40, 41, 42, 50, 51, 52, 53] (by decide +kernel) (by decide +kernel)
set_option maxRecDepth 20000 in
theorem gX5_unlike_X1_leastFar : GoodIn wsX5_unlike (wsV RX5 145 RX1 yX1_leastFar wsX1_leastFar) := goodIn_app (goodIn_of _ (by decide +kernel)) ggX5_unlike_X1_leastFar
theorem dX5_unlike_0 : decode cX5_unlike 0 = .ok (.aload_n 0, 1) := by decide +kernel
theorem dX5_unlike_1 : decode cX5_unlike 1 = .ok (.getfield 12, 3) := by decide +kernel
theorem dX5_unlike_4 : decode cX5_unlike 4 = .ok (.invokevirtual 145, 3) := by decide +kernel
theorem dX5_unlike_7 : decode cX5_unlike 7 = .ok (.istore_n 1, 1) := by decide +kernel
theorem dX5_unlike_8 : decode cX5_unlike 8 = .ok (.iload_n 1, 1) := by decide +kernel
theorem dX5_unlike_9 : decode cX5_unlike 9 = .ok (.bipush (-9), 2) := by decide +kernel
theorem dX5_unlike_11 : decode cX5_unlike 11 = .ok (.if_icmp .ne 8, 3) := by decide +kernel
theorem dX5_unlike_14 : decode cX5_unlike 14 = .ok (.bipush (-3), 2) := by decide +kernel
theorem dX5_unlike_16 : decode cX5_unlike 16 = .ok (.goto 4, 3) := by decide +kernel
theorem dX5_unlike_19 : decode cX5_unlike 19 = .ok (.iload_n 1, 1) := by decide +kernel
theorem dX5_unlike_20 : decode cX5_unlike 20 = .ok (.ireturn, 1) := by decide +kernel
set_option maxRecDepth 20000 in
theorem ggX5_traps_X1_pairsWithin : GoodIn wsX5_traps wsX1_pairsWithin := goodIn_r _ [6, 7, 8, 9, 5, 10, 11, 12, 13, 14, 15, 16, 17, 18, 19, 20, 21, 22, 23, 24, 25, 26, 27, 28, 29, 30, 31, 32, 33, 34, 35, 36, 37, 38, 39, 40, 41, 42, 50, 51, 52, 53] (by decide +kernel) (by decide +kernel)
set_option maxRecDepth 20000 in
theorem gX5_traps_X1_pairsWithin : GoodIn wsX5_traps (wsV RX5 148 RX1 yX1_pairsWithin wsX1_pairsWithin) := goodIn_app (goodIn_of _ (by decide +kernel)) ggX5_traps_X1_pairsWithin
theorem dX5_traps_0 : decode cX5_traps 0 = .ok (.iload_n 1, 1) := by decide +kernel
theorem dX5_traps_1 : decode cX5_traps 1 = .ok (.ifCond .ge 6, 3) := by decide +kernel
theorem dX5_traps_4 : decode cX5_traps 4 = .ok (.bipush (-2), 2) := by decide +kernel
theorem dX5_traps_6 : decode cX5_traps 6 = .ok (.ireturn, 1) := by decide +kernel
theorem dX5_traps_7 : decode cX5_traps 7 = .ok (.aload_n 0, 1) := by decide +kernel
theorem dX5_traps_8 : decode cX5_traps 8 = .ok (.getfield 12, 3) := by decide +kernel
theorem dX5_traps_11 : decode cX5_traps 11 = .ok (.iload_n 1, 1) := by decide +kernel
theorem dX5_traps_12 : decode cX5_traps 12 = .ok (.invokevirtual 148, 3) := by decide +kernel
theorem dX5_traps_15 : decode cX5_traps 15 = .ok (.ireturn, 1) := by decide +kernel
set_option maxRecDepth 20000 in
theorem ggX5_alike_X1_hasSide : GoodIn wsX5_alike wsX1_hasSide := goodIn_r _ [7, 8, 9, 10, 6, 11, 12, 13, 44, 45, 46, 47] (by decide +kernel) (by decide +kernel)
set_option maxRecDepth 20000 in
theorem gX5_alike_X1_hasSide : GoodIn wsX5_alike (wsV RX5 74 RX1 yX1_hasSide wsX1_hasSide) := goodIn_app (goodIn_of _ (by decide +kernel)) ggX5_alike_X1_hasSide
set_option maxRecDepth 20000 in
theorem ggX5_alike_X3_forgetJoined : GoodIn wsX5_alike wsX3_forgetJoined := goodIn_r _ [18, 19, 48, 49, 50, 51, 52, 53, 54, 55, 56, 57, 58, 59, 60] (by decide +kernel) (by decide +kernel)
set_option maxRecDepth 20000 in
theorem gX5_alike_X3_forgetJoined : GoodIn wsX5_alike (wsV RX5 55 RX3 yX3_forgetJoined wsX3_forgetJoined) := goodIn_app (goodIn_of _ (by decide +kernel)) ggX5_alike_X3_forgetJoined
set_option maxRecDepth 20000 in
theorem ggX5_alike_X1_giveShape : GoodIn wsX5_alike wsX1_giveShape := goodIn_r _ [23, 24, 25, 26, 6, 27, 28, 29, 30, 31, 32, 33, 34, 35, 36, 44, 45, 46, 47] (by decide +kernel) (by decide +kernel)
set_option maxRecDepth 20000 in
theorem gX5_alike_X1_giveShape : GoodIn wsX5_alike (wsV RX5 151 RX1 yX1_giveShape wsX1_giveShape) := goodIn_app (goodIn_of _ (by decide +kernel)) ggX5_alike_X1_giveShape
theorem dX5_alike_0 : decode cX5_alike 0 = .ok (.aload_n 0, 1) := by decide +kernel
theorem dX5_alike_1 : decode cX5_alike 1 = .ok (.getfield 12, 3) := by decide +kernel
theorem dX5_alike_4 : decode cX5_alike 4 = .ok (.iload_n 1, 1) := by decide +kernel
theorem dX5_alike_5 : decode cX5_alike 5 = .ok (.invokevirtual 74, 3) := by decide +kernel
theorem dX5_alike_8 : decode cX5_alike 8 = .ok (.ifCond .eq 14, 3) := by decide +kernel
theorem dX5_alike_11 : decode cX5_alike 11 = .ok (.aload_n 0, 1) := by decide +kernel
theorem dX5_alike_12 : decode cX5_alike 12 = .ok (.getfield 12, 3) := by decide +kernel
theorem dX5_alike_15 : decode cX5_alike 15 = .ok (.iload_n 2, 1) := by decide +kernel
theorem dX5_alike_16 : decode cX5_alike 16 = .ok (.invokevirtual 74, 3) := by decide +kernel
theorem dX5_alike_19 : decode cX5_alike 19 = .ok (.ifCond .ne 5, 3) := by decide +kernel
theorem dX5_alike_22 : decode cX5_alike 22 = .ok (.iconst (-1), 1) := by decide +kernel
theorem dX5_alike_23 : decode cX5_alike 23 = .ok (.ireturn, 1) := by decide +kernel
theorem dX5_alike_24 : decode cX5_alike 24 = .ok (.iload_n 3, 1) := by decide +kernel
theorem dX5_alike_25 : decode cX5_alike 25 = .ok (.ifCond .eq 11, 3) := by decide +kernel
theorem dX5_alike_28 : decode cX5_alike 28 = .ok (.iload_n 3, 1) := by decide +kernel
theorem dX5_alike_29 : decode cX5_alike 29 = .ok (.iconst 1, 1) := by decide +kernel
theorem dX5_alike_30 : decode cX5_alike 30 = .ok (.if_icmp .eq 6, 3) := by decide +kernel
theorem dX5_alike_33 : decode cX5_alike 33 = .ok (.bipush (-2), 2) := by decide +kernel
theorem dX5_alike_35 : decode cX5_alike 35 = .ok (.ireturn, 1) := by decide +kernel
theorem dX5_alike_36 : decode cX5_alike 36 = .ok (.iload_n 1, 1) := by decide +kernel
theorem dX5_alike_37 : decode cX5_alike 37 = .ok (.iload_n 2, 1) := by decide +kernel
theorem dX5_alike_38 : decode cX5_alike 38 = .ok (.if_icmp .ne 6, 3) := by decide +kernel
theorem dX5_alike_41 : decode cX5_alike 41 = .ok (.bipush (-3), 2) := by decide +kernel
theorem dX5_alike_43 : decode cX5_alike 43 = .ok (.ireturn, 1) := by decide +kernel
theorem dX5_alike_44 : decode cX5_alike 44 = .ok (.aload_n 0, 1) := by decide +kernel
theorem dX5_alike_45 : decode cX5_alike 45 = .ok (.getfield 30, 3) := by decide +kernel
theorem dX5_alike_48 : decode cX5_alike 48 = .ok (.invokevirtual 55, 3) := by decide +kernel
theorem dX5_alike_51 : decode cX5_alike 51 = .ok (.aload_n 0, 1) := by decide +kernel
theorem dX5_alike_52 : decode cX5_alike 52 = .ok (.getfield 12, 3) := by decide +kernel
theorem dX5_alike_55 : decode cX5_alike 55 = .ok (.iload_n 1, 1) := by decide +kernel
theorem dX5_alike_56 : decode cX5_alike 56 = .ok (.iload_n 2, 1) := by decide +kernel
theorem dX5_alike_57 : decode cX5_alike 57 = .ok (.iload_n 3, 1) := by decide +kernel
theorem dX5_alike_58 : decode cX5_alike 58 = .ok (.invokevirtual 151, 3) := by decide +kernel
theorem dX5_alike_61 : decode cX5_alike 61 = .ok (.ireturn, 1) := by decide +kernel
set_option maxRecDepth 20000 in
theorem ggX5_lay_X1_hasPiece : GoodIn wsX5_lay wsX1_hasPiece := goodIn_r _ [8, 9, 10, 11, 7, 12, 13, 14, 45, 46, 47, 48] (by decide +kernel) (by decide +kernel)
set_option maxRecDepth 20000 in
theorem gX5_lay_X1_hasPiece : GoodIn wsX5_lay (wsV RX5 154 RX1 yX1_hasPiece wsX1_hasPiece) := goodIn_app (goodIn_of _ (by decide +kernel)) ggX5_lay_X1_hasPiece
set_option maxRecDepth 20000 in
theorem ggX5_lay_X2_isFull : GoodIn wsX5_lay wsX2_isFull := goodIn_r _ [19, 20, 49, 50, 51] (by decide +kernel) (by decide +kernel)
set_option maxRecDepth 20000 in
theorem gX5_lay_X2_isFull : GoodIn wsX5_lay (wsV RX5 157 RX2 yX2_isFull wsX2_isFull) := goodIn_app (goodIn_of _ (by decide +kernel)) ggX5_lay_X2_isFull
set_option maxRecDepth 20000 in
theorem ggX5_lay_X2_append : GoodIn wsX5_lay wsX2_append := goodIn_r _ [24, 25, 20, 26, 27, 16, 17, 18, 19, 49, 50, 51] (by decide +kernel) (by decide +kernel)
set_option maxRecDepth 20000 in
theorem gX5_lay_X2_append : GoodIn wsX5_lay (wsV RX5 160 RX2 yX2_append wsX2_append) := goodIn_app (goodIn_of _ (by decide +kernel)) ggX5_lay_X2_append
set_option maxRecDepth 20000 in
theorem ggX5_lay_X3_forgetJoined : GoodIn wsX5_lay wsX3_forgetJoined := goodIn_r _ [32, 33, 52, 53, 54, 55, 56, 57, 58, 59, 60, 61, 62, 63, 64] (by decide +kernel) (by decide +kernel)
set_option maxRecDepth 20000 in
theorem gX5_lay_X3_forgetJoined : GoodIn wsX5_lay (wsV RX5 55 RX3 yX3_forgetJoined wsX3_forgetJoined) := goodIn_app (goodIn_of _ (by decide +kernel)) ggX5_lay_X3_forgetJoined
set_option maxRecDepth 20000 in
theorem ggX5_lay_X2_size : GoodIn wsX5_lay wsX2_size := goodIn_r _ [37, 20, 49, 50, 51] (by decide +kernel) (by decide +kernel)
set_option maxRecDepth 20000 in
theorem gX5_lay_X2_size : GoodIn wsX5_lay (wsV RX5 163 RX2 yX2_size wsX2_size) := goodIn_app (goodIn_of _ (by decide +kernel)) ggX5_lay_X2_size
theorem dX5_lay_0 : decode cX5_lay 0 = .ok (.aload_n 0, 1) := by decide +kernel
theorem dX5_lay_1 : decode cX5_lay 1 = .ok (.getfield 12, 3) := by decide +kernel
theorem dX5_lay_4 : decode cX5_lay 4 = .ok (.iload_n 1, 1) := by decide +kernel
theorem dX5_lay_5 : decode cX5_lay 5 = .ok (.invokevirtual 154, 3) := by decide +kernel
theorem dX5_lay_8 : decode cX5_lay 8 = .ok (.ifCond .ne 5, 3) := by decide +kernel
theorem dX5_lay_11 : decode cX5_lay 11 = .ok (.iconst (-1), 1) := by decide +kernel
theorem dX5_lay_12 : decode cX5_lay 12 = .ok (.ireturn, 1) := by decide +kernel
theorem dX5_lay_13 : decode cX5_lay 13 = .ok (.iload_n 2, 1) := by decide +kernel
theorem dX5_lay_14 : decode cX5_lay 14 = .ok (.ifCond .lt 8, 3) := by decide +kernel
theorem dX5_lay_17 : decode cX5_lay 17 = .ok (.iload_n 2, 1) := by decide +kernel
theorem dX5_lay_18 : decode cX5_lay 18 = .ok (.iconst 4, 1) := by decide +kernel
theorem dX5_lay_19 : decode cX5_lay 19 = .ok (.if_icmp .lt 6, 3) := by decide +kernel
theorem dX5_lay_22 : decode cX5_lay 22 = .ok (.bipush (-2), 2) := by decide +kernel
theorem dX5_lay_24 : decode cX5_lay 24 = .ok (.ireturn, 1) := by decide +kernel
theorem dX5_lay_25 : decode cX5_lay 25 = .ok (.aload_n 0, 1) := by decide +kernel
theorem dX5_lay_26 : decode cX5_lay 26 = .ok (.getfield 21, 3) := by decide +kernel
theorem dX5_lay_29 : decode cX5_lay 29 = .ok (.invokevirtual 157, 3) := by decide +kernel
theorem dX5_lay_32 : decode cX5_lay 32 = .ok (.ifCond .eq 6, 3) := by decide +kernel
theorem dX5_lay_35 : decode cX5_lay 35 = .ok (.bipush (-4), 2) := by decide +kernel
theorem dX5_lay_37 : decode cX5_lay 37 = .ok (.ireturn, 1) := by decide +kernel
theorem dX5_lay_38 : decode cX5_lay 38 = .ok (.aload_n 0, 1) := by decide +kernel
theorem dX5_lay_39 : decode cX5_lay 39 = .ok (.getfield 21, 3) := by decide +kernel
theorem dX5_lay_42 : decode cX5_lay 42 = .ok (.iload_n 1, 1) := by decide +kernel
theorem dX5_lay_43 : decode cX5_lay 43 = .ok (.iload_n 2, 1) := by decide +kernel
theorem dX5_lay_44 : decode cX5_lay 44 = .ok (.invokevirtual 160, 3) := by decide +kernel
theorem dX5_lay_47 : decode cX5_lay 47 = .ok (.aload_n 0, 1) := by decide +kernel
theorem dX5_lay_48 : decode cX5_lay 48 = .ok (.getfield 30, 3) := by decide +kernel
theorem dX5_lay_51 : decode cX5_lay 51 = .ok (.invokevirtual 55, 3) := by decide +kernel
theorem dX5_lay_54 : decode cX5_lay 54 = .ok (.aload_n 0, 1) := by decide +kernel
theorem dX5_lay_55 : decode cX5_lay 55 = .ok (.getfield 21, 3) := by decide +kernel
theorem dX5_lay_58 : decode cX5_lay 58 = .ok (.invokevirtual 163, 3) := by decide +kernel
theorem dX5_lay_61 : decode cX5_lay 61 = .ok (.ireturn, 1) := by decide +kernel
set_option maxRecDepth 20000 in
theorem ggX5_heap_X2_clearAll : GoodIn wsX5_heap wsX2_clearAll := goodIn_r _ [9, 10, 71, 72, 73] (by decide +kernel) (by decide +kernel)
set_option maxRecDepth 20000 in
theorem gX5_heap_X2_clearAll : GoodIn wsX5_heap (wsV RX5 52 RX2 yX2_clearAll wsX2_clearAll) := goodIn_app (goodIn_of _ (by decide +kernel)) ggX5_heap_X2_clearAll
set_option maxRecDepth 20000 in
theorem ggX5_heap_X1_pieces : GoodIn wsX5_heap wsX1_pieces := goodIn_r _ [15, 16, 17, 74, 75, 76, 77] (by decide +kernel) (by decide +kernel)
set_option maxRecDepth 20000 in
theorem gX5_heap_X1_pieces : GoodIn wsX5_heap (wsV RX5 166 RX1 yX1_pieces wsX1_pieces) := goodIn_app (goodIn_of _ (by decide +kernel)) ggX5_heap_X1_pieces
set_option maxRecDepth 20000 in
theorem ggX5_heap_X2_append : GoodIn wsX5_heap wsX2_append := goodIn_r _ [21, 22, 10, 23, 24, 25, 26, 8, 27, 71, 72, 73] (by decide +kernel) (by decide +kernel)
set_option maxRecDepth 20000 in
theorem gX5_heap_X2_append : GoodIn wsX5_heap (wsV RX5 160 RX2 yX2_append wsX2_append) := goodIn_app (goodIn_of _ (by decide +kernel)) ggX5_heap_X2_append
set_option maxRecDepth 20000 in
theorem ggX5_heap_X0_begin : GoodIn wsX5_heap wsX0_begin := goodIn_r _ [32, 33, 78] (by decide +kernel) (by decide +kernel)
set_option maxRecDepth 20000 in
theorem gX5_heap_X0_begin : GoodIn wsX5_heap (wsV RX5 62 RX0 yX0_begin wsX0_begin) := goodIn_app (goodIn_of _ (by decide +kernel)) ggX5_heap_X0_begin
set_option maxRecDepth 20000 in
theorem ggX5_heap_X2_size : GoodIn wsX5_heap wsX2_size := goodIn_r _ [37, 10, 71, 72, 73] (by decide +kernel) (by decide +kernel)
set_option maxRecDepth 20000 in
theorem gX5_heap_X2_size : GoodIn wsX5_heap (wsV RX5 163 RX2 yX2_size wsX2_size) := goodIn_app (goodIn_of _ (by decide +kernel)) ggX5_heap_X2_size
set_option maxRecDepth 20000 in
theorem ggX5_heap_X0_below : GoodIn wsX5_heap wsX0_below := goodIn_r _ [41, 33, 42, 43, 44, 45, 78] (by decide +kernel) (by decide +kernel)
set_option maxRecDepth 20000 in
theorem gX5_heap_X0_below : GoodIn wsX5_heap (wsV RX5 66 RX0 yX0_below wsX0_below) := goodIn_app (goodIn_of _ (by decide +kernel)) ggX5_heap_X0_below
set_option maxRecDepth 20000 in
theorem ggX5_heap_X2_swapPieces : GoodIn wsX5_heap wsX2_swapPieces := goodIn_r _ [49, 22, 50, 51, 52, 8, 53, 10, 71, 72, 73] (by decide +kernel) (by decide +kernel)
set_option maxRecDepth 20000 in
theorem gX5_heap_X2_swapPieces : GoodIn wsX5_heap (wsV RX5 169 RX2 yX2_swapPieces wsX2_swapPieces) := goodIn_app (goodIn_of _ (by decide +kernel)) ggX5_heap_X2_swapPieces
set_option maxRecDepth 20000 in
theorem ggX5_heap_X2_setTurn : GoodIn wsX5_heap wsX2_setTurn := goodIn_r _ [57, 23, 50, 51, 52, 8, 53, 10, 71, 72, 73] (by decide +kernel) (by decide +kernel)
set_option maxRecDepth 20000 in
theorem gX5_heap_X2_setTurn : GoodIn wsX5_heap (wsV RX5 172 RX2 yX2_setTurn wsX2_setTurn) := goodIn_app (goodIn_of _ (by decide +kernel)) ggX5_heap_X2_setTurn
set_option maxRecDepth 20000 in
theorem ggX5_heap_X3_forgetJoined : GoodIn wsX5_heap wsX3_forgetJoined := goodIn_r _ [62, 63, 79, 80, 81, 82, 83, 84, 85, 86, 87, 88, 89, 90, 91] (by decide +kernel) (by decide +kernel)
set_option maxRecDepth 20000 in
theorem gX5_heap_X3_forgetJoined : GoodIn wsX5_heap (wsV RX5 55 RX3 yX3_forgetJoined wsX3_forgetJoined) := goodIn_app (goodIn_of _ (by decide +kernel)) ggX5_heap_X3_forgetJoined
theorem dX5_heap_0 : decode cX5_heap 0 = .ok (.aload_n 0, 1) := by decide +kernel
theorem dX5_heap_1 : decode cX5_heap 1 = .ok (.getfield 21, 3) := by decide +kernel
theorem dX5_heap_4 : decode cX5_heap 4 = .ok (.invokevirtual 52, 3) := by decide +kernel
theorem dX5_heap_7 : decode cX5_heap 7 = .ok (.iconst 0, 1) := by decide +kernel
theorem dX5_heap_8 : decode cX5_heap 8 = .ok (.istore_n 3, 1) := by decide +kernel
theorem dX5_heap_9 : decode cX5_heap 9 = .ok (.iload_n 3, 1) := by decide +kernel
theorem dX5_heap_10 : decode cX5_heap 10 = .ok (.aload_n 0, 1) := by decide +kernel
theorem dX5_heap_11 : decode cX5_heap 11 = .ok (.getfield 12, 3) := by decide +kernel
theorem dX5_heap_14 : decode cX5_heap 14 = .ok (.invokevirtual 166, 3) := by decide +kernel
theorem dX5_heap_17 : decode cX5_heap 17 = .ok (.if_icmp .ge 18, 3) := by decide +kernel
theorem dX5_heap_20 : decode cX5_heap 20 = .ok (.aload_n 0, 1) := by decide +kernel
theorem dX5_heap_21 : decode cX5_heap 21 = .ok (.getfield 21, 3) := by decide +kernel
theorem dX5_heap_24 : decode cX5_heap 24 = .ok (.iload_n 3, 1) := by decide +kernel
theorem dX5_heap_25 : decode cX5_heap 25 = .ok (.iconst 0, 1) := by decide +kernel
theorem dX5_heap_26 : decode cX5_heap 26 = .ok (.invokevirtual 160, 3) := by decide +kernel
theorem dX5_heap_29 : decode cX5_heap 29 = .ok (.iinc 3 1, 3) := by decide +kernel
theorem dX5_heap_32 : decode cX5_heap 32 = .ok (.goto (-23), 3) := by decide +kernel
theorem dX5_heap_35 : decode cX5_heap 35 = .ok (.aload_n 0, 1) := by decide +kernel
theorem dX5_heap_36 : decode cX5_heap 36 = .ok (.getfield 37, 3) := by decide +kernel
theorem dX5_heap_39 : decode cX5_heap 39 = .ok (.lload_n 1, 1) := by decide +kernel
theorem dX5_heap_40 : decode cX5_heap 40 = .ok (.invokevirtual 62, 3) := by decide +kernel
theorem dX5_heap_43 : decode cX5_heap 43 = .ok (.aload_n 0, 1) := by decide +kernel
theorem dX5_heap_44 : decode cX5_heap 44 = .ok (.getfield 21, 3) := by decide +kernel
theorem dX5_heap_47 : decode cX5_heap 47 = .ok (.invokevirtual 163, 3) := by decide +kernel
theorem dX5_heap_50 : decode cX5_heap 50 = .ok (.iconst 1, 1) := by decide +kernel
theorem dX5_heap_51 : decode cX5_heap 51 = .ok (.isub, 1) := by decide +kernel
theorem dX5_heap_52 : decode cX5_heap 52 = .ok (.istore_n 3, 1) := by decide +kernel
theorem dX5_heap_53 : decode cX5_heap 53 = .ok (.iload_n 3, 1) := by decide +kernel
theorem dX5_heap_54 : decode cX5_heap 54 = .ok (.iconst 1, 1) := by decide +kernel
theorem dX5_heap_55 : decode cX5_heap 55 = .ok (.if_icmp .lt 27, 3) := by decide +kernel
theorem dX5_heap_58 : decode cX5_heap 58 = .ok (.aload_n 0, 1) := by decide +kernel
theorem dX5_heap_59 : decode cX5_heap 59 = .ok (.getfield 21, 3) := by decide +kernel
theorem dX5_heap_62 : decode cX5_heap 62 = .ok (.iload_n 3, 1) := by decide +kernel
theorem dX5_heap_63 : decode cX5_heap 63 = .ok (.aload_n 0, 1) := by decide +kernel
theorem dX5_heap_64 : decode cX5_heap 64 = .ok (.getfield 37, 3) := by decide +kernel
theorem dX5_heap_67 : decode cX5_heap 67 = .ok (.iload_n 3, 1) := by decide +kernel
theorem dX5_heap_68 : decode cX5_heap 68 = .ok (.iconst 1, 1) := by decide +kernel
theorem dX5_heap_69 : decode cX5_heap 69 = .ok (.iadd, 1) := by decide +kernel
theorem dX5_heap_70 : decode cX5_heap 70 = .ok (.invokevirtual 66, 3) := by decide +kernel
theorem dX5_heap_73 : decode cX5_heap 73 = .ok (.invokevirtual 169, 3) := by decide +kernel
theorem dX5_heap_76 : decode cX5_heap 76 = .ok (.iinc 3 (-1), 3) := by decide +kernel
theorem dX5_heap_79 : decode cX5_heap 79 = .ok (.goto (-26), 3) := by decide +kernel
theorem dX5_heap_82 : decode cX5_heap 82 = .ok (.iconst 0, 1) := by decide +kernel
theorem dX5_heap_83 : decode cX5_heap 83 = .ok (.istore_n 3, 1) := by decide +kernel
theorem dX5_heap_84 : decode cX5_heap 84 = .ok (.iload_n 3, 1) := by decide +kernel
theorem dX5_heap_85 : decode cX5_heap 85 = .ok (.aload_n 0, 1) := by decide +kernel
theorem dX5_heap_86 : decode cX5_heap 86 = .ok (.getfield 21, 3) := by decide +kernel
theorem dX5_heap_89 : decode cX5_heap 89 = .ok (.invokevirtual 163, 3) := by decide +kernel
theorem dX5_heap_92 : decode cX5_heap 92 = .ok (.if_icmp .ge 25, 3) := by decide +kernel
theorem dX5_heap_95 : decode cX5_heap 95 = .ok (.aload_n 0, 1) := by decide +kernel
theorem dX5_heap_96 : decode cX5_heap 96 = .ok (.getfield 21, 3) := by decide +kernel
theorem dX5_heap_99 : decode cX5_heap 99 = .ok (.iload_n 3, 1) := by decide +kernel
theorem dX5_heap_100 : decode cX5_heap 100 = .ok (.aload_n 0, 1) := by decide +kernel
theorem dX5_heap_101 : decode cX5_heap 101 = .ok (.getfield 37, 3) := by decide +kernel
theorem dX5_heap_104 : decode cX5_heap 104 = .ok (.iconst 4, 1) := by decide +kernel
theorem dX5_heap_105 : decode cX5_heap 105 = .ok (.invokevirtual 66, 3) := by decide +kernel
theorem dX5_heap_108 : decode cX5_heap 108 = .ok (.invokevirtual 172, 3) := by decide +kernel
theorem dX5_heap_111 : decode cX5_heap 111 = .ok (.iinc 3 1, 3) := by decide +kernel
theorem dX5_heap_114 : decode cX5_heap 114 = .ok (.goto (-30), 3) := by decide +kernel
theorem dX5_heap_117 : decode cX5_heap 117 = .ok (.aload_n 0, 1) := by decide +kernel
theorem dX5_heap_118 : decode cX5_heap 118 = .ok (.getfield 30, 3) := by decide +kernel
theorem dX5_heap_121 : decode cX5_heap 121 = .ok (.invokevirtual 55, 3) := by decide +kernel
theorem dX5_heap_124 : decode cX5_heap 124 = .ok (.aload_n 0, 1) := by decide +kernel
theorem dX5_heap_125 : decode cX5_heap 125 = .ok (.getfield 21, 3) := by decide +kernel
theorem dX5_heap_128 : decode cX5_heap 128 = .ok (.invokevirtual 163, 3) := by decide +kernel
theorem dX5_heap_131 : decode cX5_heap 131 = .ok (.ireturn, 1) := by decide +kernel
set_option maxRecDepth 20000 in
theorem ggX5_take_X2_hasPlace : GoodIn wsX5_take wsX2_hasPlace := goodIn_r _ [7, 8, 33, 34, 35] (by decide +kernel) (by decide +kernel)
set_option maxRecDepth 20000 in
theorem gX5_take_X2_hasPlace : GoodIn wsX5_take (wsV RX5 175 RX2 yX2_hasPlace wsX2_hasPlace) := goodIn_app (goodIn_of _ (by decide +kernel)) ggX5_take_X2_hasPlace
set_option maxRecDepth 20000 in
theorem ggX5_take_X2_pieceAt : GoodIn wsX5_take wsX2_pieceAt := goodIn_r _ [12, 13, 14, 4, 5, 6, 7, 8, 33, 34, 35] (by decide +kernel) (by decide +kernel)
set_option maxRecDepth 20000 in
theorem gX5_take_X2_pieceAt : GoodIn wsX5_take (wsV RX5 178 RX2 yX2_pieceAt wsX2_pieceAt) := goodIn_app (goodIn_of _ (by decide +kernel)) ggX5_take_X2_pieceAt
set_option maxRecDepth 20000 in
theorem ggX5_take_X2_removeAt : GoodIn wsX5_take wsX2_removeAt := goodIn_r _ [18, 8, 13, 19, 14, 4, 5, 6, 7, 33, 34, 35] (by decide +kernel) (by decide +kernel)
set_option maxRecDepth 20000 in
theorem gX5_take_X2_removeAt : GoodIn wsX5_take (wsV RX5 181 RX2 yX2_removeAt wsX2_removeAt) := goodIn_app (goodIn_of _ (by decide +kernel)) ggX5_take_X2_removeAt
set_option maxRecDepth 20000 in
theorem ggX5_take_X3_forgetJoined : GoodIn wsX5_take wsX3_forgetJoined := goodIn_r _ [24, 25, 36, 37, 38, 39, 40, 41, 42, 43, 44, 45, 46, 47, 48] (by decide +kernel) (by decide +kernel)
set_option maxRecDepth 20000 in
theorem gX5_take_X3_forgetJoined : GoodIn wsX5_take (wsV RX5 55 RX3 yX3_forgetJoined wsX3_forgetJoined) := goodIn_app (goodIn_of _ (by decide +kernel)) ggX5_take_X3_forgetJoined
theorem dX5_take_0 : decode cX5_take 0 = .ok (.aload_n 0, 1) := by decide +kernel
theorem dX5_take_1 : decode cX5_take 1 = .ok (.getfield 21, 3) := by decide +kernel
theorem dX5_take_4 : decode cX5_take 4 = .ok (.iload_n 1, 1) := by decide +kernel
theorem dX5_take_5 : decode cX5_take 5 = .ok (.invokevirtual 175, 3) := by decide +kernel
theorem dX5_take_8 : decode cX5_take 8 = .ok (.ifCond .ne 5, 3) := by decide +kernel
theorem dX5_take_11 : decode cX5_take 11 = .ok (.iconst (-1), 1) := by decide +kernel
theorem dX5_take_12 : decode cX5_take 12 = .ok (.ireturn, 1) := by decide +kernel
theorem dX5_take_13 : decode cX5_take 13 = .ok (.aload_n 0, 1) := by decide +kernel
theorem dX5_take_14 : decode cX5_take 14 = .ok (.getfield 21, 3) := by decide +kernel
theorem dX5_take_17 : decode cX5_take 17 = .ok (.iload_n 1, 1) := by decide +kernel
theorem dX5_take_18 : decode cX5_take 18 = .ok (.invokevirtual 178, 3) := by decide +kernel
theorem dX5_take_21 : decode cX5_take 21 = .ok (.istore_n 2, 1) := by decide +kernel
theorem dX5_take_22 : decode cX5_take 22 = .ok (.aload_n 0, 1) := by decide +kernel
theorem dX5_take_23 : decode cX5_take 23 = .ok (.getfield 21, 3) := by decide +kernel
theorem dX5_take_26 : decode cX5_take 26 = .ok (.iload_n 1, 1) := by decide +kernel
theorem dX5_take_27 : decode cX5_take 27 = .ok (.invokevirtual 181, 3) := by decide +kernel
theorem dX5_take_30 : decode cX5_take 30 = .ok (.aload_n 0, 1) := by decide +kernel
theorem dX5_take_31 : decode cX5_take 31 = .ok (.getfield 30, 3) := by decide +kernel
theorem dX5_take_34 : decode cX5_take 34 = .ok (.invokevirtual 55, 3) := by decide +kernel
theorem dX5_take_37 : decode cX5_take 37 = .ok (.iload_n 2, 1) := by decide +kernel
theorem dX5_take_38 : decode cX5_take 38 = .ok (.ireturn, 1) := by decide +kernel
set_option maxRecDepth 20000 in
theorem ggX5_heaped_X2_hasPlace : GoodIn wsX5_heaped wsX2_hasPlace := goodIn_r _ [6, 7, 26, 27, 28] (by decide +kernel) (by decide +kernel)
set_option maxRecDepth 20000 in
theorem gX5_heaped_X2_hasPlace : GoodIn wsX5_heaped (wsV RX5 175 RX2 yX2_hasPlace wsX2_hasPlace) := goodIn_app (goodIn_of _ (by decide +kernel)) ggX5_heaped_X2_hasPlace
set_option maxRecDepth 20000 in
theorem ggX5_heaped_X2_pieceAt : GoodIn wsX5_heaped wsX2_pieceAt := goodIn_r _ [11, 12, 13, 3, 4, 5, 6, 7, 26, 27, 28] (by decide +kernel) (by decide +kernel)
set_option maxRecDepth 20000 in
theorem gX5_heaped_X2_pieceAt : GoodIn wsX5_heaped (wsV RX5 178 RX2 yX2_pieceAt wsX2_pieceAt) := goodIn_app (goodIn_of _ (by decide +kernel)) ggX5_heaped_X2_pieceAt
set_option maxRecDepth 20000 in
theorem ggX5_heaped_X2_turnAt : GoodIn wsX5_heaped wsX2_turnAt := goodIn_r _ [17, 18, 13, 3, 4, 5, 6, 7, 26, 27, 28] (by decide +kernel) (by decide +kernel)
set_option maxRecDepth 20000 in
theorem gX5_heaped_X2_turnAt : GoodIn wsX5_heaped (wsV RX5 185 RX2 yX2_turnAt wsX2_turnAt) := goodIn_app (goodIn_of _ (by decide +kernel)) ggX5_heaped_X2_turnAt
theorem dX5_heaped_0 : decode cX5_heaped 0 = .ok (.aload_n 0, 1) := by decide +kernel
theorem dX5_heaped_1 : decode cX5_heaped 1 = .ok (.getfield 21, 3) := by decide +kernel
theorem dX5_heaped_4 : decode cX5_heaped 4 = .ok (.iload_n 1, 1) := by decide +kernel
theorem dX5_heaped_5 : decode cX5_heaped 5 = .ok (.invokevirtual 175, 3) := by decide +kernel
theorem dX5_heaped_8 : decode cX5_heaped 8 = .ok (.ifCond .ne 5, 3) := by decide +kernel
theorem dX5_heaped_11 : decode cX5_heaped 11 = .ok (.iconst (-1), 1) := by decide +kernel
theorem dX5_heaped_12 : decode cX5_heaped 12 = .ok (.ireturn, 1) := by decide +kernel
theorem dX5_heaped_13 : decode cX5_heaped 13 = .ok (.iload_n 2, 1) := by decide +kernel
theorem dX5_heaped_14 : decode cX5_heaped 14 = .ok (.lookupswitch 44 #[(0, 26), (1, 35)], 26) := by decide +kernel
theorem dX5_heaped_40 : decode cX5_heaped 40 = .ok (.aload_n 0, 1) := by decide +kernel
theorem dX5_heaped_41 : decode cX5_heaped 41 = .ok (.getfield 21, 3) := by decide +kernel
theorem dX5_heaped_44 : decode cX5_heaped 44 = .ok (.iload_n 1, 1) := by decide +kernel
theorem dX5_heaped_45 : decode cX5_heaped 45 = .ok (.invokevirtual 178, 3) := by decide +kernel
theorem dX5_heaped_48 : decode cX5_heaped 48 = .ok (.ireturn, 1) := by decide +kernel
theorem dX5_heaped_49 : decode cX5_heaped 49 = .ok (.aload_n 0, 1) := by decide +kernel
theorem dX5_heaped_50 : decode cX5_heaped 50 = .ok (.getfield 21, 3) := by decide +kernel
theorem dX5_heaped_53 : decode cX5_heaped 53 = .ok (.iload_n 1, 1) := by decide +kernel
theorem dX5_heaped_54 : decode cX5_heaped 54 = .ok (.invokevirtual 185, 3) := by decide +kernel
theorem dX5_heaped_57 : decode cX5_heaped 57 = .ok (.ireturn, 1) := by decide +kernel
theorem dX5_heaped_58 : decode cX5_heaped 58 = .ok (.bipush (-2), 2) := by decide +kernel
theorem dX5_heaped_60 : decode cX5_heaped 60 = .ok (.ireturn, 1) := by decide +kernel
set_option maxRecDepth 20000 in
theorem ggX5_missing_X5_isMissingWhat : GoodIn wsX5_missing wsX5_isMissingWhat := goodIn_r _ [4] (by decide +kernel) (by decide +kernel)
set_option maxRecDepth 20000 in
theorem gX5_missing_X5_isMissingWhat : GoodIn wsX5_missing (va_wsS RX5 188 yX5_isMissingWhat wsX5_isMissingWhat) := goodIn_app (goodIn_of _ (by decide +kernel)) ggX5_missing_X5_isMissingWhat
set_option maxRecDepth 20000 in
theorem ggX5_missing_X5_countMissing : GoodIn wsX5_missing wsX5_countMissing := goodIn_r _ [8, 9, 10, 11, 12, 13, 14, 15, 16, 17, 18, 19, 3, 20, 21, 22, 23, 24, 25, 26, 27, 28, 29, 30, 31, 32, 33, 34, 35, 36, 37, 38, 39, 40, 41, 42] (by decide +kernel) (by decide +kernel)
set_option maxRecDepth 20000 in
theorem gX5_missing_X5_countMissing : GoodIn wsX5_missing (wsV RX5 191 RX5 yX5_countMissing wsX5_countMissing) := goodIn_app (goodIn_of _ (by decide +kernel)) ggX5_missing_X5_countMissing
theorem dX5_missing_0 : decode cX5_missing 0 = .ok (.iload_n 1, 1) := by decide +kernel
theorem dX5_missing_1 : decode cX5_missing 1 = .ok (.invokestatic 188, 3) := by decide +kernel
theorem dX5_missing_4 : decode cX5_missing 4 = .ok (.ifCond .ne 6, 3) := by decide +kernel
theorem dX5_missing_7 : decode cX5_missing 7 = .ok (.bipush (-2), 2) := by decide +kernel
theorem dX5_missing_9 : decode cX5_missing 9 = .ok (.ireturn, 1) := by decide +kernel
theorem dX5_missing_10 : decode cX5_missing 10 = .ok (.aload_n 0, 1) := by decide +kernel
theorem dX5_missing_11 : decode cX5_missing 11 = .ok (.iload_n 1, 1) := by decide +kernel
theorem dX5_missing_12 : decode cX5_missing 12 = .ok (.invokevirtual 191, 3) := by decide +kernel
theorem dX5_missing_15 : decode cX5_missing 15 = .ok (.ireturn, 1) := by decide +kernel
set_option maxRecDepth 20000 in
theorem ggX5_missed_X5_isMissingWhat : GoodIn wsX5_missed wsX5_isMissingWhat := goodIn_r _ [4] (by decide +kernel) (by decide +kernel)
set_option maxRecDepth 20000 in
theorem gX5_missed_X5_isMissingWhat : GoodIn wsX5_missed (va_wsS RX5 188 yX5_isMissingWhat wsX5_isMissingWhat) := goodIn_app (goodIn_of _ (by decide +kernel)) ggX5_missed_X5_isMissingWhat
set_option maxRecDepth 20000 in
theorem ggX5_missed_X5_missingPiece : GoodIn wsX5_missed wsX5_missingPiece := goodIn_r _ [8, 9, 10, 11, 12, 13, 14, 15, 16, 17, 18, 19, 3, 20, 21, 22, 23, 24, 25, 26, 27, 28, 29, 30, 31, 32, 33, 34, 35, 36, 37, 38, 39, 40, 41, 42] (by decide +kernel) (by decide +kernel)
set_option maxRecDepth 20000 in
theorem gX5_missed_X5_missingPiece : GoodIn wsX5_missed (wsV RX5 194 RX5 yX5_missingPiece wsX5_missingPiece) := goodIn_app (goodIn_of _ (by decide +kernel)) ggX5_missed_X5_missingPiece
theorem dX5_missed_0 : decode cX5_missed 0 = .ok (.iload_n 2, 1) := by decide +kernel
theorem dX5_missed_1 : decode cX5_missed 1 = .ok (.ifCond .ge 5, 3) := by decide +kernel
theorem dX5_missed_4 : decode cX5_missed 4 = .ok (.iconst (-1), 1) := by decide +kernel
theorem dX5_missed_5 : decode cX5_missed 5 = .ok (.ireturn, 1) := by decide +kernel
theorem dX5_missed_6 : decode cX5_missed 6 = .ok (.iload_n 1, 1) := by decide +kernel
theorem dX5_missed_7 : decode cX5_missed 7 = .ok (.invokestatic 188, 3) := by decide +kernel
theorem dX5_missed_10 : decode cX5_missed 10 = .ok (.ifCond .ne 6, 3) := by decide +kernel
theorem dX5_missed_13 : decode cX5_missed 13 = .ok (.bipush (-2), 2) := by decide +kernel
theorem dX5_missed_15 : decode cX5_missed 15 = .ok (.ireturn, 1) := by decide +kernel
theorem dX5_missed_16 : decode cX5_missed 16 = .ok (.aload_n 0, 1) := by decide +kernel
theorem dX5_missed_17 : decode cX5_missed 17 = .ok (.iload_n 1, 1) := by decide +kernel
theorem dX5_missed_18 : decode cX5_missed 18 = .ok (.iload_n 2, 1) := by decide +kernel
theorem dX5_missed_19 : decode cX5_missed 19 = .ok (.invokevirtual 194, 3) := by decide +kernel
theorem dX5_missed_22 : decode cX5_missed 22 = .ok (.ireturn, 1) := by decide +kernel
set_option maxRecDepth 20000 in
theorem ggX5_ways_X3_countWays : GoodIn wsX5_ways wsX3_countWays := goodIn_r _ [6, 7, 8, 9, 10, 11, 5, 12, 13, 14, 15, 16, 17, 18, 19, 20, 21, 22, 23, 24, 25, 26, 27, 28, 29, 30, 31, 32, 33, 34, 35, 36, 37, 38, 39, 40, 41, 42, 43, 44, 45, 46, 47, 48, 49, 50, 51, 52, 53, 54, 55, 56, 57, 58, 59, 60, 61, 62, 63, 64, 65, 66, 67, 68, 69, 70, 71, 72, 73, 74, 75, 76, 77, 78, 79, 80, 81, 82, 83, 84, 85, 86, 87, 88, 89, 90, 91, 92, 93, 94, 95, 103, 104, 105, 106, 107, 108, 109, 110, 111, 112, 113, 114, 115, 116, 117, 118, 119, 120, 121, 122] (by decide +kernel) (by decide +kernel)
set_option maxRecDepth 20000 in
theorem gX5_ways_X3_countWays : GoodIn wsX5_ways (wsV RX5 197 RX3 yX3_countWays wsX3_countWays) := goodIn_app (goodIn_of _ (by decide +kernel)) ggX5_ways_X3_countWays
theorem dX5_ways_0 : decode cX5_ways 0 = .ok (.aload_n 0, 1) := by decide +kernel
theorem dX5_ways_1 : decode cX5_ways 1 = .ok (.getfield 30, 3) := by decide +kernel
theorem dX5_ways_4 : decode cX5_ways 4 = .ok (.invokevirtual 197, 3) := by decide +kernel
theorem dX5_ways_7 : decode cX5_ways 7 = .ok (.ireturn, 1) := by decide +kernel
set_option maxRecDepth 20000 in
theorem ggX5_join_X3_findFirst : GoodIn wsX5_join wsX3_findFirst := goodIn_r _ [6, 7, 8, 9, 10, 11, 12, 13, 14, 15, 5, 16, 17, 18, 19, 20, 21, 22, 23, 24, 25, 26, 27, 28, 29, 30, 31, 32, 33, 34, 35, 36, 37, 38, 39, 40, 41, 42, 43, 44, 45, 46, 47, 48, 49, 50, 51, 52, 53, 54, 55, 56, 57, 58, 59, 60, 61, 62, 63, 64, 65, 66, 67, 68, 69, 70, 71, 72, 73, 74, 75, 76, 77, 78, 79, 80, 81, 82, 83, 84, 85, 86, 87, 88, 89, 90, 91, 92, 93, 94, 95, 96, 97, 105, 106, 107, 108, 109, 110, 111, 112, 113, 114, 115, 116, 117, 118, 119, 120, 121, 122, 123, 124] (by decide +kernel) (by decide +kernel)
set_option maxRecDepth 20000 in
theorem gX5_join_X3_findFirst : GoodIn wsX5_join (wsV RX5 200 RX3 yX3_findFirst wsX3_findFirst) := goodIn_app (goodIn_of _ (by decide +kernel)) ggX5_join_X3_findFirst
theorem dX5_join_0 : decode cX5_join 0 = .ok (.aload_n 0, 1) := by decide +kernel
theorem dX5_join_1 : decode cX5_join 1 = .ok (.getfield 30, 3) := by decide +kernel
theorem dX5_join_4 : decode cX5_join 4 = .ok (.invokevirtual 200, 3) := by decide +kernel
theorem dX5_join_7 : decode cX5_join 7 = .ok (.ireturn, 1) := by decide +kernel
set_option maxRecDepth 20000 in
theorem ggX5_joined_X3_hasJoined : GoodIn wsX5_joined wsX3_hasJoined := goodIn_r _ [7, 8, 38, 39, 40, 41, 42, 43, 44, 45, 46, 47, 48, 49, 50] (by decide +kernel) (by decide +kernel)
set_option maxRecDepth 20000 in
theorem gX5_joined_X3_hasJoined : GoodIn wsX5_joined (wsV RX5 203 RX3 yX3_hasJoined wsX3_hasJoined) := goodIn_app (goodIn_of _ (by decide +kernel)) ggX5_joined_X3_hasJoined
set_option maxRecDepth 20000 in
theorem ggX5_joined_X1_hasPiece : GoodIn wsX5_joined wsX1_hasPiece := goodIn_r _ [13, 14, 15, 16, 12, 17, 18, 19, 51, 52, 53, 54] (by decide +kernel) (by decide +kernel)
set_option maxRecDepth 20000 in
theorem gX5_joined_X1_hasPiece : GoodIn wsX5_joined (wsV RX5 154 RX1 yX1_hasPiece wsX1_hasPiece) := goodIn_app (goodIn_of _ (by decide +kernel)) ggX5_joined_X1_hasPiece
set_option maxRecDepth 20000 in
theorem ggX5_joined_X3_joinedFrom : GoodIn wsX5_joined wsX3_joinedFrom := goodIn_r _ [23, 24, 25, 26, 10, 11, 12, 13, 14, 15, 16, 17, 18, 19, 38, 39, 40, 41, 42, 43, 44, 45, 46, 47, 48, 49, 50, 51, 52, 53, 54] (by decide +kernel) (by decide +kernel)
set_option maxRecDepth 20000 in
theorem gX5_joined_X3_joinedFrom : GoodIn wsX5_joined (wsV RX5 206 RX3 yX3_joinedFrom wsX3_joinedFrom) := goodIn_app (goodIn_of _ (by decide +kernel)) ggX5_joined_X3_joinedFrom
set_option maxRecDepth 20000 in
theorem ggX5_joined_X3_joinedTurn : GoodIn wsX5_joined wsX3_joinedTurn := goodIn_r _ [30, 24, 25, 26, 10, 11, 12, 13, 14, 15, 16, 17, 18, 19, 38, 39, 40, 41, 42, 43, 44, 45, 46, 47, 48, 49, 50, 51, 52, 53, 54] (by decide +kernel) (by decide +kernel)
set_option maxRecDepth 20000 in
theorem gX5_joined_X3_joinedTurn : GoodIn wsX5_joined (wsV RX5 209 RX3 yX3_joinedTurn wsX3_joinedTurn) := goodIn_app (goodIn_of _ (by decide +kernel)) ggX5_joined_X3_joinedTurn
theorem dX5_joined_0 : decode cX5_joined 0 = .ok (.aload_n 0, 1) := by decide +kernel
theorem dX5_joined_1 : decode cX5_joined 1 = .ok (.getfield 30, 3) := by decide +kernel
theorem dX5_joined_4 : decode cX5_joined 4 = .ok (.invokevirtual 203, 3) := by decide +kernel
theorem dX5_joined_7 : decode cX5_joined 7 = .ok (.ifCond .ne 6, 3) := by decide +kernel
theorem dX5_joined_10 : decode cX5_joined 10 = .ok (.bipush (-3), 2) := by decide +kernel
theorem dX5_joined_12 : decode cX5_joined 12 = .ok (.ireturn, 1) := by decide +kernel
theorem dX5_joined_13 : decode cX5_joined 13 = .ok (.aload_n 0, 1) := by decide +kernel
theorem dX5_joined_14 : decode cX5_joined 14 = .ok (.getfield 12, 3) := by decide +kernel
theorem dX5_joined_17 : decode cX5_joined 17 = .ok (.iload_n 1, 1) := by decide +kernel
theorem dX5_joined_18 : decode cX5_joined 18 = .ok (.invokevirtual 154, 3) := by decide +kernel
theorem dX5_joined_21 : decode cX5_joined 21 = .ok (.ifCond .ne 5, 3) := by decide +kernel
theorem dX5_joined_24 : decode cX5_joined 24 = .ok (.iconst (-1), 1) := by decide +kernel
theorem dX5_joined_25 : decode cX5_joined 25 = .ok (.ireturn, 1) := by decide +kernel
theorem dX5_joined_26 : decode cX5_joined 26 = .ok (.iload_n 2, 1) := by decide +kernel
theorem dX5_joined_27 : decode cX5_joined 27 = .ok (.lookupswitch 43 #[(0, 25), (1, 34)], 25) := by decide +kernel
theorem dX5_joined_52 : decode cX5_joined 52 = .ok (.aload_n 0, 1) := by decide +kernel
theorem dX5_joined_53 : decode cX5_joined 53 = .ok (.getfield 30, 3) := by decide +kernel
theorem dX5_joined_56 : decode cX5_joined 56 = .ok (.iload_n 1, 1) := by decide +kernel
theorem dX5_joined_57 : decode cX5_joined 57 = .ok (.invokevirtual 206, 3) := by decide +kernel
theorem dX5_joined_60 : decode cX5_joined 60 = .ok (.ireturn, 1) := by decide +kernel
theorem dX5_joined_61 : decode cX5_joined 61 = .ok (.aload_n 0, 1) := by decide +kernel
theorem dX5_joined_62 : decode cX5_joined 62 = .ok (.getfield 30, 3) := by decide +kernel
theorem dX5_joined_65 : decode cX5_joined 65 = .ok (.iload_n 1, 1) := by decide +kernel
theorem dX5_joined_66 : decode cX5_joined 66 = .ok (.invokevirtual 209, 3) := by decide +kernel
theorem dX5_joined_69 : decode cX5_joined 69 = .ok (.ireturn, 1) := by decide +kernel
theorem dX5_joined_70 : decode cX5_joined 70 = .ok (.bipush (-2), 2) := by decide +kernel
theorem dX5_joined_72 : decode cX5_joined 72 = .ok (.ireturn, 1) := by decide +kernel
set_option maxRecDepth 20000 in
theorem ggX5_trials_X3_trialsCounted : GoodIn wsX5_trials wsX3_trialsCounted := goodIn_r _ [6, 7, 15, 16, 17, 18, 19, 20, 21, 22, 23, 24, 25, 26, 27] (by decide +kernel) (by decide +kernel)
set_option maxRecDepth 20000 in
theorem gX5_trials_X3_trialsCounted : GoodIn wsX5_trials (wsV RX5 212 RX3 yX3_trialsCounted wsX3_trialsCounted) := goodIn_app (goodIn_of _ (by decide +kernel)) ggX5_trials_X3_trialsCounted
theorem dX5_trials_0 : decode cX5_trials 0 = .ok (.aload_n 0, 1) := by decide +kernel
theorem dX5_trials_1 : decode cX5_trials 1 = .ok (.getfield 30, 3) := by decide +kernel
theorem dX5_trials_4 : decode cX5_trials 4 = .ok (.invokevirtual 212, 3) := by decide +kernel
theorem dX5_trials_7 : decode cX5_trials 7 = .ok (.ireturn, 1) := by decide +kernel
set_option maxRecDepth 20000 in
theorem ggX5_known_X1_hasPiece : GoodIn wsX5_known wsX1_hasPiece := goodIn_r _ [7, 8, 9, 10, 6, 11, 12, 13, 41, 42, 43, 44] (by decide +kernel) (by decide +kernel)
set_option maxRecDepth 20000 in
theorem gX5_known_X1_hasPiece : GoodIn wsX5_known (wsV RX5 154 RX1 yX1_hasPiece wsX1_hasPiece) := goodIn_app (goodIn_of _ (by decide +kernel)) ggX5_known_X1_hasPiece
set_option maxRecDepth 20000 in
theorem ggX5_known_X2_timesOf : GoodIn wsX5_known wsX2_timesOf := goodIn_r _ [18, 19, 20, 45, 46, 47] (by decide +kernel) (by decide +kernel)
set_option maxRecDepth 20000 in
theorem gX5_known_X2_timesOf : GoodIn wsX5_known (wsV RX5 215 RX2 yX2_timesOf wsX2_timesOf) := goodIn_app (goodIn_of _ (by decide +kernel)) ggX5_known_X2_timesOf
set_option maxRecDepth 20000 in
theorem ggX5_known_X1_isFlat : GoodIn wsX5_known wsX1_isFlat := goodIn_r _ [24, 25, 26, 27, 6, 28, 29, 41, 42, 43, 44] (by decide +kernel) (by decide +kernel)
set_option maxRecDepth 20000 in
theorem gX5_known_X1_isFlat : GoodIn wsX5_known (wsV RX5 132 RX1 yX1_isFlat wsX1_isFlat) := goodIn_app (goodIn_of _ (by decide +kernel)) ggX5_known_X1_isFlat
set_option maxRecDepth 20000 in
theorem ggX5_known_X1_nextTo : GoodIn wsX5_known wsX1_nextTo := goodIn_r _ [33, 12, 41, 42, 43, 44] (by decide +kernel) (by decide +kernel)
set_option maxRecDepth 20000 in
theorem gX5_known_X1_nextTo : GoodIn wsX5_known (wsV RX5 218 RX1 yX1_nextTo wsX1_nextTo) := goodIn_app (goodIn_of _ (by decide +kernel)) ggX5_known_X1_nextTo
theorem dX5_known_0 : decode cX5_known 0 = .ok (.aload_n 0, 1) := by decide +kernel
theorem dX5_known_1 : decode cX5_known 1 = .ok (.getfield 12, 3) := by decide +kernel
theorem dX5_known_4 : decode cX5_known 4 = .ok (.iload_n 1, 1) := by decide +kernel
theorem dX5_known_5 : decode cX5_known 5 = .ok (.invokevirtual 154, 3) := by decide +kernel
theorem dX5_known_8 : decode cX5_known 8 = .ok (.ifCond .ne 5, 3) := by decide +kernel
theorem dX5_known_11 : decode cX5_known 11 = .ok (.iconst (-1), 1) := by decide +kernel
theorem dX5_known_12 : decode cX5_known 12 = .ok (.ireturn, 1) := by decide +kernel
theorem dX5_known_13 : decode cX5_known 13 = .ok (.aload_n 0, 1) := by decide +kernel
theorem dX5_known_14 : decode cX5_known 14 = .ok (.getfield 21, 3) := by decide +kernel
theorem dX5_known_17 : decode cX5_known 17 = .ok (.iload_n 1, 1) := by decide +kernel
theorem dX5_known_18 : decode cX5_known 18 = .ok (.invokevirtual 215, 3) := by decide +kernel
theorem dX5_known_21 : decode cX5_known 21 = .ok (.ifCond .le 6, 3) := by decide +kernel
theorem dX5_known_24 : decode cX5_known 24 = .ok (.bipush (-3), 2) := by decide +kernel
theorem dX5_known_26 : decode cX5_known 26 = .ok (.ireturn, 1) := by decide +kernel
theorem dX5_known_27 : decode cX5_known 27 = .ok (.iconst 0, 1) := by decide +kernel
theorem dX5_known_28 : decode cX5_known 28 = .ok (.istore_n 2, 1) := by decide +kernel
theorem dX5_known_29 : decode cX5_known 29 = .ok (.iconst 0, 1) := by decide +kernel
theorem dX5_known_30 : decode cX5_known 30 = .ok (.istore_n 3, 1) := by decide +kernel
theorem dX5_known_31 : decode cX5_known 31 = .ok (.iload_n 3, 1) := by decide +kernel
theorem dX5_known_32 : decode cX5_known 32 = .ok (.iconst 4, 1) := by decide +kernel
theorem dX5_known_33 : decode cX5_known 33 = .ok (.if_icmp .ge 43, 3) := by decide +kernel
theorem dX5_known_36 : decode cX5_known 36 = .ok (.aload_n 0, 1) := by decide +kernel
theorem dX5_known_37 : decode cX5_known 37 = .ok (.getfield 12, 3) := by decide +kernel
theorem dX5_known_40 : decode cX5_known 40 = .ok (.iload_n 1, 1) := by decide +kernel
theorem dX5_known_41 : decode cX5_known 41 = .ok (.iload_n 3, 1) := by decide +kernel
theorem dX5_known_42 : decode cX5_known 42 = .ok (.invokevirtual 132, 3) := by decide +kernel
theorem dX5_known_45 : decode cX5_known 45 = .ok (.ifCond .ne 25, 3) := by decide +kernel
theorem dX5_known_48 : decode cX5_known 48 = .ok (.aload_n 0, 1) := by decide +kernel
theorem dX5_known_49 : decode cX5_known 49 = .ok (.getfield 21, 3) := by decide +kernel
theorem dX5_known_52 : decode cX5_known 52 = .ok (.aload_n 0, 1) := by decide +kernel
theorem dX5_known_53 : decode cX5_known 53 = .ok (.getfield 12, 3) := by decide +kernel
theorem dX5_known_56 : decode cX5_known 56 = .ok (.iload_n 1, 1) := by decide +kernel
theorem dX5_known_57 : decode cX5_known 57 = .ok (.iload_n 3, 1) := by decide +kernel
theorem dX5_known_58 : decode cX5_known 58 = .ok (.invokevirtual 218, 3) := by decide +kernel
theorem dX5_known_61 : decode cX5_known 61 = .ok (.invokevirtual 215, 3) := by decide +kernel
theorem dX5_known_64 : decode cX5_known 64 = .ok (.ifCond .le 6, 3) := by decide +kernel
theorem dX5_known_67 : decode cX5_known 67 = .ok (.iinc 2 5, 3) := by decide +kernel
theorem dX5_known_70 : decode cX5_known 70 = .ok (.iinc 3 1, 3) := by decide +kernel
theorem dX5_known_73 : decode cX5_known 73 = .ok (.goto (-42), 3) := by decide +kernel
theorem dX5_known_76 : decode cX5_known 76 = .ok (.iload_n 2, 1) := by decide +kernel
theorem dX5_known_77 : decode cX5_known 77 = .ok (.ireturn, 1) := by decide +kernel
set_option maxRecDepth 20000 in
theorem ggX5_sheet_X5_isSheet : GoodIn wsX5_sheet wsX5_isSheet := goodIn_r _ [6] (by decide +kernel) (by decide +kernel)
set_option maxRecDepth 20000 in
theorem gX5_sheet_X5_isSheet : GoodIn wsX5_sheet (va_wsS RX5 94 yX5_isSheet wsX5_isSheet) := goodIn_app (goodIn_of _ (by decide +kernel)) ggX5_sheet_X5_isSheet
set_option maxRecDepth 20000 in
theorem ggX5_sheet_X5_isLane : GoodIn wsX5_sheet wsX5_isLane := goodIn_r _ [9] (by decide +kernel) (by decide +kernel)
set_option maxRecDepth 20000 in
theorem gX5_sheet_X5_isLane : GoodIn wsX5_sheet (va_wsS RX5 97 yX5_isLane wsX5_isLane) := goodIn_app (goodIn_of _ (by decide +kernel)) ggX5_sheet_X5_isLane
set_option maxRecDepth 20000 in
theorem ggX5_sheet_X5_come : GoodIn wsX5_sheet wsX5_come := goodIn_r _ [13, 1, 30, 31, 32, 33, 34, 35, 36] (by decide +kernel) (by decide +kernel)
set_option maxRecDepth 20000 in
theorem gX5_sheet_X5_come : GoodIn wsX5_sheet (wsV RX5 103 RX5 yX5_come wsX5_come) := goodIn_app (goodIn_of _ (by decide +kernel)) ggX5_sheet_X5_come
set_option maxRecDepth 20000 in
theorem ggX5_sheet_X4_renew : GoodIn wsX5_sheet wsX4_renew := goodIn_r _ [18, 19, 20, 21, 22, 23, 24, 25, 26, 27, 28, 29, 37, 38, 39, 40] (by decide +kernel) (by decide +kernel)
set_option maxRecDepth 20000 in
theorem gX5_sheet_X4_renew : GoodIn wsX5_sheet (wsV RX5 221 RX4 yX4_renew wsX4_renew) := goodIn_app (goodIn_of _ (by decide +kernel)) ggX5_sheet_X4_renew
theorem dX5_sheet_0 : decode cX5_sheet 0 = .ok (.aload_n 0, 1) := by decide +kernel
theorem dX5_sheet_1 : decode cX5_sheet 1 = .ok (.iconst 0, 1) := by decide +kernel
theorem dX5_sheet_2 : decode cX5_sheet 2 = .ok (.putfield 90, 3) := by decide +kernel
theorem dX5_sheet_5 : decode cX5_sheet 5 = .ok (.iload_n 1, 1) := by decide +kernel
theorem dX5_sheet_6 : decode cX5_sheet 6 = .ok (.invokestatic 94, 3) := by decide +kernel
theorem dX5_sheet_9 : decode cX5_sheet 9 = .ok (.ifCond .ne 5, 3) := by decide +kernel
theorem dX5_sheet_12 : decode cX5_sheet 12 = .ok (.iconst (-1), 1) := by decide +kernel
theorem dX5_sheet_13 : decode cX5_sheet 13 = .ok (.ireturn, 1) := by decide +kernel
theorem dX5_sheet_14 : decode cX5_sheet 14 = .ok (.iload_n 2, 1) := by decide +kernel
theorem dX5_sheet_15 : decode cX5_sheet 15 = .ok (.invokestatic 97, 3) := by decide +kernel
theorem dX5_sheet_18 : decode cX5_sheet 18 = .ok (.ifCond .eq 9, 3) := by decide +kernel
theorem dX5_sheet_21 : decode cX5_sheet 21 = .ok (.iload_n 3, 1) := by decide +kernel
theorem dX5_sheet_22 : decode cX5_sheet 22 = .ok (.bipush 50, 2) := by decide +kernel
theorem dX5_sheet_24 : decode cX5_sheet 24 = .ok (.if_icmp .le 6, 3) := by decide +kernel
theorem dX5_sheet_27 : decode cX5_sheet 27 = .ok (.bipush (-2), 2) := by decide +kernel
theorem dX5_sheet_29 : decode cX5_sheet 29 = .ok (.ireturn, 1) := by decide +kernel
theorem dX5_sheet_30 : decode cX5_sheet 30 = .ok (.iload_n 3, 1) := by decide +kernel
theorem dX5_sheet_31 : decode cX5_sheet 31 = .ok (.ifCond .ge 9, 3) := by decide +kernel
theorem dX5_sheet_34 : decode cX5_sheet 34 = .ok (.aload_n 0, 1) := by decide +kernel
theorem dX5_sheet_35 : decode cX5_sheet 35 = .ok (.iconst 4, 1) := by decide +kernel
theorem dX5_sheet_36 : decode cX5_sheet 36 = .ok (.invokevirtual 103, 3) := by decide +kernel
theorem dX5_sheet_39 : decode cX5_sheet 39 = .ok (.ireturn, 1) := by decide +kernel
theorem dX5_sheet_40 : decode cX5_sheet 40 = .ok (.aload_n 0, 1) := by decide +kernel
theorem dX5_sheet_41 : decode cX5_sheet 41 = .ok (.getfield 43, 3) := by decide +kernel
theorem dX5_sheet_44 : decode cX5_sheet 44 = .ok (.iload_n 1, 1) := by decide +kernel
theorem dX5_sheet_45 : decode cX5_sheet 45 = .ok (.aaload, 1) := by decide +kernel
theorem dX5_sheet_46 : decode cX5_sheet 46 = .ok (.iload_n 2, 1) := by decide +kernel
theorem dX5_sheet_47 : decode cX5_sheet 47 = .ok (.iload_n 3, 1) := by decide +kernel
theorem dX5_sheet_48 : decode cX5_sheet 48 = .ok (.invokevirtual 221, 3) := by decide +kernel
theorem dX5_sheet_51 : decode cX5_sheet 51 = .ok (.iconst 1, 1) := by decide +kernel
theorem dX5_sheet_52 : decode cX5_sheet 52 = .ok (.ireturn, 1) := by decide +kernel
set_option maxRecDepth 20000 in
theorem ggX5_lose_X5_isSheet : GoodIn wsX5_lose wsX5_isSheet := goodIn_r _ [5] (by decide +kernel) (by decide +kernel)
set_option maxRecDepth 20000 in
theorem gX5_lose_X5_isSheet : GoodIn wsX5_lose (va_wsS RX5 94 yX5_isSheet wsX5_isSheet) := goodIn_app (goodIn_of _ (by decide +kernel)) ggX5_lose_X5_isSheet
set_option maxRecDepth 20000 in
theorem ggX5_lose_X4_isThere : GoodIn wsX5_lose wsX4_isThere := goodIn_r _ [10, 11, 24, 25, 26, 27] (by decide +kernel) (by decide +kernel)
set_option maxRecDepth 20000 in
theorem gX5_lose_X4_isThere : GoodIn wsX5_lose (wsV RX5 106 RX4 yX4_isThere wsX4_isThere) := goodIn_app (goodIn_of _ (by decide +kernel)) ggX5_lose_X4_isThere
set_option maxRecDepth 20000 in
theorem ggX5_lose_X4_drop : GoodIn wsX5_lose wsX4_drop := goodIn_r _ [15, 11, 16, 24, 25, 26, 27] (by decide +kernel) (by decide +kernel)
set_option maxRecDepth 20000 in
theorem gX5_lose_X4_drop : GoodIn wsX5_lose (wsV RX5 224 RX4 yX4_drop wsX4_drop) := goodIn_app (goodIn_of _ (by decide +kernel)) ggX5_lose_X4_drop
theorem dX5_lose_0 : decode cX5_lose 0 = .ok (.iload_n 1, 1) := by decide +kernel
theorem dX5_lose_1 : decode cX5_lose 1 = .ok (.invokestatic 94, 3) := by decide +kernel
theorem dX5_lose_4 : decode cX5_lose 4 = .ok (.ifCond .ne 5, 3) := by decide +kernel
theorem dX5_lose_7 : decode cX5_lose 7 = .ok (.iconst (-1), 1) := by decide +kernel
theorem dX5_lose_8 : decode cX5_lose 8 = .ok (.ireturn, 1) := by decide +kernel
theorem dX5_lose_9 : decode cX5_lose 9 = .ok (.aload_n 0, 1) := by decide +kernel
theorem dX5_lose_10 : decode cX5_lose 10 = .ok (.getfield 43, 3) := by decide +kernel
theorem dX5_lose_13 : decode cX5_lose 13 = .ok (.iload_n 1, 1) := by decide +kernel
theorem dX5_lose_14 : decode cX5_lose 14 = .ok (.aaload, 1) := by decide +kernel
theorem dX5_lose_15 : decode cX5_lose 15 = .ok (.invokevirtual 106, 3) := by decide +kernel
theorem dX5_lose_18 : decode cX5_lose 18 = .ok (.ifCond .eq 7, 3) := by decide +kernel
theorem dX5_lose_21 : decode cX5_lose 21 = .ok (.iconst 1, 1) := by decide +kernel
theorem dX5_lose_22 : decode cX5_lose 22 = .ok (.goto 4, 3) := by decide +kernel
theorem dX5_lose_25 : decode cX5_lose 25 = .ok (.iconst 0, 1) := by decide +kernel
theorem dX5_lose_26 : decode cX5_lose 26 = .ok (.istore_n 2, 1) := by decide +kernel
theorem dX5_lose_27 : decode cX5_lose 27 = .ok (.aload_n 0, 1) := by decide +kernel
theorem dX5_lose_28 : decode cX5_lose 28 = .ok (.getfield 43, 3) := by decide +kernel
theorem dX5_lose_31 : decode cX5_lose 31 = .ok (.iload_n 1, 1) := by decide +kernel
theorem dX5_lose_32 : decode cX5_lose 32 = .ok (.aaload, 1) := by decide +kernel
theorem dX5_lose_33 : decode cX5_lose 33 = .ok (.invokevirtual 224, 3) := by decide +kernel
theorem dX5_lose_36 : decode cX5_lose 36 = .ok (.iload_n 2, 1) := by decide +kernel
theorem dX5_lose_37 : decode cX5_lose 37 = .ok (.ireturn, 1) := by decide +kernel
set_option maxRecDepth 20000 in
theorem ggX5_put_X5_isSheet : GoodIn wsX5_put wsX5_isSheet := goodIn_r _ [6] (by decide +kernel) (by decide +kernel)
set_option maxRecDepth 20000 in
theorem gX5_put_X5_isSheet : GoodIn wsX5_put (va_wsS RX5 94 yX5_isSheet wsX5_isSheet) := goodIn_app (goodIn_of _ (by decide +kernel)) ggX5_put_X5_isSheet
set_option maxRecDepth 20000 in
theorem ggX5_put_X4_isThere : GoodIn wsX5_put wsX4_isThere := goodIn_r _ [11, 12, 40, 41, 42, 43] (by decide +kernel) (by decide +kernel)
set_option maxRecDepth 20000 in
theorem gX5_put_X4_isThere : GoodIn wsX5_put (wsV RX5 106 RX4 yX4_isThere wsX4_isThere) := goodIn_app (goodIn_of _ (by decide +kernel)) ggX5_put_X4_isThere
set_option maxRecDepth 20000 in
theorem ggX5_put_X5_come : GoodIn wsX5_put wsX5_come := goodIn_r _ [16, 1, 33, 34, 35, 36, 37, 38, 39] (by decide +kernel) (by decide +kernel)
set_option maxRecDepth 20000 in
theorem gX5_put_X5_come : GoodIn wsX5_put (wsV RX5 103 RX5 yX5_come wsX5_come) := goodIn_app (goodIn_of _ (by decide +kernel)) ggX5_put_X5_come
set_option maxRecDepth 20000 in
theorem ggX5_put_X4_holds : GoodIn wsX5_put wsX4_holds := goodIn_r _ [20, 21, 40, 41, 42, 43] (by decide +kernel) (by decide +kernel)
set_option maxRecDepth 20000 in
theorem gX5_put_X4_holds : GoodIn wsX5_put (wsV RX5 112 RX4 yX4_holds wsX4_holds) := goodIn_app (goodIn_of _ (by decide +kernel)) ggX5_put_X4_holds
set_option maxRecDepth 20000 in
theorem ggX5_put_X4_write : GoodIn wsX5_put wsX4_write := goodIn_r _ [25, 26, 27, 18, 19, 10, 20, 21, 28, 29, 30, 31, 32, 40, 41, 42, 43] (by decide +kernel) (by decide +kernel)
set_option maxRecDepth 20000 in
theorem gX5_put_X4_write : GoodIn wsX5_put (wsV RX5 227 RX4 yX4_write wsX4_write) := goodIn_app (goodIn_of _ (by decide +kernel)) ggX5_put_X4_write
theorem dX5_put_0 : decode cX5_put 0 = .ok (.aload_n 0, 1) := by decide +kernel
theorem dX5_put_1 : decode cX5_put 1 = .ok (.iconst 0, 1) := by decide +kernel
theorem dX5_put_2 : decode cX5_put 2 = .ok (.putfield 90, 3) := by decide +kernel
theorem dX5_put_5 : decode cX5_put 5 = .ok (.iload_n 1, 1) := by decide +kernel
theorem dX5_put_6 : decode cX5_put 6 = .ok (.invokestatic 94, 3) := by decide +kernel
theorem dX5_put_9 : decode cX5_put 9 = .ok (.ifCond .ne 5, 3) := by decide +kernel
theorem dX5_put_12 : decode cX5_put 12 = .ok (.iconst (-1), 1) := by decide +kernel
theorem dX5_put_13 : decode cX5_put 13 = .ok (.ireturn, 1) := by decide +kernel
theorem dX5_put_14 : decode cX5_put 14 = .ok (.aload_n 0, 1) := by decide +kernel
theorem dX5_put_15 : decode cX5_put 15 = .ok (.getfield 43, 3) := by decide +kernel
theorem dX5_put_18 : decode cX5_put 18 = .ok (.iload_n 1, 1) := by decide +kernel
theorem dX5_put_19 : decode cX5_put 19 = .ok (.aaload, 1) := by decide +kernel
theorem dX5_put_20 : decode cX5_put 20 = .ok (.invokevirtual 106, 3) := by decide +kernel
theorem dX5_put_23 : decode cX5_put 23 = .ok (.ifCond .ne 9, 3) := by decide +kernel
theorem dX5_put_26 : decode cX5_put 26 = .ok (.aload_n 0, 1) := by decide +kernel
theorem dX5_put_27 : decode cX5_put 27 = .ok (.iconst 1, 1) := by decide +kernel
theorem dX5_put_28 : decode cX5_put 28 = .ok (.invokevirtual 103, 3) := by decide +kernel
theorem dX5_put_31 : decode cX5_put 31 = .ok (.ireturn, 1) := by decide +kernel
theorem dX5_put_32 : decode cX5_put 32 = .ok (.aload_n 0, 1) := by decide +kernel
theorem dX5_put_33 : decode cX5_put 33 = .ok (.getfield 43, 3) := by decide +kernel
theorem dX5_put_36 : decode cX5_put 36 = .ok (.iload_n 1, 1) := by decide +kernel
theorem dX5_put_37 : decode cX5_put 37 = .ok (.aaload, 1) := by decide +kernel
theorem dX5_put_38 : decode cX5_put 38 = .ok (.iload_n 2, 1) := by decide +kernel
theorem dX5_put_39 : decode cX5_put 39 = .ok (.lconst 1, 1) := by decide +kernel
theorem dX5_put_40 : decode cX5_put 40 = .ok (.invokevirtual 112, 3) := by decide +kernel
theorem dX5_put_43 : decode cX5_put 43 = .ok (.ifCond .ne 9, 3) := by decide +kernel
theorem dX5_put_46 : decode cX5_put 46 = .ok (.aload_n 0, 1) := by decide +kernel
theorem dX5_put_47 : decode cX5_put 47 = .ok (.iconst 3, 1) := by decide +kernel
theorem dX5_put_48 : decode cX5_put 48 = .ok (.invokevirtual 103, 3) := by decide +kernel
theorem dX5_put_51 : decode cX5_put 51 = .ok (.ireturn, 1) := by decide +kernel
theorem dX5_put_52 : decode cX5_put 52 = .ok (.aload_n 0, 1) := by decide +kernel
theorem dX5_put_53 : decode cX5_put 53 = .ok (.getfield 43, 3) := by decide +kernel
theorem dX5_put_56 : decode cX5_put 56 = .ok (.iload_n 1, 1) := by decide +kernel
theorem dX5_put_57 : decode cX5_put 57 = .ok (.aaload, 1) := by decide +kernel
theorem dX5_put_58 : decode cX5_put 58 = .ok (.iload_n 2, 1) := by decide +kernel
theorem dX5_put_59 : decode cX5_put 59 = .ok (.iload_n 3, 1) := by decide +kernel
theorem dX5_put_60 : decode cX5_put 60 = .ok (.invokevirtual 227, 3) := by decide +kernel
theorem dX5_put_63 : decode cX5_put 63 = .ok (.iconst 1, 1) := by decide +kernel
theorem dX5_put_64 : decode cX5_put 64 = .ok (.ireturn, 1) := by decide +kernel
set_option maxRecDepth 20000 in
theorem ggX5_cell_X5_isSheet : GoodIn wsX5_cell wsX5_isSheet := goodIn_r _ [7] (by decide +kernel) (by decide +kernel)
set_option maxRecDepth 20000 in
theorem gX5_cell_X5_isSheet : GoodIn wsX5_cell (va_wsS RX5 94 yX5_isSheet wsX5_isSheet) := goodIn_app (goodIn_of _ (by decide +kernel)) ggX5_cell_X5_isSheet
set_option maxRecDepth 20000 in
theorem ggX5_cell_X5_isLane : GoodIn wsX5_cell wsX5_isLane := goodIn_r _ [10] (by decide +kernel) (by decide +kernel)
set_option maxRecDepth 20000 in
theorem gX5_cell_X5_isLane : GoodIn wsX5_cell (va_wsS RX5 97 yX5_isLane wsX5_isLane) := goodIn_app (goodIn_of _ (by decide +kernel)) ggX5_cell_X5_isLane
set_option maxRecDepth 20000 in
theorem ggX5_cell_X4_isOfOther : GoodIn wsX5_cell wsX4_isOfOther := goodIn_r _ [15, 16, 17, 44, 45, 46, 47] (by decide +kernel) (by decide +kernel)
set_option maxRecDepth 20000 in
theorem gX5_cell_X4_isOfOther : GoodIn wsX5_cell (wsV RX5 100 RX4 yX4_isOfOther wsX4_isOfOther) := goodIn_app (goodIn_of _ (by decide +kernel)) ggX5_cell_X4_isOfOther
set_option maxRecDepth 20000 in
theorem ggX5_cell_X5_comeLost : GoodIn wsX5_cell wsX5_comeLost := goodIn_r _ [21, 1, 2, 37, 38, 39, 40, 41, 42, 43] (by decide +kernel) (by decide +kernel)
set_option maxRecDepth 20000 in
theorem gX5_cell_X5_comeLost : GoodIn wsX5_cell (wsV RX5 230 RX5 yX5_comeLost wsX5_comeLost) := goodIn_app (goodIn_of _ (by decide +kernel)) ggX5_cell_X5_comeLost
set_option maxRecDepth 20000 in
theorem ggX5_cell_X4_isThere : GoodIn wsX5_cell wsX4_isThere := goodIn_r _ [25, 16, 44, 45, 46, 47] (by decide +kernel) (by decide +kernel)
set_option maxRecDepth 20000 in
theorem gX5_cell_X4_isThere : GoodIn wsX5_cell (wsV RX5 106 RX4 yX4_isThere wsX4_isThere) := goodIn_app (goodIn_of _ (by decide +kernel)) ggX5_cell_X4_isThere
set_option maxRecDepth 20000 in
theorem ggX5_cell_X4_holds : GoodIn wsX5_cell wsX4_holds := goodIn_r _ [29, 30, 44, 45, 46, 47] (by decide +kernel) (by decide +kernel)
set_option maxRecDepth 20000 in
theorem gX5_cell_X4_holds : GoodIn wsX5_cell (wsV RX5 112 RX4 yX4_holds wsX4_holds) := goodIn_app (goodIn_of _ (by decide +kernel)) ggX5_cell_X4_holds
set_option maxRecDepth 20000 in
theorem ggX5_cell_X4_read : GoodIn wsX5_cell wsX4_read := goodIn_r _ [34, 35, 36, 27, 28, 14, 29, 30, 44, 45, 46, 47] (by decide +kernel) (by decide +kernel)
set_option maxRecDepth 20000 in
theorem gX5_cell_X4_read : GoodIn wsX5_cell (wsV RX5 234 RX4 yX4_read wsX4_read) := goodIn_app (goodIn_of _ (by decide +kernel)) ggX5_cell_X4_read
theorem dX5_cell_0 : decode cX5_cell 0 = .ok (.aload_n 0, 1) := by decide +kernel
theorem dX5_cell_1 : decode cX5_cell 1 = .ok (.iconst 0, 1) := by decide +kernel
theorem dX5_cell_2 : decode cX5_cell 2 = .ok (.putfield 90, 3) := by decide +kernel
theorem dX5_cell_5 : decode cX5_cell 5 = .ok (.iload_n 1, 1) := by decide +kernel
theorem dX5_cell_6 : decode cX5_cell 6 = .ok (.invokestatic 94, 3) := by decide +kernel
theorem dX5_cell_9 : decode cX5_cell 9 = .ok (.ifCond .eq 10, 3) := by decide +kernel
theorem dX5_cell_12 : decode cX5_cell 12 = .ok (.iload_n 3, 1) := by decide +kernel
theorem dX5_cell_13 : decode cX5_cell 13 = .ok (.invokestatic 97, 3) := by decide +kernel
theorem dX5_cell_16 : decode cX5_cell 16 = .ok (.ifCond .ne 7, 3) := by decide +kernel
theorem dX5_cell_19 : decode cX5_cell 19 = .ok (.ldc2_w 84, 3) := by decide +kernel
theorem dX5_cell_22 : decode cX5_cell 22 = .ok (.lreturn, 1) := by decide +kernel
theorem dX5_cell_23 : decode cX5_cell 23 = .ok (.aload_n 0, 1) := by decide +kernel
theorem dX5_cell_24 : decode cX5_cell 24 = .ok (.getfield 43, 3) := by decide +kernel
theorem dX5_cell_27 : decode cX5_cell 27 = .ok (.iload_n 1, 1) := by decide +kernel
theorem dX5_cell_28 : decode cX5_cell 28 = .ok (.aaload, 1) := by decide +kernel
theorem dX5_cell_29 : decode cX5_cell 29 = .ok (.iload_n 3, 1) := by decide +kernel
theorem dX5_cell_30 : decode cX5_cell 30 = .ok (.invokevirtual 100, 3) := by decide +kernel
theorem dX5_cell_33 : decode cX5_cell 33 = .ok (.ifCond .eq 9, 3) := by decide +kernel
theorem dX5_cell_36 : decode cX5_cell 36 = .ok (.aload_n 0, 1) := by decide +kernel
theorem dX5_cell_37 : decode cX5_cell 37 = .ok (.iconst 2, 1) := by decide +kernel
theorem dX5_cell_38 : decode cX5_cell 38 = .ok (.invokevirtual 230, 3) := by decide +kernel
theorem dX5_cell_41 : decode cX5_cell 41 = .ok (.lreturn, 1) := by decide +kernel
theorem dX5_cell_42 : decode cX5_cell 42 = .ok (.aload_n 0, 1) := by decide +kernel
theorem dX5_cell_43 : decode cX5_cell 43 = .ok (.getfield 43, 3) := by decide +kernel
theorem dX5_cell_46 : decode cX5_cell 46 = .ok (.iload_n 1, 1) := by decide +kernel
theorem dX5_cell_47 : decode cX5_cell 47 = .ok (.aaload, 1) := by decide +kernel
theorem dX5_cell_48 : decode cX5_cell 48 = .ok (.invokevirtual 106, 3) := by decide +kernel
theorem dX5_cell_51 : decode cX5_cell 51 = .ok (.ifCond .ne 9, 3) := by decide +kernel
theorem dX5_cell_54 : decode cX5_cell 54 = .ok (.aload_n 0, 1) := by decide +kernel
theorem dX5_cell_55 : decode cX5_cell 55 = .ok (.iconst 1, 1) := by decide +kernel
theorem dX5_cell_56 : decode cX5_cell 56 = .ok (.invokevirtual 230, 3) := by decide +kernel
theorem dX5_cell_59 : decode cX5_cell 59 = .ok (.lreturn, 1) := by decide +kernel
theorem dX5_cell_60 : decode cX5_cell 60 = .ok (.aload_n 0, 1) := by decide +kernel
theorem dX5_cell_61 : decode cX5_cell 61 = .ok (.getfield 43, 3) := by decide +kernel
theorem dX5_cell_64 : decode cX5_cell 64 = .ok (.iload_n 1, 1) := by decide +kernel
theorem dX5_cell_65 : decode cX5_cell 65 = .ok (.aaload, 1) := by decide +kernel
theorem dX5_cell_66 : decode cX5_cell 66 = .ok (.iload_n 2, 1) := by decide +kernel
theorem dX5_cell_67 : decode cX5_cell 67 = .ok (.lconst 1, 1) := by decide +kernel
theorem dX5_cell_68 : decode cX5_cell 68 = .ok (.invokevirtual 112, 3) := by decide +kernel
theorem dX5_cell_71 : decode cX5_cell 71 = .ok (.ifCond .ne 9, 3) := by decide +kernel
theorem dX5_cell_74 : decode cX5_cell 74 = .ok (.aload_n 0, 1) := by decide +kernel
theorem dX5_cell_75 : decode cX5_cell 75 = .ok (.iconst 3, 1) := by decide +kernel
theorem dX5_cell_76 : decode cX5_cell 76 = .ok (.invokevirtual 230, 3) := by decide +kernel
theorem dX5_cell_79 : decode cX5_cell 79 = .ok (.lreturn, 1) := by decide +kernel
theorem dX5_cell_80 : decode cX5_cell 80 = .ok (.aload_n 0, 1) := by decide +kernel
theorem dX5_cell_81 : decode cX5_cell 81 = .ok (.getfield 43, 3) := by decide +kernel
theorem dX5_cell_84 : decode cX5_cell 84 = .ok (.iload_n 1, 1) := by decide +kernel
theorem dX5_cell_85 : decode cX5_cell 85 = .ok (.aaload, 1) := by decide +kernel
theorem dX5_cell_86 : decode cX5_cell 86 = .ok (.iload_n 2, 1) := by decide +kernel
theorem dX5_cell_87 : decode cX5_cell 87 = .ok (.invokevirtual 234, 3) := by decide +kernel
theorem dX5_cell_90 : decode cX5_cell 90 = .ok (.i2l, 1) := by decide +kernel
theorem dX5_cell_91 : decode cX5_cell 91 = .ok (.lreturn, 1) := by decide +kernel
set_option maxRecDepth 20000 in
theorem ggX5_copy_X5_isSheet : GoodIn wsX5_copy wsX5_isSheet := goodIn_r _ [6] (by decide +kernel) (by decide +kernel)
set_option maxRecDepth 20000 in
theorem gX5_copy_X5_isSheet : GoodIn wsX5_copy (va_wsS RX5 94 yX5_isSheet wsX5_isSheet) := goodIn_app (goodIn_of _ (by decide +kernel)) ggX5_copy_X5_isSheet
set_option maxRecDepth 20000 in
theorem ggX5_copy_X4_isThere : GoodIn wsX5_copy wsX4_isThere := goodIn_r _ [11, 12, 48, 49, 50, 51] (by decide +kernel) (by decide +kernel)
set_option maxRecDepth 20000 in
theorem gX5_copy_X4_isThere : GoodIn wsX5_copy (wsV RX5 106 RX4 yX4_isThere wsX4_isThere) := goodIn_app (goodIn_of _ (by decide +kernel)) ggX5_copy_X4_isThere
set_option maxRecDepth 20000 in
theorem ggX5_copy_X5_come : GoodIn wsX5_copy wsX5_come := goodIn_r _ [16, 1, 41, 42, 43, 44, 45, 46, 47] (by decide +kernel) (by decide +kernel)
set_option maxRecDepth 20000 in
theorem gX5_copy_X5_come : GoodIn wsX5_copy (wsV RX5 103 RX5 yX5_come wsX5_come) := goodIn_app (goodIn_of _ (by decide +kernel)) ggX5_copy_X5_come
set_option maxRecDepth 20000 in
theorem ggX5_copy_X4_laneHeld : GoodIn wsX5_copy wsX4_laneHeld := goodIn_r _ [20, 21, 48, 49, 50, 51] (by decide +kernel) (by decide +kernel)
set_option maxRecDepth 20000 in
theorem gX5_copy_X4_laneHeld : GoodIn wsX5_copy (wsV RX5 237 RX4 yX4_laneHeld wsX4_laneHeld) := goodIn_app (goodIn_of _ (by decide +kernel)) ggX5_copy_X4_laneHeld
set_option maxRecDepth 20000 in
theorem ggX5_copy_X4_isOfOther : GoodIn wsX5_copy wsX4_isOfOther := goodIn_r _ [25, 12, 21, 48, 49, 50, 51] (by decide +kernel) (by decide +kernel)
set_option maxRecDepth 20000 in
theorem gX5_copy_X4_isOfOther : GoodIn wsX5_copy (wsV RX5 100 RX4 yX4_isOfOther wsX4_isOfOther) := goodIn_app (goodIn_of _ (by decide +kernel)) ggX5_copy_X4_isOfOther
set_option maxRecDepth 20000 in
theorem ggX5_copy_X4_holds : GoodIn wsX5_copy wsX4_holds := goodIn_r _ [29, 30, 48, 49, 50, 51] (by decide +kernel) (by decide +kernel)
set_option maxRecDepth 20000 in
theorem gX5_copy_X4_holds : GoodIn wsX5_copy (wsV RX5 112 RX4 yX4_holds wsX4_holds) := goodIn_app (goodIn_of _ (by decide +kernel)) ggX5_copy_X4_holds
set_option maxRecDepth 20000 in
theorem ggX5_copy_X4_writeFrom : GoodIn wsX5_copy wsX4_writeFrom := goodIn_r _ [34, 35, 36, 37, 38, 39, 40, 27, 28, 10, 29, 30, 48, 49, 50, 51] (by decide +kernel) (by decide +kernel)
set_option maxRecDepth 20000 in
theorem gX5_copy_X4_writeFrom : GoodIn wsX5_copy (wsV RX5 240 RX4 yX4_writeFrom wsX4_writeFrom) := goodIn_app (goodIn_of _ (by decide +kernel)) ggX5_copy_X4_writeFrom
theorem dX5_copy_0 : decode cX5_copy 0 = .ok (.aload_n 0, 1) := by decide +kernel
theorem dX5_copy_1 : decode cX5_copy 1 = .ok (.iconst 0, 1) := by decide +kernel
theorem dX5_copy_2 : decode cX5_copy 2 = .ok (.putfield 90, 3) := by decide +kernel
theorem dX5_copy_5 : decode cX5_copy 5 = .ok (.iload_n 1, 1) := by decide +kernel
theorem dX5_copy_6 : decode cX5_copy 6 = .ok (.invokestatic 94, 3) := by decide +kernel
theorem dX5_copy_9 : decode cX5_copy 9 = .ok (.ifCond .eq 10, 3) := by decide +kernel
theorem dX5_copy_12 : decode cX5_copy 12 = .ok (.iload_n 3, 1) := by decide +kernel
theorem dX5_copy_13 : decode cX5_copy 13 = .ok (.invokestatic 94, 3) := by decide +kernel
theorem dX5_copy_16 : decode cX5_copy 16 = .ok (.ifCond .ne 5, 3) := by decide +kernel
theorem dX5_copy_19 : decode cX5_copy 19 = .ok (.iconst (-1), 1) := by decide +kernel
theorem dX5_copy_20 : decode cX5_copy 20 = .ok (.ireturn, 1) := by decide +kernel
theorem dX5_copy_21 : decode cX5_copy 21 = .ok (.aload_n 0, 1) := by decide +kernel
theorem dX5_copy_22 : decode cX5_copy 22 = .ok (.getfield 43, 3) := by decide +kernel
theorem dX5_copy_25 : decode cX5_copy 25 = .ok (.iload_n 1, 1) := by decide +kernel
theorem dX5_copy_26 : decode cX5_copy 26 = .ok (.aaload, 1) := by decide +kernel
theorem dX5_copy_27 : decode cX5_copy 27 = .ok (.astore 6, 2) := by decide +kernel
theorem dX5_copy_29 : decode cX5_copy 29 = .ok (.aload_n 0, 1) := by decide +kernel
theorem dX5_copy_30 : decode cX5_copy 30 = .ok (.getfield 43, 3) := by decide +kernel
theorem dX5_copy_33 : decode cX5_copy 33 = .ok (.iload_n 3, 1) := by decide +kernel
theorem dX5_copy_34 : decode cX5_copy 34 = .ok (.aaload, 1) := by decide +kernel
theorem dX5_copy_35 : decode cX5_copy 35 = .ok (.astore 7, 2) := by decide +kernel
theorem dX5_copy_37 : decode cX5_copy 37 = .ok (.aload 6, 2) := by decide +kernel
theorem dX5_copy_39 : decode cX5_copy 39 = .ok (.invokevirtual 106, 3) := by decide +kernel
theorem dX5_copy_42 : decode cX5_copy 42 = .ok (.ifCond .eq 11, 3) := by decide +kernel
theorem dX5_copy_45 : decode cX5_copy 45 = .ok (.aload 7, 2) := by decide +kernel
theorem dX5_copy_47 : decode cX5_copy 47 = .ok (.invokevirtual 106, 3) := by decide +kernel
theorem dX5_copy_50 : decode cX5_copy 50 = .ok (.ifCond .ne 9, 3) := by decide +kernel
theorem dX5_copy_53 : decode cX5_copy 53 = .ok (.aload_n 0, 1) := by decide +kernel
theorem dX5_copy_54 : decode cX5_copy 54 = .ok (.iconst 1, 1) := by decide +kernel
theorem dX5_copy_55 : decode cX5_copy 55 = .ok (.invokevirtual 103, 3) := by decide +kernel
theorem dX5_copy_58 : decode cX5_copy 58 = .ok (.ireturn, 1) := by decide +kernel
theorem dX5_copy_59 : decode cX5_copy 59 = .ok (.aload 6, 2) := by decide +kernel
theorem dX5_copy_61 : decode cX5_copy 61 = .ok (.aload 7, 2) := by decide +kernel
theorem dX5_copy_63 : decode cX5_copy 63 = .ok (.invokevirtual 237, 3) := by decide +kernel
theorem dX5_copy_66 : decode cX5_copy 66 = .ok (.invokevirtual 100, 3) := by decide +kernel
theorem dX5_copy_69 : decode cX5_copy 69 = .ok (.ifCond .eq 9, 3) := by decide +kernel
theorem dX5_copy_72 : decode cX5_copy 72 = .ok (.aload_n 0, 1) := by decide +kernel
theorem dX5_copy_73 : decode cX5_copy 73 = .ok (.iconst 2, 1) := by decide +kernel
theorem dX5_copy_74 : decode cX5_copy 74 = .ok (.invokevirtual 103, 3) := by decide +kernel
theorem dX5_copy_77 : decode cX5_copy 77 = .ok (.ireturn, 1) := by decide +kernel
theorem dX5_copy_78 : decode cX5_copy 78 = .ok (.aload 6, 2) := by decide +kernel
theorem dX5_copy_80 : decode cX5_copy 80 = .ok (.iload_n 2, 1) := by decide +kernel
theorem dX5_copy_81 : decode cX5_copy 81 = .ok (.iload 5, 2) := by decide +kernel
theorem dX5_copy_83 : decode cX5_copy 83 = .ok (.i2l, 1) := by decide +kernel
theorem dX5_copy_84 : decode cX5_copy 84 = .ok (.invokevirtual 112, 3) := by decide +kernel
theorem dX5_copy_87 : decode cX5_copy 87 = .ok (.ifCond .eq 16, 3) := by decide +kernel
theorem dX5_copy_90 : decode cX5_copy 90 = .ok (.aload 7, 2) := by decide +kernel
theorem dX5_copy_92 : decode cX5_copy 92 = .ok (.iload 4, 2) := by decide +kernel
theorem dX5_copy_94 : decode cX5_copy 94 = .ok (.iload 5, 2) := by decide +kernel
theorem dX5_copy_96 : decode cX5_copy 96 = .ok (.i2l, 1) := by decide +kernel
theorem dX5_copy_97 : decode cX5_copy 97 = .ok (.invokevirtual 112, 3) := by decide +kernel
theorem dX5_copy_100 : decode cX5_copy 100 = .ok (.ifCond .ne 9, 3) := by decide +kernel
theorem dX5_copy_103 : decode cX5_copy 103 = .ok (.aload_n 0, 1) := by decide +kernel
theorem dX5_copy_104 : decode cX5_copy 104 = .ok (.iconst 3, 1) := by decide +kernel
theorem dX5_copy_105 : decode cX5_copy 105 = .ok (.invokevirtual 103, 3) := by decide +kernel
theorem dX5_copy_108 : decode cX5_copy 108 = .ok (.ireturn, 1) := by decide +kernel
theorem dX5_copy_109 : decode cX5_copy 109 = .ok (.aload 7, 2) := by decide +kernel
theorem dX5_copy_111 : decode cX5_copy 111 = .ok (.aload 6, 2) := by decide +kernel
theorem dX5_copy_113 : decode cX5_copy 113 = .ok (.iload_n 2, 1) := by decide +kernel
theorem dX5_copy_114 : decode cX5_copy 114 = .ok (.iload 4, 2) := by decide +kernel
theorem dX5_copy_116 : decode cX5_copy 116 = .ok (.iload 5, 2) := by decide +kernel
theorem dX5_copy_118 : decode cX5_copy 118 = .ok (.invokevirtual 240, 3) := by decide +kernel
theorem dX5_copy_121 : decode cX5_copy 121 = .ok (.iload 5, 2) := by decide +kernel
theorem dX5_copy_123 : decode cX5_copy 123 = .ok (.ireturn, 1) := by decide +kernel
set_option maxRecDepth 20000 in
theorem ggX5_tell_X1_hasSide : GoodIn wsX5_tell wsX1_hasSide := goodIn_r _ [6, 7, 8, 9, 5, 10, 11, 12, 51, 52, 53, 54] (by decide +kernel) (by decide +kernel)
set_option maxRecDepth 20000 in
theorem gX5_tell_X1_hasSide : GoodIn wsX5_tell (wsV RX5 74 RX1 yX1_hasSide wsX1_hasSide) := goodIn_app (goodIn_of _ (by decide +kernel)) ggX5_tell_X1_hasSide
set_option maxRecDepth 20000 in
theorem ggX5_tell_X1_kindAt : GoodIn wsX5_tell wsX1_kindAt := goodIn_r _ [16, 17, 18, 19, 5, 20, 21, 22, 23, 24, 25, 7, 8, 9, 10, 11, 12, 26, 27, 28, 29, 51, 52, 53, 54] (by decide +kernel) (by decide +kernel)
set_option maxRecDepth 20000 in
theorem gX5_tell_X1_kindAt : GoodIn wsX5_tell (wsV RX5 142 RX1 yX1_kindAt wsX1_kindAt) := goodIn_app (goodIn_of _ (by decide +kernel)) ggX5_tell_X1_kindAt
set_option maxRecDepth 20000 in
theorem ggX5_tell_X5_leave : GoodIn wsX5_tell wsX5_leave := goodIn_r _ [34, 35, 44, 45, 46, 47, 48, 49, 50] (by decide +kernel) (by decide +kernel)
set_option maxRecDepth 20000 in
theorem gX5_tell_X5_leave : GoodIn wsX5_tell (wsV RX5 243 RX5 yX5_leave wsX5_leave) := goodIn_app (goodIn_of _ (by decide +kernel)) ggX5_tell_X5_leave
set_option maxRecDepth 20000 in
theorem ggX5_tell_X5_sumBody : GoodIn wsX5_tell wsX5_sumBody := goodIn_r _ [39, 1, 30, 31, 32, 33, 34, 35, 40, 41, 42, 5, 43, 21, 22, 23, 24, 25, 44, 45, 46, 47, 48, 49, 50, 51, 52, 53, 54] (by decide +kernel) (by decide +kernel)
set_option maxRecDepth 20000 in
theorem gX5_tell_X5_sumBody : GoodIn wsX5_tell (wsV RX5 246 RX5 yX5_sumBody wsX5_sumBody) := goodIn_app (goodIn_of _ (by decide +kernel)) ggX5_tell_X5_sumBody
theorem dX5_tell_0 : decode cX5_tell 0 = .ok (.aload_n 0, 1) := by decide +kernel
theorem dX5_tell_1 : decode cX5_tell 1 = .ok (.getfield 12, 3) := by decide +kernel
theorem dX5_tell_4 : decode cX5_tell 4 = .ok (.iload_n 1, 1) := by decide +kernel
theorem dX5_tell_5 : decode cX5_tell 5 = .ok (.invokevirtual 74, 3) := by decide +kernel
theorem dX5_tell_8 : decode cX5_tell 8 = .ok (.ifCond .ne 5, 3) := by decide +kernel
theorem dX5_tell_11 : decode cX5_tell 11 = .ok (.iconst (-1), 1) := by decide +kernel
theorem dX5_tell_12 : decode cX5_tell 12 = .ok (.ireturn, 1) := by decide +kernel
theorem dX5_tell_13 : decode cX5_tell 13 = .ok (.aload_n 0, 1) := by decide +kernel
theorem dX5_tell_14 : decode cX5_tell 14 = .ok (.getfield 12, 3) := by decide +kernel
theorem dX5_tell_17 : decode cX5_tell 17 = .ok (.iload_n 1, 1) := by decide +kernel
theorem dX5_tell_18 : decode cX5_tell 18 = .ok (.invokevirtual 142, 3) := by decide +kernel
theorem dX5_tell_21 : decode cX5_tell 21 = .ok (.lookupswitch 53 #[(1, 39), (2, 27)], 27) := by decide +kernel
theorem dX5_tell_48 : decode cX5_tell 48 = .ok (.aload_n 0, 1) := by decide +kernel
theorem dX5_tell_49 : decode cX5_tell 49 = .ok (.iconst 3, 1) := by decide +kernel
theorem dX5_tell_50 : decode cX5_tell 50 = .ok (.invokevirtual 243, 3) := by decide +kernel
theorem dX5_tell_53 : decode cX5_tell 53 = .ok (.aload_n 0, 1) := by decide +kernel
theorem dX5_tell_54 : decode cX5_tell 54 = .ok (.iload_n 1, 1) := by decide +kernel
theorem dX5_tell_55 : decode cX5_tell 55 = .ok (.invokevirtual 246, 3) := by decide +kernel
theorem dX5_tell_58 : decode cX5_tell 58 = .ok (.ineg, 1) := by decide +kernel
theorem dX5_tell_59 : decode cX5_tell 59 = .ok (.ireturn, 1) := by decide +kernel
theorem dX5_tell_60 : decode cX5_tell 60 = .ok (.aload_n 0, 1) := by decide +kernel
theorem dX5_tell_61 : decode cX5_tell 61 = .ok (.iconst 2, 1) := by decide +kernel
theorem dX5_tell_62 : decode cX5_tell 62 = .ok (.invokevirtual 243, 3) := by decide +kernel
theorem dX5_tell_65 : decode cX5_tell 65 = .ok (.aload_n 0, 1) := by decide +kernel
theorem dX5_tell_66 : decode cX5_tell 66 = .ok (.iload_n 1, 1) := by decide +kernel
theorem dX5_tell_67 : decode cX5_tell 67 = .ok (.invokevirtual 246, 3) := by decide +kernel
theorem dX5_tell_70 : decode cX5_tell 70 = .ok (.bipush 100, 2) := by decide +kernel
theorem dX5_tell_72 : decode cX5_tell 72 = .ok (.iadd, 1) := by decide +kernel
theorem dX5_tell_73 : decode cX5_tell 73 = .ok (.ireturn, 1) := by decide +kernel
theorem dX5_tell_74 : decode cX5_tell 74 = .ok (.aload_n 0, 1) := by decide +kernel
theorem dX5_tell_75 : decode cX5_tell 75 = .ok (.iload_n 1, 1) := by decide +kernel
theorem dX5_tell_76 : decode cX5_tell 76 = .ok (.invokevirtual 246, 3) := by decide +kernel
theorem dX5_tell_79 : decode cX5_tell 79 = .ok (.ireturn, 1) := by decide +kernel
set_option maxRecDepth 20000 in
theorem ggX5_mark_X1_hasSide : GoodIn wsX5_mark wsX1_hasSide := goodIn_r _ [6, 7, 8, 9, 5, 10, 11, 12, 43, 44, 45, 46] (by decide +kernel) (by decide +kernel)
set_option maxRecDepth 20000 in
theorem gX5_mark_X1_hasSide : GoodIn wsX5_mark (wsV RX5 74 RX1 yX1_hasSide wsX1_hasSide) := goodIn_app (goodIn_of _ (by decide +kernel)) ggX5_mark_X1_hasSide
set_option maxRecDepth 20000 in
theorem ggX5_mark_X1_kindAt : GoodIn wsX5_mark wsX1_kindAt := goodIn_r _ [16, 17, 18, 19, 5, 20, 21, 22, 23, 24, 25, 7, 8, 9, 10, 11, 12, 26, 27, 28, 29, 43, 44, 45, 46] (by decide +kernel) (by decide +kernel)
set_option maxRecDepth 20000 in
theorem gX5_mark_X1_kindAt : GoodIn wsX5_mark (wsV RX5 142 RX1 yX1_kindAt wsX1_kindAt) := goodIn_app (goodIn_of _ (by decide +kernel)) ggX5_mark_X1_kindAt
set_option maxRecDepth 20000 in
theorem ggX5_mark_X5_leave : GoodIn wsX5_mark wsX5_leave := goodIn_r _ [34, 35, 36, 37, 38, 39, 40, 41, 42] (by decide +kernel) (by decide +kernel)
set_option maxRecDepth 20000 in
theorem gX5_mark_X5_leave : GoodIn wsX5_mark (wsV RX5 243 RX5 yX5_leave wsX5_leave) := goodIn_app (goodIn_of _ (by decide +kernel)) ggX5_mark_X5_leave
theorem dX5_mark_0 : decode cX5_mark 0 = .ok (.aload_n 0, 1) := by decide +kernel
theorem dX5_mark_1 : decode cX5_mark 1 = .ok (.getfield 12, 3) := by decide +kernel
theorem dX5_mark_4 : decode cX5_mark 4 = .ok (.iload_n 1, 1) := by decide +kernel
theorem dX5_mark_5 : decode cX5_mark 5 = .ok (.invokevirtual 74, 3) := by decide +kernel
theorem dX5_mark_8 : decode cX5_mark 8 = .ok (.ifCond .ne 5, 3) := by decide +kernel
theorem dX5_mark_11 : decode cX5_mark 11 = .ok (.iconst (-1), 1) := by decide +kernel
theorem dX5_mark_12 : decode cX5_mark 12 = .ok (.ireturn, 1) := by decide +kernel
theorem dX5_mark_13 : decode cX5_mark 13 = .ok (.aload_n 0, 1) := by decide +kernel
theorem dX5_mark_14 : decode cX5_mark 14 = .ok (.getfield 12, 3) := by decide +kernel
theorem dX5_mark_17 : decode cX5_mark 17 = .ok (.iload_n 1, 1) := by decide +kernel
theorem dX5_mark_18 : decode cX5_mark 18 = .ok (.invokevirtual 142, 3) := by decide +kernel
theorem dX5_mark_21 : decode cX5_mark 21 = .ok (.iconst 2, 1) := by decide +kernel
theorem dX5_mark_22 : decode cX5_mark 22 = .ok (.if_icmp .ne 11, 3) := by decide +kernel
theorem dX5_mark_25 : decode cX5_mark 25 = .ok (.aload_n 0, 1) := by decide +kernel
theorem dX5_mark_26 : decode cX5_mark 26 = .ok (.iconst 5, 1) := by decide +kernel
theorem dX5_mark_27 : decode cX5_mark 27 = .ok (.invokevirtual 243, 3) := by decide +kernel
theorem dX5_mark_30 : decode cX5_mark 30 = .ok (.bipush 99, 2) := by decide +kernel
theorem dX5_mark_32 : decode cX5_mark 32 = .ok (.ireturn, 1) := by decide +kernel
theorem dX5_mark_33 : decode cX5_mark 33 = .ok (.aload_n 0, 1) := by decide +kernel
theorem dX5_mark_34 : decode cX5_mark 34 = .ok (.iconst 4, 1) := by decide +kernel
theorem dX5_mark_35 : decode cX5_mark 35 = .ok (.invokevirtual 243, 3) := by decide +kernel
theorem dX5_mark_38 : decode cX5_mark 38 = .ok (.iload_n 1, 1) := by decide +kernel
theorem dX5_mark_39 : decode cX5_mark 39 = .ok (.ireturn, 1) := by decide +kernel
set_option maxRecDepth 20000 in
theorem ggX5_as_X1_hasSide : GoodIn wsX5_as wsX1_hasSide := goodIn_r _ [7, 8, 9, 10, 6, 11, 12, 13, 43, 44, 45, 46] (by decide +kernel) (by decide +kernel)
set_option maxRecDepth 20000 in
theorem gX5_as_X1_hasSide : GoodIn wsX5_as (wsV RX5 74 RX1 yX1_hasSide wsX1_hasSide) := goodIn_app (goodIn_of _ (by decide +kernel)) ggX5_as_X1_hasSide
set_option maxRecDepth 20000 in
theorem ggX5_as_X1_kindAt : GoodIn wsX5_as wsX1_kindAt := goodIn_r _ [17, 18, 19, 20, 6, 21, 22, 23, 24, 25, 26, 8, 9, 10, 11, 12, 13, 27, 28, 29, 30, 43, 44, 45, 46] (by decide +kernel) (by decide +kernel)
set_option maxRecDepth 20000 in
theorem gX5_as_X1_kindAt : GoodIn wsX5_as (wsV RX5 142 RX1 yX1_kindAt wsX1_kindAt) := goodIn_app (goodIn_of _ (by decide +kernel)) ggX5_as_X1_kindAt
set_option maxRecDepth 20000 in
theorem ggX5_as_X5_come : GoodIn wsX5_as wsX5_come := goodIn_r _ [35, 1, 36, 37, 38, 39, 40, 41, 42] (by decide +kernel) (by decide +kernel)
set_option maxRecDepth 20000 in
theorem gX5_as_X5_come : GoodIn wsX5_as (wsV RX5 103 RX5 yX5_come wsX5_come) := goodIn_app (goodIn_of _ (by decide +kernel)) ggX5_as_X5_come
theorem dX5_as_0 : decode cX5_as 0 = .ok (.aload_n 0, 1) := by decide +kernel
theorem dX5_as_1 : decode cX5_as 1 = .ok (.iconst 0, 1) := by decide +kernel
theorem dX5_as_2 : decode cX5_as 2 = .ok (.putfield 90, 3) := by decide +kernel
theorem dX5_as_5 : decode cX5_as 5 = .ok (.aload_n 0, 1) := by decide +kernel
theorem dX5_as_6 : decode cX5_as 6 = .ok (.getfield 12, 3) := by decide +kernel
theorem dX5_as_9 : decode cX5_as 9 = .ok (.iload_n 1, 1) := by decide +kernel
theorem dX5_as_10 : decode cX5_as 10 = .ok (.invokevirtual 74, 3) := by decide +kernel
theorem dX5_as_13 : decode cX5_as 13 = .ok (.ifCond .ne 5, 3) := by decide +kernel
theorem dX5_as_16 : decode cX5_as 16 = .ok (.iconst (-1), 1) := by decide +kernel
theorem dX5_as_17 : decode cX5_as 17 = .ok (.ireturn, 1) := by decide +kernel
theorem dX5_as_18 : decode cX5_as 18 = .ok (.iload_n 2, 1) := by decide +kernel
theorem dX5_as_19 : decode cX5_as 19 = .ok (.ifCond .lt 8, 3) := by decide +kernel
theorem dX5_as_22 : decode cX5_as 22 = .ok (.iload_n 2, 1) := by decide +kernel
theorem dX5_as_23 : decode cX5_as 23 = .ok (.iconst 2, 1) := by decide +kernel
theorem dX5_as_24 : decode cX5_as 24 = .ok (.if_icmp .le 6, 3) := by decide +kernel
theorem dX5_as_27 : decode cX5_as 27 = .ok (.bipush (-2), 2) := by decide +kernel
theorem dX5_as_29 : decode cX5_as 29 = .ok (.ireturn, 1) := by decide +kernel
theorem dX5_as_30 : decode cX5_as 30 = .ok (.aload_n 0, 1) := by decide +kernel
theorem dX5_as_31 : decode cX5_as 31 = .ok (.getfield 12, 3) := by decide +kernel
theorem dX5_as_34 : decode cX5_as 34 = .ok (.iload_n 1, 1) := by decide +kernel
theorem dX5_as_35 : decode cX5_as 35 = .ok (.invokevirtual 142, 3) := by decide +kernel
theorem dX5_as_38 : decode cX5_as 38 = .ok (.iload_n 2, 1) := by decide +kernel
theorem dX5_as_39 : decode cX5_as 39 = .ok (.if_icmp .ge 9, 3) := by decide +kernel
theorem dX5_as_42 : decode cX5_as 42 = .ok (.aload_n 0, 1) := by decide +kernel
theorem dX5_as_43 : decode cX5_as 43 = .ok (.iconst 2, 1) := by decide +kernel
theorem dX5_as_44 : decode cX5_as 44 = .ok (.invokevirtual 103, 3) := by decide +kernel
theorem dX5_as_47 : decode cX5_as 47 = .ok (.ireturn, 1) := by decide +kernel
theorem dX5_as_48 : decode cX5_as 48 = .ok (.iconst 1, 1) := by decide +kernel
theorem dX5_as_49 : decode cX5_as 49 = .ok (.ireturn, 1) := by decide +kernel
theorem dX5_trace_0 : decode cX5_trace 0 = .ok (.aload_n 0, 1) := by decide +kernel
theorem dX5_trace_1 : decode cX5_trace 1 = .ok (.getfield 249, 3) := by decide +kernel
theorem dX5_trace_4 : decode cX5_trace 4 = .ok (.ireturn, 1) := by decide +kernel
theorem dX5_fault_0 : decode cX5_fault 0 = .ok (.aload_n 0, 1) := by decide +kernel
theorem dX5_fault_1 : decode cX5_fault 1 = .ok (.getfield 90, 3) := by decide +kernel
theorem dX5_fault_4 : decode cX5_fault 4 = .ok (.ireturn, 1) := by decide +kernel
set_option maxRecDepth 20000 in
theorem ggX5_told_X1_width : GoodIn wsX5_told wsX1_width := goodIn_r _ [7, 8, 35, 36, 37, 38] (by decide +kernel) (by decide +kernel)
set_option maxRecDepth 20000 in
theorem gX5_told_X1_width : GoodIn wsX5_told (wsV RX5 252 RX1 yX1_width wsX1_width) := goodIn_app (goodIn_of _ (by decide +kernel)) ggX5_told_X1_width
set_option maxRecDepth 20000 in
theorem ggX5_told_X1_depth : GoodIn wsX5_told wsX1_depth := goodIn_r _ [12, 13, 35, 36, 37, 38] (by decide +kernel) (by decide +kernel)
set_option maxRecDepth 20000 in
theorem gX5_told_X1_depth : GoodIn wsX5_told (wsV RX5 255 RX1 yX1_depth wsX1_depth) := goodIn_app (goodIn_of _ (by decide +kernel)) ggX5_told_X1_depth
set_option maxRecDepth 20000 in
theorem ggX5_told_X1_pieces : GoodIn wsX5_told wsX1_pieces := goodIn_r _ [17, 8, 13, 35, 36, 37, 38] (by decide +kernel) (by decide +kernel)
set_option maxRecDepth 20000 in
theorem gX5_told_X1_pieces : GoodIn wsX5_told (wsV RX5 166 RX1 yX1_pieces wsX1_pieces) := goodIn_app (goodIn_of _ (by decide +kernel)) ggX5_told_X1_pieces
set_option maxRecDepth 20000 in
theorem ggX5_told_X1_sides : GoodIn wsX5_told wsX1_sides := goodIn_r _ [21, 8, 13, 35, 36, 37, 38] (by decide +kernel) (by decide +kernel)
set_option maxRecDepth 20000 in
theorem gX5_told_X1_sides : GoodIn wsX5_told (wsV RX5 58 RX1 yX1_sides wsX1_sides) := goodIn_app (goodIn_of _ (by decide +kernel)) ggX5_told_X1_sides
set_option maxRecDepth 20000 in
theorem ggX5_told_X2_size : GoodIn wsX5_told wsX2_size := goodIn_r _ [26, 27, 39, 40, 41] (by decide +kernel) (by decide +kernel)
set_option maxRecDepth 20000 in
theorem gX5_told_X2_size : GoodIn wsX5_told (wsV RX5 163 RX2 yX2_size wsX2_size) := goodIn_app (goodIn_of _ (by decide +kernel)) ggX5_told_X2_size
theorem dX5_told_0 : decode cX5_told 0 = .ok (.iload_n 1, 1) := by decide +kernel
theorem dX5_told_1 : decode cX5_told 1 = .ok (.tableswitch 75 0 4 #[35, 43, 51, 59, 67], 35) := by decide +kernel
theorem dX5_told_36 : decode cX5_told 36 = .ok (.aload_n 0, 1) := by decide +kernel
theorem dX5_told_37 : decode cX5_told 37 = .ok (.getfield 12, 3) := by decide +kernel
theorem dX5_told_40 : decode cX5_told 40 = .ok (.invokevirtual 252, 3) := by decide +kernel
theorem dX5_told_43 : decode cX5_told 43 = .ok (.ireturn, 1) := by decide +kernel
theorem dX5_told_44 : decode cX5_told 44 = .ok (.aload_n 0, 1) := by decide +kernel
theorem dX5_told_45 : decode cX5_told 45 = .ok (.getfield 12, 3) := by decide +kernel
theorem dX5_told_48 : decode cX5_told 48 = .ok (.invokevirtual 255, 3) := by decide +kernel
theorem dX5_told_51 : decode cX5_told 51 = .ok (.ireturn, 1) := by decide +kernel
theorem dX5_told_52 : decode cX5_told 52 = .ok (.aload_n 0, 1) := by decide +kernel
theorem dX5_told_53 : decode cX5_told 53 = .ok (.getfield 12, 3) := by decide +kernel
theorem dX5_told_56 : decode cX5_told 56 = .ok (.invokevirtual 166, 3) := by decide +kernel
theorem dX5_told_59 : decode cX5_told 59 = .ok (.ireturn, 1) := by decide +kernel
theorem dX5_told_60 : decode cX5_told 60 = .ok (.aload_n 0, 1) := by decide +kernel
theorem dX5_told_61 : decode cX5_told 61 = .ok (.getfield 12, 3) := by decide +kernel
theorem dX5_told_64 : decode cX5_told 64 = .ok (.invokevirtual 58, 3) := by decide +kernel
theorem dX5_told_67 : decode cX5_told 67 = .ok (.ireturn, 1) := by decide +kernel
theorem dX5_told_68 : decode cX5_told 68 = .ok (.aload_n 0, 1) := by decide +kernel
theorem dX5_told_69 : decode cX5_told 69 = .ok (.getfield 21, 3) := by decide +kernel
theorem dX5_told_72 : decode cX5_told 72 = .ok (.invokevirtual 163, 3) := by decide +kernel
theorem dX5_told_75 : decode cX5_told 75 = .ok (.ireturn, 1) := by decide +kernel
theorem dX5_told_76 : decode cX5_told 76 = .ok (.bipush (-2), 2) := by decide +kernel
theorem dX5_told_78 : decode cX5_told 78 = .ok (.ireturn, 1) := by decide +kernel
theorem dX5_isHeightPlace_0 : decode cX5_isHeightPlace 0 = .ok (.iload_n 0, 1) := by decide +kernel
theorem dX5_isHeightPlace_1 : decode cX5_isHeightPlace 1 = .ok (.ifCond .lt 12, 3) := by decide +kernel
theorem dX5_isHeightPlace_4 : decode cX5_isHeightPlace 4 = .ok (.iload_n 0, 1) := by decide +kernel
theorem dX5_isHeightPlace_5 : decode cX5_isHeightPlace 5 = .ok (.iconst 5, 1) := by decide +kernel
theorem dX5_isHeightPlace_6 : decode cX5_isHeightPlace 6 = .ok (.if_icmp .ge 7, 3) := by decide +kernel
theorem dX5_isHeightPlace_9 : decode cX5_isHeightPlace 9 = .ok (.iconst 1, 1) := by decide +kernel
theorem dX5_isHeightPlace_10 : decode cX5_isHeightPlace 10 = .ok (.goto 4, 3) := by decide +kernel
theorem dX5_isHeightPlace_13 : decode cX5_isHeightPlace 13 = .ok (.iconst 0, 1) := by decide +kernel
theorem dX5_isHeightPlace_14 : decode cX5_isHeightPlace 14 = .ok (.ireturn, 1) := by decide +kernel
theorem dX5_isHeight_0 : decode cX5_isHeight 0 = .ok (.iload_n 0, 1) := by decide +kernel
theorem dX5_isHeight_1 : decode cX5_isHeight 1 = .ok (.bipush (-9), 2) := by decide +kernel
theorem dX5_isHeight_3 : decode cX5_isHeight 3 = .ok (.if_icmp .lt 13, 3) := by decide +kernel
theorem dX5_isHeight_6 : decode cX5_isHeight 6 = .ok (.iload_n 0, 1) := by decide +kernel
theorem dX5_isHeight_7 : decode cX5_isHeight 7 = .ok (.bipush 9, 2) := by decide +kernel
theorem dX5_isHeight_9 : decode cX5_isHeight 9 = .ok (.if_icmp .gt 7, 3) := by decide +kernel
theorem dX5_isHeight_12 : decode cX5_isHeight 12 = .ok (.iconst 1, 1) := by decide +kernel
theorem dX5_isHeight_13 : decode cX5_isHeight 13 = .ok (.goto 4, 3) := by decide +kernel
theorem dX5_isHeight_16 : decode cX5_isHeight 16 = .ok (.iconst 0, 1) := by decide +kernel
theorem dX5_isHeight_17 : decode cX5_isHeight 17 = .ok (.ireturn, 1) := by decide +kernel
theorem dX5_isSheet_0 : decode cX5_isSheet 0 = .ok (.iload_n 0, 1) := by decide +kernel
theorem dX5_isSheet_1 : decode cX5_isSheet 1 = .ok (.ifCond .lt 12, 3) := by decide +kernel
theorem dX5_isSheet_4 : decode cX5_isSheet 4 = .ok (.iload_n 0, 1) := by decide +kernel
theorem dX5_isSheet_5 : decode cX5_isSheet 5 = .ok (.iconst 4, 1) := by decide +kernel
theorem dX5_isSheet_6 : decode cX5_isSheet 6 = .ok (.if_icmp .ge 7, 3) := by decide +kernel
theorem dX5_isSheet_9 : decode cX5_isSheet 9 = .ok (.iconst 1, 1) := by decide +kernel
theorem dX5_isSheet_10 : decode cX5_isSheet 10 = .ok (.goto 4, 3) := by decide +kernel
theorem dX5_isSheet_13 : decode cX5_isSheet 13 = .ok (.iconst 0, 1) := by decide +kernel
theorem dX5_isSheet_14 : decode cX5_isSheet 14 = .ok (.ireturn, 1) := by decide +kernel
theorem dX5_isLane_0 : decode cX5_isLane 0 = .ok (.iload_n 0, 1) := by decide +kernel
theorem dX5_isLane_1 : decode cX5_isLane 1 = .ok (.ifCond .lt 12, 3) := by decide +kernel
theorem dX5_isLane_4 : decode cX5_isLane 4 = .ok (.iload_n 0, 1) := by decide +kernel
theorem dX5_isLane_5 : decode cX5_isLane 5 = .ok (.iconst 3, 1) := by decide +kernel
theorem dX5_isLane_6 : decode cX5_isLane 6 = .ok (.if_icmp .ge 7, 3) := by decide +kernel
theorem dX5_isLane_9 : decode cX5_isLane 9 = .ok (.iconst 1, 1) := by decide +kernel
theorem dX5_isLane_10 : decode cX5_isLane 10 = .ok (.goto 4, 3) := by decide +kernel
theorem dX5_isLane_13 : decode cX5_isLane 13 = .ok (.iconst 0, 1) := by decide +kernel
theorem dX5_isLane_14 : decode cX5_isLane 14 = .ok (.ireturn, 1) := by decide +kernel
theorem dX5_isMissingWhat_0 : decode cX5_isMissingWhat 0 = .ok (.iload_n 0, 1) := by decide +kernel
theorem dX5_isMissingWhat_1 : decode cX5_isMissingWhat 1 = .ok (.ifCond .eq 8, 3) := by decide +kernel
theorem dX5_isMissingWhat_4 : decode cX5_isMissingWhat 4 = .ok (.iload_n 0, 1) := by decide +kernel
theorem dX5_isMissingWhat_5 : decode cX5_isMissingWhat 5 = .ok (.iconst 1, 1) := by decide +kernel
theorem dX5_isMissingWhat_6 : decode cX5_isMissingWhat 6 = .ok (.if_icmp .ne 7, 3) := by decide +kernel
theorem dX5_isMissingWhat_9 : decode cX5_isMissingWhat 9 = .ok (.iconst 1, 1) := by decide +kernel
theorem dX5_isMissingWhat_10 : decode cX5_isMissingWhat 10 = .ok (.goto 4, 3) := by decide +kernel
theorem dX5_isMissingWhat_13 : decode cX5_isMissingWhat 13 = .ok (.iconst 0, 1) := by decide +kernel
theorem dX5_isMissingWhat_14 : decode cX5_isMissingWhat 14 = .ok (.ireturn, 1) := by decide +kernel
set_option maxRecDepth 20000 in
theorem ggX5_areHeights_X4_read : GoodIn wsX5_areHeights wsX4_read := goodIn_r _ [5, 6, 7, 8, 9, 4, 10, 11, 16, 17, 18, 19] (by decide +kernel) (by decide +kernel)
set_option maxRecDepth 20000 in
theorem gX5_areHeights_X4_read : GoodIn wsX5_areHeights (wsV RX5 234 RX4 yX4_read wsX4_read) := goodIn_app (goodIn_of _ (by decide +kernel)) ggX5_areHeights_X4_read
set_option maxRecDepth 20000 in
theorem ggX5_areHeights_X5_isHeight : GoodIn wsX5_areHeights wsX5_isHeight := goodIn_r _ [15] (by decide +kernel) (by decide +kernel)
set_option maxRecDepth 20000 in
theorem gX5_areHeights_X5_isHeight : GoodIn wsX5_areHeights (va_wsS RX5 81 yX5_isHeight wsX5_isHeight) := goodIn_app (goodIn_of _ (by decide +kernel)) ggX5_areHeights_X5_isHeight
theorem dX5_areHeights_0 : decode cX5_areHeights 0 = .ok (.iload_n 1, 1) := by decide +kernel
theorem dX5_areHeights_1 : decode cX5_areHeights 1 = .ok (.istore_n 3, 1) := by decide +kernel
theorem dX5_areHeights_2 : decode cX5_areHeights 2 = .ok (.iload_n 3, 1) := by decide +kernel
theorem dX5_areHeights_3 : decode cX5_areHeights 3 = .ok (.iload_n 1, 1) := by decide +kernel
theorem dX5_areHeights_4 : decode cX5_areHeights 4 = .ok (.iload_n 2, 1) := by decide +kernel
theorem dX5_areHeights_5 : decode cX5_areHeights 5 = .ok (.iadd, 1) := by decide +kernel
theorem dX5_areHeights_6 : decode cX5_areHeights 6 = .ok (.if_icmp .ge 22, 3) := by decide +kernel
theorem dX5_areHeights_9 : decode cX5_areHeights 9 = .ok (.aload_n 0, 1) := by decide +kernel
theorem dX5_areHeights_10 : decode cX5_areHeights 10 = .ok (.iload_n 3, 1) := by decide +kernel
theorem dX5_areHeights_11 : decode cX5_areHeights 11 = .ok (.invokevirtual 234, 3) := by decide +kernel
theorem dX5_areHeights_14 : decode cX5_areHeights 14 = .ok (.invokestatic 81, 3) := by decide +kernel
theorem dX5_areHeights_17 : decode cX5_areHeights 17 = .ok (.ifCond .ne 5, 3) := by decide +kernel
theorem dX5_areHeights_20 : decode cX5_areHeights 20 = .ok (.iconst 0, 1) := by decide +kernel
theorem dX5_areHeights_21 : decode cX5_areHeights 21 = .ok (.ireturn, 1) := by decide +kernel
theorem dX5_areHeights_22 : decode cX5_areHeights 22 = .ok (.iinc 3 1, 3) := by decide +kernel
theorem dX5_areHeights_25 : decode cX5_areHeights 25 = .ok (.goto (-23), 3) := by decide +kernel
theorem dX5_areHeights_28 : decode cX5_areHeights 28 = .ok (.iconst 1, 1) := by decide +kernel
theorem dX5_areHeights_29 : decode cX5_areHeights 29 = .ok (.ireturn, 1) := by decide +kernel
set_option maxRecDepth 20000 in
theorem ggX5_shapeFrom_X4_read : GoodIn wsX5_shapeFrom wsX4_read := goodIn_r _ [6, 7, 8, 9, 10, 5, 11, 12, 26, 27, 28, 29] (by decide +kernel) (by decide +kernel)
set_option maxRecDepth 20000 in
theorem gX5_shapeFrom_X4_read : GoodIn wsX5_shapeFrom (wsV RX5 234 RX4 yX4_read wsX4_read) := goodIn_app (goodIn_of _ (by decide +kernel)) ggX5_shapeFrom_X4_read
set_option maxRecDepth 20000 in
theorem ggX5_shapeFrom_X1_setHeight : GoodIn wsX5_shapeFrom wsX1_setHeight := goodIn_r _ [17, 18, 30, 31, 32, 33] (by decide +kernel) (by decide +kernel)
set_option maxRecDepth 20000 in
theorem gX5_shapeFrom_X1_setHeight : GoodIn wsX5_shapeFrom (wsV RX5 70 RX1 yX1_setHeight wsX1_setHeight) := goodIn_app (goodIn_of _ (by decide +kernel)) ggX5_shapeFrom_X1_setHeight
theorem dX5_shapeFrom_0 : decode cX5_shapeFrom 0 = .ok (.iconst 0, 1) := by decide +kernel
theorem dX5_shapeFrom_1 : decode cX5_shapeFrom 1 = .ok (.istore 5, 2) := by decide +kernel
theorem dX5_shapeFrom_3 : decode cX5_shapeFrom 3 = .ok (.iload 5, 2) := by decide +kernel
theorem dX5_shapeFrom_5 : decode cX5_shapeFrom 5 = .ok (.iload_n 3, 1) := by decide +kernel
theorem dX5_shapeFrom_6 : decode cX5_shapeFrom 6 = .ok (.if_icmp .ge 51, 3) := by decide +kernel
theorem dX5_shapeFrom_9 : decode cX5_shapeFrom 9 = .ok (.iconst 0, 1) := by decide +kernel
theorem dX5_shapeFrom_10 : decode cX5_shapeFrom 10 = .ok (.istore 6, 2) := by decide +kernel
theorem dX5_shapeFrom_12 : decode cX5_shapeFrom 12 = .ok (.iload 6, 2) := by decide +kernel
theorem dX5_shapeFrom_14 : decode cX5_shapeFrom 14 = .ok (.iconst 5, 1) := by decide +kernel
theorem dX5_shapeFrom_15 : decode cX5_shapeFrom 15 = .ok (.if_icmp .ge 36, 3) := by decide +kernel
theorem dX5_shapeFrom_18 : decode cX5_shapeFrom 18 = .ok (.aload_n 0, 1) := by decide +kernel
theorem dX5_shapeFrom_19 : decode cX5_shapeFrom 19 = .ok (.getfield 12, 3) := by decide +kernel
theorem dX5_shapeFrom_22 : decode cX5_shapeFrom 22 = .ok (.iload 4, 2) := by decide +kernel
theorem dX5_shapeFrom_24 : decode cX5_shapeFrom 24 = .ok (.iload 5, 2) := by decide +kernel
theorem dX5_shapeFrom_26 : decode cX5_shapeFrom 26 = .ok (.iadd, 1) := by decide +kernel
theorem dX5_shapeFrom_27 : decode cX5_shapeFrom 27 = .ok (.iload 6, 2) := by decide +kernel
theorem dX5_shapeFrom_29 : decode cX5_shapeFrom 29 = .ok (.aload_n 1, 1) := by decide +kernel
theorem dX5_shapeFrom_30 : decode cX5_shapeFrom 30 = .ok (.iload_n 2, 1) := by decide +kernel
theorem dX5_shapeFrom_31 : decode cX5_shapeFrom 31 = .ok (.iload 5, 2) := by decide +kernel
theorem dX5_shapeFrom_33 : decode cX5_shapeFrom 33 = .ok (.iconst 5, 1) := by decide +kernel
theorem dX5_shapeFrom_34 : decode cX5_shapeFrom 34 = .ok (.imul, 1) := by decide +kernel
theorem dX5_shapeFrom_35 : decode cX5_shapeFrom 35 = .ok (.iadd, 1) := by decide +kernel
theorem dX5_shapeFrom_36 : decode cX5_shapeFrom 36 = .ok (.iload 6, 2) := by decide +kernel
theorem dX5_shapeFrom_38 : decode cX5_shapeFrom 38 = .ok (.iadd, 1) := by decide +kernel
theorem dX5_shapeFrom_39 : decode cX5_shapeFrom 39 = .ok (.invokevirtual 234, 3) := by decide +kernel
theorem dX5_shapeFrom_42 : decode cX5_shapeFrom 42 = .ok (.invokevirtual 70, 3) := by decide +kernel
theorem dX5_shapeFrom_45 : decode cX5_shapeFrom 45 = .ok (.iinc 6 1, 3) := by decide +kernel
theorem dX5_shapeFrom_48 : decode cX5_shapeFrom 48 = .ok (.goto (-36), 3) := by decide +kernel
theorem dX5_shapeFrom_51 : decode cX5_shapeFrom 51 = .ok (.iinc 5 1, 3) := by decide +kernel
theorem dX5_shapeFrom_54 : decode cX5_shapeFrom 54 = .ok (.goto (-51), 3) := by decide +kernel
theorem dX5_shapeFrom_57 : decode cX5_shapeFrom 57 = .ok (.return_, 1) := by decide +kernel
set_option maxRecDepth 20000 in
theorem ggX5_isMissing_X2_timesOf : GoodIn wsX5_isMissing wsX2_timesOf := goodIn_r _ [6, 7, 8, 16, 17, 18] (by decide +kernel) (by decide +kernel)
set_option maxRecDepth 20000 in
theorem gX5_isMissing_X2_timesOf : GoodIn wsX5_isMissing (wsV RX5 215 RX2 yX2_timesOf wsX2_timesOf) := goodIn_app (goodIn_of _ (by decide +kernel)) ggX5_isMissing_X2_timesOf
theorem dX5_isMissing_0 : decode cX5_isMissing 0 = .ok (.aload_n 0, 1) := by decide +kernel
theorem dX5_isMissing_1 : decode cX5_isMissing 1 = .ok (.getfield 21, 3) := by decide +kernel
theorem dX5_isMissing_4 : decode cX5_isMissing 4 = .ok (.iload_n 2, 1) := by decide +kernel
theorem dX5_isMissing_5 : decode cX5_isMissing 5 = .ok (.invokevirtual 215, 3) := by decide +kernel
theorem dX5_isMissing_8 : decode cX5_isMissing 8 = .ok (.istore_n 3, 1) := by decide +kernel
theorem dX5_isMissing_9 : decode cX5_isMissing 9 = .ok (.iload_n 1, 1) := by decide +kernel
theorem dX5_isMissing_10 : decode cX5_isMissing 10 = .ok (.ifCond .ne 15, 3) := by decide +kernel
theorem dX5_isMissing_13 : decode cX5_isMissing 13 = .ok (.iload_n 3, 1) := by decide +kernel
theorem dX5_isMissing_14 : decode cX5_isMissing 14 = .ok (.ifCond .ne 7, 3) := by decide +kernel
theorem dX5_isMissing_17 : decode cX5_isMissing 17 = .ok (.iconst 1, 1) := by decide +kernel
theorem dX5_isMissing_18 : decode cX5_isMissing 18 = .ok (.goto 17, 3) := by decide +kernel
theorem dX5_isMissing_21 : decode cX5_isMissing 21 = .ok (.iconst 0, 1) := by decide +kernel
theorem dX5_isMissing_22 : decode cX5_isMissing 22 = .ok (.goto 13, 3) := by decide +kernel
theorem dX5_isMissing_25 : decode cX5_isMissing 25 = .ok (.iload_n 3, 1) := by decide +kernel
theorem dX5_isMissing_26 : decode cX5_isMissing 26 = .ok (.iconst 1, 1) := by decide +kernel
theorem dX5_isMissing_27 : decode cX5_isMissing 27 = .ok (.if_icmp .le 7, 3) := by decide +kernel
theorem dX5_isMissing_30 : decode cX5_isMissing 30 = .ok (.iconst 1, 1) := by decide +kernel
theorem dX5_isMissing_31 : decode cX5_isMissing 31 = .ok (.goto 4, 3) := by decide +kernel
theorem dX5_isMissing_34 : decode cX5_isMissing 34 = .ok (.iconst 0, 1) := by decide +kernel
theorem dX5_isMissing_35 : decode cX5_isMissing 35 = .ok (.ireturn, 1) := by decide +kernel
set_option maxRecDepth 20000 in
theorem ggX5_countMissing_X1_pieces : GoodIn wsX5_countMissing wsX1_pieces := goodIn_r _ [6, 7, 8, 29, 30, 31, 32] (by decide +kernel) (by decide +kernel)
set_option maxRecDepth 20000 in
theorem gX5_countMissing_X1_pieces : GoodIn wsX5_countMissing (wsV RX5 166 RX1 yX1_pieces wsX1_pieces) := goodIn_app (goodIn_of _ (by decide +kernel)) ggX5_countMissing_X1_pieces
set_option maxRecDepth 20000 in
theorem ggX5_countMissing_X5_isMissing : GoodIn wsX5_countMissing wsX5_isMissing := goodIn_r _ [13, 14, 15, 16, 17, 18, 19, 20, 21, 22, 23, 24, 25, 26, 27, 28, 33, 34, 35] (by decide +kernel) (by decide +kernel)
set_option maxRecDepth 20000 in
theorem gX5_countMissing_X5_isMissing : GoodIn wsX5_countMissing (wsV RX5 258 RX5 yX5_isMissing wsX5_isMissing) := goodIn_app (goodIn_of _ (by decide +kernel)) ggX5_countMissing_X5_isMissing
theorem dX5_countMissing_0 : decode cX5_countMissing 0 = .ok (.iconst 0, 1) := by decide +kernel
theorem dX5_countMissing_1 : decode cX5_countMissing 1 = .ok (.istore_n 2, 1) := by decide +kernel
theorem dX5_countMissing_2 : decode cX5_countMissing 2 = .ok (.iconst 0, 1) := by decide +kernel
theorem dX5_countMissing_3 : decode cX5_countMissing 3 = .ok (.istore_n 3, 1) := by decide +kernel
theorem dX5_countMissing_4 : decode cX5_countMissing 4 = .ok (.iload_n 3, 1) := by decide +kernel
theorem dX5_countMissing_5 : decode cX5_countMissing 5 = .ok (.aload_n 0, 1) := by decide +kernel
theorem dX5_countMissing_6 : decode cX5_countMissing 6 = .ok (.getfield 12, 3) := by decide +kernel
theorem dX5_countMissing_9 : decode cX5_countMissing 9 = .ok (.invokevirtual 166, 3) := by decide +kernel
theorem dX5_countMissing_12 : decode cX5_countMissing 12 = .ok (.if_icmp .ge 21, 3) := by decide +kernel
theorem dX5_countMissing_15 : decode cX5_countMissing 15 = .ok (.aload_n 0, 1) := by decide +kernel
theorem dX5_countMissing_16 : decode cX5_countMissing 16 = .ok (.iload_n 1, 1) := by decide +kernel
theorem dX5_countMissing_17 : decode cX5_countMissing 17 = .ok (.iload_n 3, 1) := by decide +kernel
theorem dX5_countMissing_18 : decode cX5_countMissing 18 = .ok (.invokevirtual 258, 3) := by decide +kernel
theorem dX5_countMissing_21 : decode cX5_countMissing 21 = .ok (.ifCond .eq 6, 3) := by decide +kernel
theorem dX5_countMissing_24 : decode cX5_countMissing 24 = .ok (.iinc 2 1, 3) := by decide +kernel
theorem dX5_countMissing_27 : decode cX5_countMissing 27 = .ok (.iinc 3 1, 3) := by decide +kernel
theorem dX5_countMissing_30 : decode cX5_countMissing 30 = .ok (.goto (-26), 3) := by decide +kernel
theorem dX5_countMissing_33 : decode cX5_countMissing 33 = .ok (.iload_n 2, 1) := by decide +kernel
theorem dX5_countMissing_34 : decode cX5_countMissing 34 = .ok (.ireturn, 1) := by decide +kernel
set_option maxRecDepth 20000 in
theorem ggX5_missingPiece_X1_pieces : GoodIn wsX5_missingPiece wsX1_pieces := goodIn_r _ [6, 7, 8, 29, 30, 31, 32] (by decide +kernel) (by decide +kernel)
set_option maxRecDepth 20000 in
theorem gX5_missingPiece_X1_pieces : GoodIn wsX5_missingPiece (wsV RX5 166 RX1 yX1_pieces wsX1_pieces) := goodIn_app (goodIn_of _ (by decide +kernel)) ggX5_missingPiece_X1_pieces
set_option maxRecDepth 20000 in
theorem ggX5_missingPiece_X5_isMissing : GoodIn wsX5_missingPiece wsX5_isMissing := goodIn_r _ [13, 14, 15, 16, 17, 18, 19, 20, 21, 22, 23, 24, 25, 26, 27, 28, 33, 34, 35] (by decide +kernel) (by decide +kernel)
set_option maxRecDepth 20000 in
theorem gX5_missingPiece_X5_isMissing : GoodIn wsX5_missingPiece (wsV RX5 258 RX5 yX5_isMissing wsX5_isMissing) := goodIn_app (goodIn_of _ (by decide +kernel)) ggX5_missingPiece_X5_isMissing
theorem dX5_missingPiece_0 : decode cX5_missingPiece 0 = .ok (.iconst 0, 1) := by decide +kernel
theorem dX5_missingPiece_1 : decode cX5_missingPiece 1 = .ok (.istore_n 3, 1) := by decide +kernel
theorem dX5_missingPiece_2 : decode cX5_missingPiece 2 = .ok (.iconst 0, 1) := by decide +kernel
theorem dX5_missingPiece_3 : decode cX5_missingPiece 3 = .ok (.istore 4, 2) := by decide +kernel
theorem dX5_missingPiece_5 : decode cX5_missingPiece 5 = .ok (.iload 4, 2) := by decide +kernel
theorem dX5_missingPiece_7 : decode cX5_missingPiece 7 = .ok (.aload_n 0, 1) := by decide +kernel
theorem dX5_missingPiece_8 : decode cX5_missingPiece 8 = .ok (.getfield 12, 3) := by decide +kernel
theorem dX5_missingPiece_11 : decode cX5_missingPiece 11 = .ok (.invokevirtual 166, 3) := by decide +kernel
theorem dX5_missingPiece_14 : decode cX5_missingPiece 14 = .ok (.if_icmp .ge 30, 3) := by decide +kernel
theorem dX5_missingPiece_17 : decode cX5_missingPiece 17 = .ok (.aload_n 0, 1) := by decide +kernel
theorem dX5_missingPiece_18 : decode cX5_missingPiece 18 = .ok (.iload_n 1, 1) := by decide +kernel
theorem dX5_missingPiece_19 : decode cX5_missingPiece 19 = .ok (.iload 4, 2) := by decide +kernel
theorem dX5_missingPiece_21 : decode cX5_missingPiece 21 = .ok (.invokevirtual 258, 3) := by decide +kernel
theorem dX5_missingPiece_24 : decode cX5_missingPiece 24 = .ok (.ifCond .eq 14, 3) := by decide +kernel
theorem dX5_missingPiece_27 : decode cX5_missingPiece 27 = .ok (.iload_n 3, 1) := by decide +kernel
theorem dX5_missingPiece_28 : decode cX5_missingPiece 28 = .ok (.iload_n 2, 1) := by decide +kernel
theorem dX5_missingPiece_29 : decode cX5_missingPiece 29 = .ok (.if_icmp .ne 6, 3) := by decide +kernel
theorem dX5_missingPiece_32 : decode cX5_missingPiece 32 = .ok (.iload 4, 2) := by decide +kernel
theorem dX5_missingPiece_34 : decode cX5_missingPiece 34 = .ok (.ireturn, 1) := by decide +kernel
theorem dX5_missingPiece_35 : decode cX5_missingPiece 35 = .ok (.iinc 3 1, 3) := by decide +kernel
theorem dX5_missingPiece_38 : decode cX5_missingPiece 38 = .ok (.iinc 4 1, 3) := by decide +kernel
theorem dX5_missingPiece_41 : decode cX5_missingPiece 41 = .ok (.goto (-36), 3) := by decide +kernel
theorem dX5_missingPiece_44 : decode cX5_missingPiece 44 = .ok (.iconst (-1), 1) := by decide +kernel
theorem dX5_missingPiece_45 : decode cX5_missingPiece 45 = .ok (.ireturn, 1) := by decide +kernel
set_option maxRecDepth 20000 in
theorem ggX5_sumBody_X5_leave : GoodIn wsX5_sumBody wsX5_leave := goodIn_r _ [6, 7, 18, 19, 20, 21, 22, 23, 24] (by decide +kernel) (by decide +kernel)
set_option maxRecDepth 20000 in
theorem gX5_sumBody_X5_leave : GoodIn wsX5_sumBody (wsV RX5 243 RX5 yX5_leave wsX5_leave) := goodIn_app (goodIn_of _ (by decide +kernel)) ggX5_sumBody_X5_leave
set_option maxRecDepth 20000 in
theorem ggX5_sumBody_X1_sumOf : GoodIn wsX5_sumBody wsX1_sumOf := goodIn_r _ [12, 13, 14, 15, 11, 16, 17, 25, 26, 27, 28] (by decide +kernel) (by decide +kernel)
set_option maxRecDepth 20000 in
theorem gX5_sumBody_X1_sumOf : GoodIn wsX5_sumBody (wsV RX5 261 RX1 yX1_sumOf wsX1_sumOf) := goodIn_app (goodIn_of _ (by decide +kernel)) ggX5_sumBody_X1_sumOf
theorem dX5_sumBody_0 : decode cX5_sumBody 0 = .ok (.aload_n 0, 1) := by decide +kernel
theorem dX5_sumBody_1 : decode cX5_sumBody 1 = .ok (.iconst 1, 1) := by decide +kernel
theorem dX5_sumBody_2 : decode cX5_sumBody 2 = .ok (.invokevirtual 243, 3) := by decide +kernel
theorem dX5_sumBody_5 : decode cX5_sumBody 5 = .ok (.aload_n 0, 1) := by decide +kernel
theorem dX5_sumBody_6 : decode cX5_sumBody 6 = .ok (.getfield 12, 3) := by decide +kernel
theorem dX5_sumBody_9 : decode cX5_sumBody 9 = .ok (.iload_n 1, 1) := by decide +kernel
theorem dX5_sumBody_10 : decode cX5_sumBody 10 = .ok (.invokevirtual 261, 3) := by decide +kernel
theorem dX5_sumBody_13 : decode cX5_sumBody 13 = .ok (.ireturn, 1) := by decide +kernel
theorem dX5_leave_0 : decode cX5_leave 0 = .ok (.aload_n 0, 1) := by decide +kernel
theorem dX5_leave_1 : decode cX5_leave 1 = .ok (.bipush 31, 2) := by decide +kernel
theorem dX5_leave_3 : decode cX5_leave 3 = .ok (.aload_n 0, 1) := by decide +kernel
theorem dX5_leave_4 : decode cX5_leave 4 = .ok (.getfield 249, 3) := by decide +kernel
theorem dX5_leave_7 : decode cX5_leave 7 = .ok (.imul, 1) := by decide +kernel
theorem dX5_leave_8 : decode cX5_leave 8 = .ok (.iload_n 1, 1) := by decide +kernel
theorem dX5_leave_9 : decode cX5_leave 9 = .ok (.iadd, 1) := by decide +kernel
theorem dX5_leave_10 : decode cX5_leave 10 = .ok (.putfield 249, 3) := by decide +kernel
theorem dX5_leave_13 : decode cX5_leave 13 = .ok (.return_, 1) := by decide +kernel
theorem dX5_come_0 : decode cX5_come 0 = .ok (.aload_n 0, 1) := by decide +kernel
theorem dX5_come_1 : decode cX5_come 1 = .ok (.iload_n 1, 1) := by decide +kernel
theorem dX5_come_2 : decode cX5_come 2 = .ok (.putfield 90, 3) := by decide +kernel
theorem dX5_come_5 : decode cX5_come 5 = .ok (.bipush (-10), 2) := by decide +kernel
theorem dX5_come_7 : decode cX5_come 7 = .ok (.iload_n 1, 1) := by decide +kernel
theorem dX5_come_8 : decode cX5_come 8 = .ok (.isub, 1) := by decide +kernel
theorem dX5_come_9 : decode cX5_come 9 = .ok (.ireturn, 1) := by decide +kernel
theorem dX5_comeLost_0 : decode cX5_comeLost 0 = .ok (.aload_n 0, 1) := by decide +kernel
theorem dX5_comeLost_1 : decode cX5_comeLost 1 = .ok (.iload_n 1, 1) := by decide +kernel
theorem dX5_comeLost_2 : decode cX5_comeLost 2 = .ok (.putfield 90, 3) := by decide +kernel
theorem dX5_comeLost_5 : decode cX5_comeLost 5 = .ok (.ldc2_w 84, 3) := by decide +kernel
theorem dX5_comeLost_8 : decode cX5_comeLost 8 = .ok (.lreturn, 1) := by decide +kernel
theorem dX6_init_0 : decode cX6_init 0 = .ok (.aload_n 0, 1) := by decide +kernel
theorem dX6_init_1 : decode cX6_init 1 = .ok (.invokespecial 1, 3) := by decide +kernel
theorem dX6_init_4 : decode cX6_init 4 = .ok (.aload_n 0, 1) := by decide +kernel
theorem dX6_init_5 : decode cX6_init 5 = .ok (.sipush 200, 3) := by decide +kernel
theorem dX6_init_8 : decode cX6_init 8 = .ok (.newarray .int, 2) := by decide +kernel
theorem dX6_init_10 : decode cX6_init 10 = .ok (.putfield 7, 3) := by decide +kernel
theorem dX6_init_13 : decode cX6_init 13 = .ok (.aload_n 0, 1) := by decide +kernel
theorem dX6_init_14 : decode cX6_init 14 = .ok (.bipush 25, 2) := by decide +kernel
theorem dX6_init_16 : decode cX6_init 16 = .ok (.newarray .int, 2) := by decide +kernel
theorem dX6_init_18 : decode cX6_init 18 = .ok (.putfield 13, 3) := by decide +kernel
theorem dX6_init_21 : decode cX6_init 21 = .ok (.aload_n 0, 1) := by decide +kernel
theorem dX6_init_22 : decode cX6_init 22 = .ok (.bipush 25, 2) := by decide +kernel
theorem dX6_init_24 : decode cX6_init 24 = .ok (.newarray .int, 2) := by decide +kernel
theorem dX6_init_26 : decode cX6_init 26 = .ok (.putfield 16, 3) := by decide +kernel
theorem dX6_init_29 : decode cX6_init 29 = .ok (.aload_n 0, 1) := by decide +kernel
theorem dX6_init_30 : decode cX6_init 30 = .ok (.bipush 26, 2) := by decide +kernel
theorem dX6_init_32 : decode cX6_init 32 = .ok (.newarray .int, 2) := by decide +kernel
theorem dX6_init_34 : decode cX6_init 34 = .ok (.putfield 19, 3) := by decide +kernel
theorem dX6_init_37 : decode cX6_init 37 = .ok (.aload_n 0, 1) := by decide +kernel
theorem dX6_init_38 : decode cX6_init 38 = .ok (.bipush 26, 2) := by decide +kernel
theorem dX6_init_40 : decode cX6_init 40 = .ok (.newarray .int, 2) := by decide +kernel
theorem dX6_init_42 : decode cX6_init 42 = .ok (.putfield 22, 3) := by decide +kernel
theorem dX6_init_45 : decode cX6_init 45 = .ok (.aload_n 0, 1) := by decide +kernel
theorem dX6_init_46 : decode cX6_init 46 = .ok (.bipush 25, 2) := by decide +kernel
theorem dX6_init_48 : decode cX6_init 48 = .ok (.newarray .boolean, 2) := by decide +kernel
theorem dX6_init_50 : decode cX6_init 50 = .ok (.putfield 25, 3) := by decide +kernel
theorem dX6_init_53 : decode cX6_init 53 = .ok (.aload_n 0, 1) := by decide +kernel
theorem dX6_init_54 : decode cX6_init 54 = .ok (.bipush 25, 2) := by decide +kernel
theorem dX6_init_56 : decode cX6_init 56 = .ok (.newarray .int, 2) := by decide +kernel
theorem dX6_init_58 : decode cX6_init 58 = .ok (.putfield 29, 3) := by decide +kernel
theorem dX6_init_61 : decode cX6_init 61 = .ok (.aload_n 0, 1) := by decide +kernel
theorem dX6_init_62 : decode cX6_init 62 = .ok (.bipush 25, 2) := by decide +kernel
theorem dX6_init_64 : decode cX6_init 64 = .ok (.newarray .int, 2) := by decide +kernel
theorem dX6_init_66 : decode cX6_init 66 = .ok (.putfield 32, 3) := by decide +kernel
theorem dX6_init_69 : decode cX6_init 69 = .ok (.aload_n 0, 1) := by decide +kernel
theorem dX6_init_70 : decode cX6_init 70 = .ok (.iconst 4, 1) := by decide +kernel
theorem dX6_init_71 : decode cX6_init 71 = .ok (.newarray .int, 2) := by decide +kernel
theorem dX6_init_73 : decode cX6_init 73 = .ok (.putfield 35, 3) := by decide +kernel
theorem dX6_init_76 : decode cX6_init 76 = .ok (.aload_n 0, 1) := by decide +kernel
theorem dX6_init_77 : decode cX6_init 77 = .ok (.iconst 4, 1) := by decide +kernel
theorem dX6_init_78 : decode cX6_init 78 = .ok (.newarray .int, 2) := by decide +kernel
theorem dX6_init_80 : decode cX6_init 80 = .ok (.putfield 38, 3) := by decide +kernel
theorem dX6_init_83 : decode cX6_init 83 = .ok (.aload_n 0, 1) := by decide +kernel
theorem dX6_init_84 : decode cX6_init 84 = .ok (.sipush 200, 3) := by decide +kernel
theorem dX6_init_87 : decode cX6_init 87 = .ok (.newarray .int, 2) := by decide +kernel
theorem dX6_init_89 : decode cX6_init 89 = .ok (.putfield 41, 3) := by decide +kernel
theorem dX6_init_92 : decode cX6_init 92 = .ok (.aload_n 0, 1) := by decide +kernel
theorem dX6_init_93 : decode cX6_init 93 = .ok (.bipush 50, 2) := by decide +kernel
theorem dX6_init_95 : decode cX6_init 95 = .ok (.newarray .int, 2) := by decide +kernel
theorem dX6_init_97 : decode cX6_init 97 = .ok (.putfield 44, 3) := by decide +kernel
theorem dX6_init_100 : decode cX6_init 100 = .ok (.aload_n 0, 1) := by decide +kernel
theorem dX6_init_101 : decode cX6_init 101 = .ok (.iconst 1, 1) := by decide +kernel
theorem dX6_init_102 : decode cX6_init 102 = .ok (.putfield 47, 3) := by decide +kernel
theorem dX6_init_105 : decode cX6_init 105 = .ok (.aload_n 0, 1) := by decide +kernel
theorem dX6_init_106 : decode cX6_init 106 = .ok (.iconst 1, 1) := by decide +kernel
theorem dX6_init_107 : decode cX6_init 107 = .ok (.putfield 51, 3) := by decide +kernel
theorem dX6_init_110 : decode cX6_init 110 = .ok (.iconst 0, 1) := by decide +kernel
theorem dX6_init_111 : decode cX6_init 111 = .ok (.istore_n 1, 1) := by decide +kernel
theorem dX6_init_112 : decode cX6_init 112 = .ok (.iload_n 1, 1) := by decide +kernel
theorem dX6_init_113 : decode cX6_init 113 = .ok (.iconst 4, 1) := by decide +kernel
theorem dX6_init_114 : decode cX6_init 114 = .ok (.if_icmp .ge 16, 3) := by decide +kernel
theorem dX6_init_117 : decode cX6_init 117 = .ok (.aload_n 0, 1) := by decide +kernel
theorem dX6_init_118 : decode cX6_init 118 = .ok (.getfield 35, 3) := by decide +kernel
theorem dX6_init_121 : decode cX6_init 121 = .ok (.iload_n 1, 1) := by decide +kernel
theorem dX6_init_122 : decode cX6_init 122 = .ok (.iconst (-1), 1) := by decide +kernel
theorem dX6_init_123 : decode cX6_init 123 = .ok (.iastore, 1) := by decide +kernel
theorem dX6_init_124 : decode cX6_init 124 = .ok (.iinc 1 1, 3) := by decide +kernel
theorem dX6_init_127 : decode cX6_init 127 = .ok (.goto (-15), 3) := by decide +kernel
theorem dX6_init_130 : decode cX6_init 130 = .ok (.return_, 1) := by decide +kernel
theorem dX6_in_0 : decode cX6_in 0 = .ok (.lload_n 0, 1) := by decide +kernel
theorem dX6_in_1 : decode cX6_in 1 = .ok (.lload_n 2, 1) := by decide +kernel
theorem dX6_in_2 : decode cX6_in 2 = .ok (.lcmp, 1) := by decide +kernel
theorem dX6_in_3 : decode cX6_in 3 = .ok (.ifCond .lt 14, 3) := by decide +kernel
theorem dX6_in_6 : decode cX6_in 6 = .ok (.lload_n 0, 1) := by decide +kernel
theorem dX6_in_7 : decode cX6_in 7 = .ok (.lload 4, 2) := by decide +kernel
theorem dX6_in_9 : decode cX6_in 9 = .ok (.lcmp, 1) := by decide +kernel
theorem dX6_in_10 : decode cX6_in 10 = .ok (.ifCond .gt 7, 3) := by decide +kernel
theorem dX6_in_13 : decode cX6_in 13 = .ok (.iconst 1, 1) := by decide +kernel
theorem dX6_in_14 : decode cX6_in 14 = .ok (.goto 4, 3) := by decide +kernel
theorem dX6_in_17 : decode cX6_in 17 = .ok (.iconst 0, 1) := by decide +kernel
theorem dX6_in_18 : decode cX6_in 18 = .ok (.ireturn, 1) := by decide +kernel
theorem dX6_lost_0 : decode cX6_lost 0 = .ok (.ldc2_w 54, 3) := by decide +kernel
theorem dX6_lost_3 : decode cX6_lost 3 = .ok (.lreturn, 1) := by decide +kernel
theorem dX6_refused_0 : decode cX6_refused 0 = .ok (.aload_n 0, 1) := by decide +kernel
theorem dX6_refused_1 : decode cX6_refused 1 = .ok (.iconst 0, 1) := by decide +kernel
theorem dX6_refused_2 : decode cX6_refused 2 = .ok (.putfield 56, 3) := by decide +kernel
theorem dX6_refused_5 : decode cX6_refused 5 = .ok (.iload_n 1, 1) := by decide +kernel
theorem dX6_refused_6 : decode cX6_refused 6 = .ok (.ireturn, 1) := by decide +kernel
theorem dX6_failed_0 : decode cX6_failed 0 = .ok (.aload_n 0, 1) := by decide +kernel
theorem dX6_failed_1 : decode cX6_failed 1 = .ok (.iload_n 1, 1) := by decide +kernel
theorem dX6_failed_2 : decode cX6_failed 2 = .ok (.putfield 56, 3) := by decide +kernel
theorem dX6_failed_5 : decode cX6_failed 5 = .ok (.bipush (-10), 2) := by decide +kernel
theorem dX6_failed_7 : decode cX6_failed 7 = .ok (.iload_n 1, 1) := by decide +kernel
theorem dX6_failed_8 : decode cX6_failed 8 = .ok (.isub, 1) := by decide +kernel
theorem dX6_failed_9 : decode cX6_failed 9 = .ok (.ireturn, 1) := by decide +kernel
set_option maxRecDepth 20000 in
theorem ggX6_failedLong_X6_lost : GoodIn wsX6_failedLong wsX6_lost := goodIn_r _ [5, 6] (by decide +kernel) (by decide +kernel)
set_option maxRecDepth 20000 in
theorem gX6_failedLong_X6_lost : GoodIn wsX6_failedLong (va_wsS RX6 59 yX6_lost wsX6_lost) := goodIn_app (goodIn_of _ (by decide +kernel)) ggX6_failedLong_X6_lost
theorem dX6_failedLong_0 : decode cX6_failedLong 0 = .ok (.aload_n 0, 1) := by decide +kernel
theorem dX6_failedLong_1 : decode cX6_failedLong 1 = .ok (.iload_n 1, 1) := by decide +kernel
theorem dX6_failedLong_2 : decode cX6_failedLong 2 = .ok (.putfield 56, 3) := by decide +kernel
theorem dX6_failedLong_5 : decode cX6_failedLong 5 = .ok (.invokestatic 59, 3) := by decide +kernel
theorem dX6_failedLong_8 : decode cX6_failedLong 8 = .ok (.lreturn, 1) := by decide +kernel
theorem dX6_sizeOf_0 : decode cX6_sizeOf 0 = .ok (.iload_n 0, 1) := by decide +kernel
theorem dX6_sizeOf_1 : decode cX6_sizeOf 1 = .ok (.ifCond .ge 8, 3) := by decide +kernel
theorem dX6_sizeOf_4 : decode cX6_sizeOf 4 = .ok (.iload_n 0, 1) := by decide +kernel
theorem dX6_sizeOf_5 : decode cX6_sizeOf 5 = .ok (.ineg, 1) := by decide +kernel
theorem dX6_sizeOf_6 : decode cX6_sizeOf 6 = .ok (.goto 4, 3) := by decide +kernel
theorem dX6_sizeOf_9 : decode cX6_sizeOf 9 = .ok (.iload_n 0, 1) := by decide +kernel
theorem dX6_sizeOf_10 : decode cX6_sizeOf 10 = .ok (.ireturn, 1) := by decide +kernel
theorem dX6_across_0 : decode cX6_across 0 = .ok (.aload_n 0, 1) := by decide +kernel
theorem dX6_across_1 : decode cX6_across 1 = .ok (.getfield 47, 3) := by decide +kernel
theorem dX6_across_4 : decode cX6_across 4 = .ok (.iconst 1, 1) := by decide +kernel
theorem dX6_across_5 : decode cX6_across 5 = .ok (.isub, 1) := by decide +kernel
theorem dX6_across_6 : decode cX6_across 6 = .ok (.aload_n 0, 1) := by decide +kernel
theorem dX6_across_7 : decode cX6_across 7 = .ok (.getfield 51, 3) := by decide +kernel
theorem dX6_across_10 : decode cX6_across 10 = .ok (.imul, 1) := by decide +kernel
theorem dX6_across_11 : decode cX6_across 11 = .ok (.ireturn, 1) := by decide +kernel
set_option maxRecDepth 20000 in
theorem ggX6_sides_X6_across : GoodIn wsX6_sides wsX6_across := goodIn_r _ [7, 1, 2, 8, 9, 10, 11, 12, 13, 14, 15, 16, 17, 18, 19, 20, 21, 22, 23, 24, 25, 26, 27, 28, 29, 30] (by decide +kernel) (by decide +kernel)
set_option maxRecDepth 20000 in
theorem gX6_sides_X6_across : GoodIn wsX6_sides (wsV RX6 63 RX6 yX6_across wsX6_across) := goodIn_app (goodIn_of _ (by decide +kernel)) ggX6_sides_X6_across
theorem dX6_sides_0 : decode cX6_sides 0 = .ok (.aload_n 0, 1) := by decide +kernel
theorem dX6_sides_1 : decode cX6_sides 1 = .ok (.invokevirtual 63, 3) := by decide +kernel
theorem dX6_sides_4 : decode cX6_sides 4 = .ok (.aload_n 0, 1) := by decide +kernel
theorem dX6_sides_5 : decode cX6_sides 5 = .ok (.getfield 47, 3) := by decide +kernel
theorem dX6_sides_8 : decode cX6_sides 8 = .ok (.aload_n 0, 1) := by decide +kernel
theorem dX6_sides_9 : decode cX6_sides 9 = .ok (.getfield 51, 3) := by decide +kernel
theorem dX6_sides_12 : decode cX6_sides 12 = .ok (.iconst 1, 1) := by decide +kernel
theorem dX6_sides_13 : decode cX6_sides 13 = .ok (.isub, 1) := by decide +kernel
theorem dX6_sides_14 : decode cX6_sides 14 = .ok (.imul, 1) := by decide +kernel
theorem dX6_sides_15 : decode cX6_sides 15 = .ok (.iadd, 1) := by decide +kernel
theorem dX6_sides_16 : decode cX6_sides 16 = .ok (.ireturn, 1) := by decide +kernel
theorem dX6_pieces_0 : decode cX6_pieces 0 = .ok (.aload_n 0, 1) := by decide +kernel
theorem dX6_pieces_1 : decode cX6_pieces 1 = .ok (.getfield 47, 3) := by decide +kernel
theorem dX6_pieces_4 : decode cX6_pieces 4 = .ok (.aload_n 0, 1) := by decide +kernel
theorem dX6_pieces_5 : decode cX6_pieces 5 = .ok (.getfield 51, 3) := by decide +kernel
theorem dX6_pieces_8 : decode cX6_pieces 8 = .ok (.imul, 1) := by decide +kernel
theorem dX6_pieces_9 : decode cX6_pieces 9 = .ok (.ireturn, 1) := by decide +kernel
set_option maxRecDepth 20000 in
theorem ggX6_noSide_X6_sides : GoodIn wsX6_noSide wsX6_sides := goodIn_r _ [5, 6, 7, 8, 9, 10, 4, 11, 15, 16, 17, 18, 19, 20, 21, 22, 23, 24, 25, 26, 27, 28, 29, 30, 31, 32, 33, 34, 35, 36, 37] (by decide +kernel) (by decide +kernel)
set_option maxRecDepth 20000 in
theorem gX6_noSide_X6_sides : GoodIn wsX6_noSide (wsV RX6 67 RX6 yX6_sides wsX6_sides) := goodIn_app (goodIn_of _ (by decide +kernel)) ggX6_noSide_X6_sides
set_option maxRecDepth 20000 in
theorem ggX6_noSide_X6_in : GoodIn wsX6_noSide wsX6_in := goodIn_r _ [14] (by decide +kernel) (by decide +kernel)
set_option maxRecDepth 20000 in
theorem gX6_noSide_X6_in : GoodIn wsX6_noSide (va_wsS RX6 70 yX6_in wsX6_in) := goodIn_app (goodIn_of _ (by decide +kernel)) ggX6_noSide_X6_in
theorem dX6_noSide_0 : decode cX6_noSide 0 = .ok (.iload_n 1, 1) := by decide +kernel
theorem dX6_noSide_1 : decode cX6_noSide 1 = .ok (.i2l, 1) := by decide +kernel
theorem dX6_noSide_2 : decode cX6_noSide 2 = .ok (.lconst 0, 1) := by decide +kernel
theorem dX6_noSide_3 : decode cX6_noSide 3 = .ok (.aload_n 0, 1) := by decide +kernel
theorem dX6_noSide_4 : decode cX6_noSide 4 = .ok (.invokevirtual 67, 3) := by decide +kernel
theorem dX6_noSide_7 : decode cX6_noSide 7 = .ok (.i2l, 1) := by decide +kernel
theorem dX6_noSide_8 : decode cX6_noSide 8 = .ok (.lconst 1, 1) := by decide +kernel
theorem dX6_noSide_9 : decode cX6_noSide 9 = .ok (.lsub, 1) := by decide +kernel
theorem dX6_noSide_10 : decode cX6_noSide 10 = .ok (.invokestatic 70, 3) := by decide +kernel
theorem dX6_noSide_13 : decode cX6_noSide 13 = .ok (.ifCond .ne 7, 3) := by decide +kernel
theorem dX6_noSide_16 : decode cX6_noSide 16 = .ok (.iconst 1, 1) := by decide +kernel
theorem dX6_noSide_17 : decode cX6_noSide 17 = .ok (.goto 4, 3) := by decide +kernel
theorem dX6_noSide_20 : decode cX6_noSide 20 = .ok (.iconst 0, 1) := by decide +kernel
theorem dX6_noSide_21 : decode cX6_noSide 21 = .ok (.ireturn, 1) := by decide +kernel
set_option maxRecDepth 20000 in
theorem ggX6_noPiece_X6_pieces : GoodIn wsX6_noPiece wsX6_pieces := goodIn_r _ [5, 6, 7, 11, 12, 13, 14, 15, 16, 17, 18, 19, 20, 21, 22, 23, 24, 25, 26, 27, 28, 29, 30, 31, 32, 33] (by decide +kernel) (by decide +kernel)
set_option maxRecDepth 20000 in
theorem gX6_noPiece_X6_pieces : GoodIn wsX6_noPiece (wsV RX6 74 RX6 yX6_pieces wsX6_pieces) := goodIn_app (goodIn_of _ (by decide +kernel)) ggX6_noPiece_X6_pieces
set_option maxRecDepth 20000 in
theorem ggX6_noPiece_X6_in : GoodIn wsX6_noPiece wsX6_in := goodIn_r _ [10] (by decide +kernel) (by decide +kernel)
set_option maxRecDepth 20000 in
theorem gX6_noPiece_X6_in : GoodIn wsX6_noPiece (va_wsS RX6 70 yX6_in wsX6_in) := goodIn_app (goodIn_of _ (by decide +kernel)) ggX6_noPiece_X6_in
theorem dX6_noPiece_0 : decode cX6_noPiece 0 = .ok (.iload_n 1, 1) := by decide +kernel
theorem dX6_noPiece_1 : decode cX6_noPiece 1 = .ok (.i2l, 1) := by decide +kernel
theorem dX6_noPiece_2 : decode cX6_noPiece 2 = .ok (.lconst 0, 1) := by decide +kernel
theorem dX6_noPiece_3 : decode cX6_noPiece 3 = .ok (.aload_n 0, 1) := by decide +kernel
theorem dX6_noPiece_4 : decode cX6_noPiece 4 = .ok (.invokevirtual 74, 3) := by decide +kernel
theorem dX6_noPiece_7 : decode cX6_noPiece 7 = .ok (.i2l, 1) := by decide +kernel
theorem dX6_noPiece_8 : decode cX6_noPiece 8 = .ok (.lconst 1, 1) := by decide +kernel
theorem dX6_noPiece_9 : decode cX6_noPiece 9 = .ok (.lsub, 1) := by decide +kernel
theorem dX6_noPiece_10 : decode cX6_noPiece 10 = .ok (.invokestatic 70, 3) := by decide +kernel
theorem dX6_noPiece_13 : decode cX6_noPiece 13 = .ok (.ifCond .ne 7, 3) := by decide +kernel
theorem dX6_noPiece_16 : decode cX6_noPiece 16 = .ok (.iconst 1, 1) := by decide +kernel
theorem dX6_noPiece_17 : decode cX6_noPiece 17 = .ok (.goto 4, 3) := by decide +kernel
theorem dX6_noPiece_20 : decode cX6_noPiece 20 = .ok (.iconst 0, 1) := by decide +kernel
theorem dX6_noPiece_21 : decode cX6_noPiece 21 = .ok (.ireturn, 1) := by decide +kernel
theorem dX6_changed_0 : decode cX6_changed 0 = .ok (.aload_n 0, 1) := by decide +kernel
theorem dX6_changed_1 : decode cX6_changed 1 = .ok (.iconst 0, 1) := by decide +kernel
theorem dX6_changed_2 : decode cX6_changed 2 = .ok (.putfield 77, 3) := by decide +kernel
theorem dX6_changed_5 : decode cX6_changed 5 = .ok (.return_, 1) := by decide +kernel
set_option maxRecDepth 20000 in
theorem ggX6_picture_X6_in : GoodIn wsX6_picture wsX6_in := goodIn_r _ [9] (by decide +kernel) (by decide +kernel)
set_option maxRecDepth 20000 in
theorem gX6_picture_X6_in : GoodIn wsX6_picture (va_wsS RX6 70 yX6_in wsX6_in) := goodIn_app (goodIn_of _ (by decide +kernel)) ggX6_picture_X6_in
set_option maxRecDepth 20000 in
theorem ggX6_picture_X6_changed : GoodIn wsX6_picture wsX6_changed := goodIn_r _ [13, 14, 23, 24, 25, 26, 27, 28, 29, 30, 31, 32, 33, 34, 35, 36, 37, 38, 39, 40, 41, 42, 43, 44, 45] (by decide +kernel) (by decide +kernel)
set_option maxRecDepth 20000 in
theorem gX6_picture_X6_changed : GoodIn wsX6_picture (wsV RX6 86 RX6 yX6_changed wsX6_changed) := goodIn_app (goodIn_of _ (by decide +kernel)) ggX6_picture_X6_changed
set_option maxRecDepth 20000 in
theorem ggX6_picture_X6_sides : GoodIn wsX6_picture wsX6_sides := goodIn_r _ [18, 2, 3, 19, 20, 21, 8, 22, 23, 24, 25, 26, 27, 28, 29, 30, 31, 32, 33, 34, 35, 36, 37, 38, 39, 40, 41, 42, 43, 44, 45] (by decide +kernel) (by decide +kernel)
set_option maxRecDepth 20000 in
theorem gX6_picture_X6_sides : GoodIn wsX6_picture (wsV RX6 67 RX6 yX6_sides wsX6_sides) := goodIn_app (goodIn_of _ (by decide +kernel)) ggX6_picture_X6_sides
theorem dX6_picture_0 : decode cX6_picture 0 = .ok (.iload_n 1, 1) := by decide +kernel
theorem dX6_picture_1 : decode cX6_picture 1 = .ok (.i2l, 1) := by decide +kernel
theorem dX6_picture_2 : decode cX6_picture 2 = .ok (.lconst 1, 1) := by decide +kernel
theorem dX6_picture_3 : decode cX6_picture 3 = .ok (.ldc2_w 81, 3) := by decide +kernel
theorem dX6_picture_6 : decode cX6_picture 6 = .ok (.invokestatic 70, 3) := by decide +kernel
theorem dX6_picture_9 : decode cX6_picture 9 = .ok (.ifCond .eq 15, 3) := by decide +kernel
theorem dX6_picture_12 : decode cX6_picture 12 = .ok (.iload_n 2, 1) := by decide +kernel
theorem dX6_picture_13 : decode cX6_picture 13 = .ok (.i2l, 1) := by decide +kernel
theorem dX6_picture_14 : decode cX6_picture 14 = .ok (.lconst 1, 1) := by decide +kernel
theorem dX6_picture_15 : decode cX6_picture 15 = .ok (.ldc2_w 81, 3) := by decide +kernel
theorem dX6_picture_18 : decode cX6_picture 18 = .ok (.invokestatic 70, 3) := by decide +kernel
theorem dX6_picture_21 : decode cX6_picture 21 = .ok (.ifCond .ne 6, 3) := by decide +kernel
theorem dX6_picture_24 : decode cX6_picture 24 = .ok (.bipush (-2), 2) := by decide +kernel
theorem dX6_picture_26 : decode cX6_picture 26 = .ok (.ireturn, 1) := by decide +kernel
theorem dX6_picture_27 : decode cX6_picture 27 = .ok (.aload_n 0, 1) := by decide +kernel
theorem dX6_picture_28 : decode cX6_picture 28 = .ok (.iload_n 1, 1) := by decide +kernel
theorem dX6_picture_29 : decode cX6_picture 29 = .ok (.putfield 47, 3) := by decide +kernel
theorem dX6_picture_32 : decode cX6_picture 32 = .ok (.aload_n 0, 1) := by decide +kernel
theorem dX6_picture_33 : decode cX6_picture 33 = .ok (.iload_n 2, 1) := by decide +kernel
theorem dX6_picture_34 : decode cX6_picture 34 = .ok (.putfield 51, 3) := by decide +kernel
theorem dX6_picture_37 : decode cX6_picture 37 = .ok (.iconst 0, 1) := by decide +kernel
theorem dX6_picture_38 : decode cX6_picture 38 = .ok (.istore_n 3, 1) := by decide +kernel
theorem dX6_picture_39 : decode cX6_picture 39 = .ok (.iload_n 3, 1) := by decide +kernel
theorem dX6_picture_40 : decode cX6_picture 40 = .ok (.sipush 200, 3) := by decide +kernel
theorem dX6_picture_43 : decode cX6_picture 43 = .ok (.if_icmp .ge 16, 3) := by decide +kernel
theorem dX6_picture_46 : decode cX6_picture 46 = .ok (.aload_n 0, 1) := by decide +kernel
theorem dX6_picture_47 : decode cX6_picture 47 = .ok (.getfield 7, 3) := by decide +kernel
theorem dX6_picture_50 : decode cX6_picture 50 = .ok (.iload_n 3, 1) := by decide +kernel
theorem dX6_picture_51 : decode cX6_picture 51 = .ok (.iconst 0, 1) := by decide +kernel
theorem dX6_picture_52 : decode cX6_picture 52 = .ok (.iastore, 1) := by decide +kernel
theorem dX6_picture_53 : decode cX6_picture 53 = .ok (.iinc 3 1, 3) := by decide +kernel
theorem dX6_picture_56 : decode cX6_picture 56 = .ok (.goto (-17), 3) := by decide +kernel
theorem dX6_picture_59 : decode cX6_picture 59 = .ok (.aload_n 0, 1) := by decide +kernel
theorem dX6_picture_60 : decode cX6_picture 60 = .ok (.iconst 0, 1) := by decide +kernel
theorem dX6_picture_61 : decode cX6_picture 61 = .ok (.putfield 83, 3) := by decide +kernel
theorem dX6_picture_64 : decode cX6_picture 64 = .ok (.aload_n 0, 1) := by decide +kernel
theorem dX6_picture_65 : decode cX6_picture 65 = .ok (.invokevirtual 86, 3) := by decide +kernel
theorem dX6_picture_68 : decode cX6_picture 68 = .ok (.aload_n 0, 1) := by decide +kernel
theorem dX6_picture_69 : decode cX6_picture 69 = .ok (.invokevirtual 67, 3) := by decide +kernel
theorem dX6_picture_72 : decode cX6_picture 72 = .ok (.ireturn, 1) := by decide +kernel
theorem dX6_numberBelow_0 : decode cX6_numberBelow 0 = .ok (.aload_n 0, 1) := by decide +kernel
theorem dX6_numberBelow_1 : decode cX6_numberBelow 1 = .ok (.aload_n 0, 1) := by decide +kernel
theorem dX6_numberBelow_2 : decode cX6_numberBelow 2 = .ok (.getfield 89, 3) := by decide +kernel
theorem dX6_numberBelow_5 : decode cX6_numberBelow 5 = .ok (.ldc2_w 93, 3) := by decide +kernel
theorem dX6_numberBelow_8 : decode cX6_numberBelow 8 = .ok (.lmul, 1) := by decide +kernel
theorem dX6_numberBelow_9 : decode cX6_numberBelow 9 = .ok (.ldc2_w 95, 3) := by decide +kernel
theorem dX6_numberBelow_12 : decode cX6_numberBelow 12 = .ok (.ladd, 1) := by decide +kernel
theorem dX6_numberBelow_13 : decode cX6_numberBelow 13 = .ok (.putfield 89, 3) := by decide +kernel
theorem dX6_numberBelow_16 : decode cX6_numberBelow 16 = .ok (.aload_n 0, 1) := by decide +kernel
theorem dX6_numberBelow_17 : decode cX6_numberBelow 17 = .ok (.getfield 89, 3) := by decide +kernel
theorem dX6_numberBelow_20 : decode cX6_numberBelow 20 = .ok (.ldc2_w 97, 3) := by decide +kernel
theorem dX6_numberBelow_23 : decode cX6_numberBelow 23 = .ok (.land, 1) := by decide +kernel
theorem dX6_numberBelow_24 : decode cX6_numberBelow 24 = .ok (.ldc2_w 99, 3) := by decide +kernel
theorem dX6_numberBelow_27 : decode cX6_numberBelow 27 = .ok (.ldiv, 1) := by decide +kernel
theorem dX6_numberBelow_28 : decode cX6_numberBelow 28 = .ok (.iload_n 1, 1) := by decide +kernel
theorem dX6_numberBelow_29 : decode cX6_numberBelow 29 = .ok (.i2l, 1) := by decide +kernel
theorem dX6_numberBelow_30 : decode cX6_numberBelow 30 = .ok (.lrem, 1) := by decide +kernel
theorem dX6_numberBelow_31 : decode cX6_numberBelow 31 = .ok (.l2i, 1) := by decide +kernel
theorem dX6_numberBelow_32 : decode cX6_numberBelow 32 = .ok (.ireturn, 1) := by decide +kernel
set_option maxRecDepth 20000 in
theorem ggX6_make_X6_sides : GoodIn wsX6_make wsX6_sides := goodIn_r _ [7, 8, 9, 10, 11, 12, 6, 13, 27, 28, 29, 30, 31, 32, 33, 34, 35, 36, 37, 38, 39, 40, 41, 42, 43, 44, 45, 46, 47, 48, 49] (by decide +kernel) (by decide +kernel)
set_option maxRecDepth 20000 in
theorem gX6_make_X6_sides : GoodIn wsX6_make (wsV RX6 67 RX6 yX6_sides wsX6_sides) := goodIn_app (goodIn_of _ (by decide +kernel)) ggX6_make_X6_sides
set_option maxRecDepth 20000 in
theorem ggX6_make_X6_numberBelow : GoodIn wsX6_make wsX6_numberBelow := goodIn_r _ [17, 1, 18, 19, 20, 21, 27, 28, 29, 30, 31, 32, 33, 34, 35, 36, 37, 38, 39, 40, 41, 42, 43, 44, 45, 46, 47, 48, 49] (by decide +kernel) (by decide +kernel)
set_option maxRecDepth 20000 in
theorem gX6_make_X6_numberBelow : GoodIn wsX6_make (wsV RX6 101 RX6 yX6_numberBelow wsX6_numberBelow) := goodIn_app (goodIn_of _ (by decide +kernel)) ggX6_make_X6_numberBelow
set_option maxRecDepth 20000 in
theorem ggX6_make_X6_changed : GoodIn wsX6_make wsX6_changed := goodIn_r _ [25, 26, 27, 28, 29, 30, 31, 32, 33, 34, 35, 36, 37, 38, 39, 40, 41, 42, 43, 44, 45, 46, 47, 48, 49] (by decide +kernel) (by decide +kernel)
set_option maxRecDepth 20000 in
theorem gX6_make_X6_changed : GoodIn wsX6_make (wsV RX6 86 RX6 yX6_changed wsX6_changed) := goodIn_app (goodIn_of _ (by decide +kernel)) ggX6_make_X6_changed
theorem dX6_make_0 : decode cX6_make 0 = .ok (.aload_n 0, 1) := by decide +kernel
theorem dX6_make_1 : decode cX6_make 1 = .ok (.lload_n 1, 1) := by decide +kernel
theorem dX6_make_2 : decode cX6_make 2 = .ok (.putfield 89, 3) := by decide +kernel
theorem dX6_make_5 : decode cX6_make 5 = .ok (.iconst 0, 1) := by decide +kernel
theorem dX6_make_6 : decode cX6_make 6 = .ok (.istore_n 3, 1) := by decide +kernel
theorem dX6_make_7 : decode cX6_make 7 = .ok (.iload_n 3, 1) := by decide +kernel
theorem dX6_make_8 : decode cX6_make 8 = .ok (.iconst 5, 1) := by decide +kernel
theorem dX6_make_9 : decode cX6_make 9 = .ok (.aload_n 0, 1) := by decide +kernel
theorem dX6_make_10 : decode cX6_make 10 = .ok (.invokevirtual 67, 3) := by decide +kernel
theorem dX6_make_13 : decode cX6_make 13 = .ok (.imul, 1) := by decide +kernel
theorem dX6_make_14 : decode cX6_make 14 = .ok (.if_icmp .ge 24, 3) := by decide +kernel
theorem dX6_make_17 : decode cX6_make 17 = .ok (.aload_n 0, 1) := by decide +kernel
theorem dX6_make_18 : decode cX6_make 18 = .ok (.getfield 7, 3) := by decide +kernel
theorem dX6_make_21 : decode cX6_make 21 = .ok (.iload_n 3, 1) := by decide +kernel
theorem dX6_make_22 : decode cX6_make 22 = .ok (.aload_n 0, 1) := by decide +kernel
theorem dX6_make_23 : decode cX6_make 23 = .ok (.bipush 19, 2) := by decide +kernel
theorem dX6_make_25 : decode cX6_make 25 = .ok (.invokevirtual 101, 3) := by decide +kernel
theorem dX6_make_28 : decode cX6_make 28 = .ok (.bipush 9, 2) := by decide +kernel
theorem dX6_make_30 : decode cX6_make 30 = .ok (.isub, 1) := by decide +kernel
theorem dX6_make_31 : decode cX6_make 31 = .ok (.iastore, 1) := by decide +kernel
theorem dX6_make_32 : decode cX6_make 32 = .ok (.iinc 3 1, 3) := by decide +kernel
theorem dX6_make_35 : decode cX6_make 35 = .ok (.goto (-28), 3) := by decide +kernel
theorem dX6_make_38 : decode cX6_make 38 = .ok (.aload_n 0, 1) := by decide +kernel
theorem dX6_make_39 : decode cX6_make 39 = .ok (.invokevirtual 86, 3) := by decide +kernel
theorem dX6_make_42 : decode cX6_make 42 = .ok (.iconst 1, 1) := by decide +kernel
theorem dX6_make_43 : decode cX6_make 43 = .ok (.ireturn, 1) := by decide +kernel
set_option maxRecDepth 20000 in
theorem ggX6_bend_X6_noSide : GoodIn wsX6_bend wsX6_noSide := goodIn_r _ [9, 10, 11, 12, 8, 13, 14, 15, 16, 17, 18, 19, 20, 21, 22, 32, 33, 34, 35, 36, 37, 38, 39, 40, 41, 42, 43, 44, 45, 46, 47, 48, 49, 50, 51, 52, 53, 54] (by decide +kernel) (by decide +kernel)
set_option maxRecDepth 20000 in
theorem gX6_bend_X6_noSide : GoodIn wsX6_bend (wsV RX6 105 RX6 yX6_noSide wsX6_noSide) := goodIn_app (goodIn_of _ (by decide +kernel)) ggX6_bend_X6_noSide
set_option maxRecDepth 20000 in
theorem ggX6_bend_X6_in : GoodIn wsX6_bend wsX6_in := goodIn_r _ [22] (by decide +kernel) (by decide +kernel)
set_option maxRecDepth 20000 in
theorem gX6_bend_X6_in : GoodIn wsX6_bend (va_wsS RX6 70 yX6_in wsX6_in) := goodIn_app (goodIn_of _ (by decide +kernel)) ggX6_bend_X6_in
set_option maxRecDepth 20000 in
theorem ggX6_bend_X6_lost : GoodIn wsX6_bend wsX6_lost := goodIn_r _ [25, 26] (by decide +kernel) (by decide +kernel)
set_option maxRecDepth 20000 in
theorem gX6_bend_X6_lost : GoodIn wsX6_bend (va_wsS RX6 59 yX6_lost wsX6_lost) := goodIn_app (goodIn_of _ (by decide +kernel)) ggX6_bend_X6_lost
set_option maxRecDepth 20000 in
theorem ggX6_bend_X6_changed : GoodIn wsX6_bend wsX6_changed := goodIn_r _ [30, 31, 32, 33, 34, 35, 36, 37, 38, 39, 40, 41, 42, 43, 44, 45, 46, 47, 48, 49, 50, 51, 52, 53, 54] (by decide +kernel) (by decide +kernel)
set_option maxRecDepth 20000 in
theorem gX6_bend_X6_changed : GoodIn wsX6_bend (wsV RX6 86 RX6 yX6_changed wsX6_changed) := goodIn_app (goodIn_of _ (by decide +kernel)) ggX6_bend_X6_changed
theorem dX6_bend_0 : decode cX6_bend 0 = .ok (.aload_n 0, 1) := by decide +kernel
theorem dX6_bend_1 : decode cX6_bend 1 = .ok (.iload_n 1, 1) := by decide +kernel
theorem dX6_bend_2 : decode cX6_bend 2 = .ok (.invokevirtual 105, 3) := by decide +kernel
theorem dX6_bend_5 : decode cX6_bend 5 = .ok (.ifCond .ne 29, 3) := by decide +kernel
theorem dX6_bend_8 : decode cX6_bend 8 = .ok (.iload_n 2, 1) := by decide +kernel
theorem dX6_bend_9 : decode cX6_bend 9 = .ok (.i2l, 1) := by decide +kernel
theorem dX6_bend_10 : decode cX6_bend 10 = .ok (.lconst 0, 1) := by decide +kernel
theorem dX6_bend_11 : decode cX6_bend 11 = .ok (.ldc2_w 109, 3) := by decide +kernel
theorem dX6_bend_14 : decode cX6_bend 14 = .ok (.invokestatic 70, 3) := by decide +kernel
theorem dX6_bend_17 : decode cX6_bend 17 = .ok (.ifCond .eq 17, 3) := by decide +kernel
theorem dX6_bend_20 : decode cX6_bend 20 = .ok (.iload_n 3, 1) := by decide +kernel
theorem dX6_bend_21 : decode cX6_bend 21 = .ok (.i2l, 1) := by decide +kernel
theorem dX6_bend_22 : decode cX6_bend 22 = .ok (.ldc2_w 111, 3) := by decide +kernel
theorem dX6_bend_25 : decode cX6_bend 25 = .ok (.ldc2_w 113, 3) := by decide +kernel
theorem dX6_bend_28 : decode cX6_bend 28 = .ok (.invokestatic 70, 3) := by decide +kernel
theorem dX6_bend_31 : decode cX6_bend 31 = .ok (.ifCond .ne 7, 3) := by decide +kernel
theorem dX6_bend_34 : decode cX6_bend 34 = .ok (.invokestatic 59, 3) := by decide +kernel
theorem dX6_bend_37 : decode cX6_bend 37 = .ok (.lreturn, 1) := by decide +kernel
theorem dX6_bend_38 : decode cX6_bend 38 = .ok (.aload_n 0, 1) := by decide +kernel
theorem dX6_bend_39 : decode cX6_bend 39 = .ok (.getfield 7, 3) := by decide +kernel
theorem dX6_bend_42 : decode cX6_bend 42 = .ok (.iconst 5, 1) := by decide +kernel
theorem dX6_bend_43 : decode cX6_bend 43 = .ok (.iload_n 1, 1) := by decide +kernel
theorem dX6_bend_44 : decode cX6_bend 44 = .ok (.imul, 1) := by decide +kernel
theorem dX6_bend_45 : decode cX6_bend 45 = .ok (.iload_n 2, 1) := by decide +kernel
theorem dX6_bend_46 : decode cX6_bend 46 = .ok (.iadd, 1) := by decide +kernel
theorem dX6_bend_47 : decode cX6_bend 47 = .ok (.iaload, 1) := by decide +kernel
theorem dX6_bend_48 : decode cX6_bend 48 = .ok (.i2l, 1) := by decide +kernel
theorem dX6_bend_49 : decode cX6_bend 49 = .ok (.lstore 4, 2) := by decide +kernel
theorem dX6_bend_51 : decode cX6_bend 51 = .ok (.aload_n 0, 1) := by decide +kernel
theorem dX6_bend_52 : decode cX6_bend 52 = .ok (.getfield 7, 3) := by decide +kernel
theorem dX6_bend_55 : decode cX6_bend 55 = .ok (.iconst 5, 1) := by decide +kernel
theorem dX6_bend_56 : decode cX6_bend 56 = .ok (.iload_n 1, 1) := by decide +kernel
theorem dX6_bend_57 : decode cX6_bend 57 = .ok (.imul, 1) := by decide +kernel
theorem dX6_bend_58 : decode cX6_bend 58 = .ok (.iload_n 2, 1) := by decide +kernel
theorem dX6_bend_59 : decode cX6_bend 59 = .ok (.iadd, 1) := by decide +kernel
theorem dX6_bend_60 : decode cX6_bend 60 = .ok (.iload_n 3, 1) := by decide +kernel
theorem dX6_bend_61 : decode cX6_bend 61 = .ok (.iastore, 1) := by decide +kernel
theorem dX6_bend_62 : decode cX6_bend 62 = .ok (.aload_n 0, 1) := by decide +kernel
theorem dX6_bend_63 : decode cX6_bend 63 = .ok (.invokevirtual 86, 3) := by decide +kernel
theorem dX6_bend_66 : decode cX6_bend 66 = .ok (.lload 4, 2) := by decide +kernel
theorem dX6_bend_68 : decode cX6_bend 68 = .ok (.lreturn, 1) := by decide +kernel
set_option maxRecDepth 20000 in
theorem ggX6_height_X6_noSide : GoodIn wsX6_height wsX6_noSide := goodIn_r _ [7, 8, 9, 10, 6, 11, 12, 13, 14, 15, 16, 17, 18, 19, 20, 25, 26, 27, 28, 29, 30, 31, 32, 33, 34, 35, 36, 37, 38, 39, 40, 41, 42, 43, 44, 45, 46, 47] (by decide +kernel) (by decide +kernel)
set_option maxRecDepth 20000 in
theorem gX6_height_X6_noSide : GoodIn wsX6_height (wsV RX6 105 RX6 yX6_noSide wsX6_noSide) := goodIn_app (goodIn_of _ (by decide +kernel)) ggX6_height_X6_noSide
set_option maxRecDepth 20000 in
theorem ggX6_height_X6_in : GoodIn wsX6_height wsX6_in := goodIn_r _ [20] (by decide +kernel) (by decide +kernel)
set_option maxRecDepth 20000 in
theorem gX6_height_X6_in : GoodIn wsX6_height (va_wsS RX6 70 yX6_in wsX6_in) := goodIn_app (goodIn_of _ (by decide +kernel)) ggX6_height_X6_in
set_option maxRecDepth 20000 in
theorem ggX6_height_X6_lost : GoodIn wsX6_height wsX6_lost := goodIn_r _ [23, 24] (by decide +kernel) (by decide +kernel)
set_option maxRecDepth 20000 in
theorem gX6_height_X6_lost : GoodIn wsX6_height (va_wsS RX6 59 yX6_lost wsX6_lost) := goodIn_app (goodIn_of _ (by decide +kernel)) ggX6_height_X6_lost
theorem dX6_height_0 : decode cX6_height 0 = .ok (.aload_n 0, 1) := by decide +kernel
theorem dX6_height_1 : decode cX6_height 1 = .ok (.iload_n 1, 1) := by decide +kernel
theorem dX6_height_2 : decode cX6_height 2 = .ok (.invokevirtual 105, 3) := by decide +kernel
theorem dX6_height_5 : decode cX6_height 5 = .ok (.ifCond .ne 15, 3) := by decide +kernel
theorem dX6_height_8 : decode cX6_height 8 = .ok (.iload_n 2, 1) := by decide +kernel
theorem dX6_height_9 : decode cX6_height 9 = .ok (.i2l, 1) := by decide +kernel
theorem dX6_height_10 : decode cX6_height 10 = .ok (.lconst 0, 1) := by decide +kernel
theorem dX6_height_11 : decode cX6_height 11 = .ok (.ldc2_w 109, 3) := by decide +kernel
theorem dX6_height_14 : decode cX6_height 14 = .ok (.invokestatic 70, 3) := by decide +kernel
theorem dX6_height_17 : decode cX6_height 17 = .ok (.ifCond .ne 9, 3) := by decide +kernel
theorem dX6_height_20 : decode cX6_height 20 = .ok (.invokestatic 59, 3) := by decide +kernel
theorem dX6_height_23 : decode cX6_height 23 = .ok (.goto 14, 3) := by decide +kernel
theorem dX6_height_26 : decode cX6_height 26 = .ok (.aload_n 0, 1) := by decide +kernel
theorem dX6_height_27 : decode cX6_height 27 = .ok (.getfield 7, 3) := by decide +kernel
theorem dX6_height_30 : decode cX6_height 30 = .ok (.iconst 5, 1) := by decide +kernel
theorem dX6_height_31 : decode cX6_height 31 = .ok (.iload_n 1, 1) := by decide +kernel
theorem dX6_height_32 : decode cX6_height 32 = .ok (.imul, 1) := by decide +kernel
theorem dX6_height_33 : decode cX6_height 33 = .ok (.iload_n 2, 1) := by decide +kernel
theorem dX6_height_34 : decode cX6_height 34 = .ok (.iadd, 1) := by decide +kernel
theorem dX6_height_35 : decode cX6_height 35 = .ok (.iaload, 1) := by decide +kernel
theorem dX6_height_36 : decode cX6_height 36 = .ok (.i2l, 1) := by decide +kernel
theorem dX6_height_37 : decode cX6_height 37 = .ok (.lreturn, 1) := by decide +kernel
set_option maxRecDepth 20000 in
theorem ggX6_sideAt_X6_across : GoodIn wsX6_sideAt wsX6_across := goodIn_r _ [7, 1, 2, 8, 9, 10, 11, 12, 13, 14, 15, 16, 17, 18, 19, 20, 21, 22, 23, 24, 25, 26, 27, 28, 29, 30] (by decide +kernel) (by decide +kernel)
set_option maxRecDepth 20000 in
theorem gX6_sideAt_X6_across : GoodIn wsX6_sideAt (wsV RX6 63 RX6 yX6_across wsX6_across) := goodIn_app (goodIn_of _ (by decide +kernel)) ggX6_sideAt_X6_across
theorem dX6_sideAt_0 : decode cX6_sideAt 0 = .ok (.iload_n 1, 1) := by decide +kernel
theorem dX6_sideAt_1 : decode cX6_sideAt 1 = .ok (.aload_n 0, 1) := by decide +kernel
theorem dX6_sideAt_2 : decode cX6_sideAt 2 = .ok (.getfield 47, 3) := by decide +kernel
theorem dX6_sideAt_5 : decode cX6_sideAt 5 = .ok (.irem, 1) := by decide +kernel
theorem dX6_sideAt_6 : decode cX6_sideAt 6 = .ok (.istore_n 3, 1) := by decide +kernel
theorem dX6_sideAt_7 : decode cX6_sideAt 7 = .ok (.iload_n 1, 1) := by decide +kernel
theorem dX6_sideAt_8 : decode cX6_sideAt 8 = .ok (.aload_n 0, 1) := by decide +kernel
theorem dX6_sideAt_9 : decode cX6_sideAt 9 = .ok (.getfield 47, 3) := by decide +kernel
theorem dX6_sideAt_12 : decode cX6_sideAt 12 = .ok (.idiv, 1) := by decide +kernel
theorem dX6_sideAt_13 : decode cX6_sideAt 13 = .ok (.istore 4, 2) := by decide +kernel
theorem dX6_sideAt_15 : decode cX6_sideAt 15 = .ok (.iload_n 2, 1) := by decide +kernel
theorem dX6_sideAt_16 : decode cX6_sideAt 16 = .ok (.iconst 1, 1) := by decide +kernel
theorem dX6_sideAt_17 : decode cX6_sideAt 17 = .ok (.if_icmp .eq 8, 3) := by decide +kernel
theorem dX6_sideAt_20 : decode cX6_sideAt 20 = .ok (.iload_n 2, 1) := by decide +kernel
theorem dX6_sideAt_21 : decode cX6_sideAt 21 = .ok (.iconst 3, 1) := by decide +kernel
theorem dX6_sideAt_22 : decode cX6_sideAt 22 = .ok (.if_icmp .ne 51, 3) := by decide +kernel
theorem dX6_sideAt_25 : decode cX6_sideAt 25 = .ok (.iload_n 2, 1) := by decide +kernel
theorem dX6_sideAt_26 : decode cX6_sideAt 26 = .ok (.iconst 1, 1) := by decide +kernel
theorem dX6_sideAt_27 : decode cX6_sideAt 27 = .ok (.if_icmp .ne 7, 3) := by decide +kernel
theorem dX6_sideAt_30 : decode cX6_sideAt 30 = .ok (.iload_n 3, 1) := by decide +kernel
theorem dX6_sideAt_31 : decode cX6_sideAt 31 = .ok (.goto 6, 3) := by decide +kernel
theorem dX6_sideAt_34 : decode cX6_sideAt 34 = .ok (.iload_n 3, 1) := by decide +kernel
theorem dX6_sideAt_35 : decode cX6_sideAt 35 = .ok (.iconst 1, 1) := by decide +kernel
theorem dX6_sideAt_36 : decode cX6_sideAt 36 = .ok (.isub, 1) := by decide +kernel
theorem dX6_sideAt_37 : decode cX6_sideAt 37 = .ok (.istore 5, 2) := by decide +kernel
theorem dX6_sideAt_39 : decode cX6_sideAt 39 = .ok (.iload 5, 2) := by decide +kernel
theorem dX6_sideAt_41 : decode cX6_sideAt 41 = .ok (.ifCond .lt 14, 3) := by decide +kernel
theorem dX6_sideAt_44 : decode cX6_sideAt 44 = .ok (.iload 5, 2) := by decide +kernel
theorem dX6_sideAt_46 : decode cX6_sideAt 46 = .ok (.aload_n 0, 1) := by decide +kernel
theorem dX6_sideAt_47 : decode cX6_sideAt 47 = .ok (.getfield 47, 3) := by decide +kernel
theorem dX6_sideAt_50 : decode cX6_sideAt 50 = .ok (.iconst 1, 1) := by decide +kernel
theorem dX6_sideAt_51 : decode cX6_sideAt 51 = .ok (.isub, 1) := by decide +kernel
theorem dX6_sideAt_52 : decode cX6_sideAt 52 = .ok (.if_icmp .ne 8, 3) := by decide +kernel
theorem dX6_sideAt_55 : decode cX6_sideAt 55 = .ok (.bipush (-9), 2) := by decide +kernel
theorem dX6_sideAt_57 : decode cX6_sideAt 57 = .ok (.goto 15, 3) := by decide +kernel
theorem dX6_sideAt_60 : decode cX6_sideAt 60 = .ok (.iload 4, 2) := by decide +kernel
theorem dX6_sideAt_62 : decode cX6_sideAt 62 = .ok (.aload_n 0, 1) := by decide +kernel
theorem dX6_sideAt_63 : decode cX6_sideAt 63 = .ok (.getfield 47, 3) := by decide +kernel
theorem dX6_sideAt_66 : decode cX6_sideAt 66 = .ok (.iconst 1, 1) := by decide +kernel
theorem dX6_sideAt_67 : decode cX6_sideAt 67 = .ok (.isub, 1) := by decide +kernel
theorem dX6_sideAt_68 : decode cX6_sideAt 68 = .ok (.imul, 1) := by decide +kernel
theorem dX6_sideAt_69 : decode cX6_sideAt 69 = .ok (.iload 5, 2) := by decide +kernel
theorem dX6_sideAt_71 : decode cX6_sideAt 71 = .ok (.iadd, 1) := by decide +kernel
theorem dX6_sideAt_72 : decode cX6_sideAt 72 = .ok (.ireturn, 1) := by decide +kernel
theorem dX6_sideAt_73 : decode cX6_sideAt 73 = .ok (.iload_n 2, 1) := by decide +kernel
theorem dX6_sideAt_74 : decode cX6_sideAt 74 = .ok (.iconst 2, 1) := by decide +kernel
theorem dX6_sideAt_75 : decode cX6_sideAt 75 = .ok (.if_icmp .ne 8, 3) := by decide +kernel
theorem dX6_sideAt_78 : decode cX6_sideAt 78 = .ok (.iload 4, 2) := by decide +kernel
theorem dX6_sideAt_80 : decode cX6_sideAt 80 = .ok (.goto 7, 3) := by decide +kernel
theorem dX6_sideAt_83 : decode cX6_sideAt 83 = .ok (.iload 4, 2) := by decide +kernel
theorem dX6_sideAt_85 : decode cX6_sideAt 85 = .ok (.iconst 1, 1) := by decide +kernel
theorem dX6_sideAt_86 : decode cX6_sideAt 86 = .ok (.isub, 1) := by decide +kernel
theorem dX6_sideAt_87 : decode cX6_sideAt 87 = .ok (.istore 5, 2) := by decide +kernel
theorem dX6_sideAt_89 : decode cX6_sideAt 89 = .ok (.iload 5, 2) := by decide +kernel
theorem dX6_sideAt_91 : decode cX6_sideAt 91 = .ok (.ifCond .lt 14, 3) := by decide +kernel
theorem dX6_sideAt_94 : decode cX6_sideAt 94 = .ok (.iload 5, 2) := by decide +kernel
theorem dX6_sideAt_96 : decode cX6_sideAt 96 = .ok (.aload_n 0, 1) := by decide +kernel
theorem dX6_sideAt_97 : decode cX6_sideAt 97 = .ok (.getfield 51, 3) := by decide +kernel
theorem dX6_sideAt_100 : decode cX6_sideAt 100 = .ok (.iconst 1, 1) := by decide +kernel
theorem dX6_sideAt_101 : decode cX6_sideAt 101 = .ok (.isub, 1) := by decide +kernel
theorem dX6_sideAt_102 : decode cX6_sideAt 102 = .ok (.if_icmp .ne 8, 3) := by decide +kernel
theorem dX6_sideAt_105 : decode cX6_sideAt 105 = .ok (.bipush (-9), 2) := by decide +kernel
theorem dX6_sideAt_107 : decode cX6_sideAt 107 = .ok (.goto 17, 3) := by decide +kernel
theorem dX6_sideAt_110 : decode cX6_sideAt 110 = .ok (.aload_n 0, 1) := by decide +kernel
theorem dX6_sideAt_111 : decode cX6_sideAt 111 = .ok (.invokevirtual 63, 3) := by decide +kernel
theorem dX6_sideAt_114 : decode cX6_sideAt 114 = .ok (.iload 5, 2) := by decide +kernel
theorem dX6_sideAt_116 : decode cX6_sideAt 116 = .ok (.aload_n 0, 1) := by decide +kernel
theorem dX6_sideAt_117 : decode cX6_sideAt 117 = .ok (.getfield 47, 3) := by decide +kernel
theorem dX6_sideAt_120 : decode cX6_sideAt 120 = .ok (.imul, 1) := by decide +kernel
theorem dX6_sideAt_121 : decode cX6_sideAt 121 = .ok (.iadd, 1) := by decide +kernel
theorem dX6_sideAt_122 : decode cX6_sideAt 122 = .ok (.iload_n 3, 1) := by decide +kernel
theorem dX6_sideAt_123 : decode cX6_sideAt 123 = .ok (.iadd, 1) := by decide +kernel
theorem dX6_sideAt_124 : decode cX6_sideAt 124 = .ok (.ireturn, 1) := by decide +kernel
set_option maxRecDepth 20000 in
theorem ggX6_sideOf_X6_noPiece : GoodIn wsX6_sideOf wsX6_noPiece := goodIn_r _ [6, 7, 8, 9, 5, 10, 11, 12, 13, 14, 15, 24, 25, 26, 27, 28, 29, 30, 31, 32, 33, 34, 35, 36, 37, 38, 39, 40, 41, 42, 43, 44, 45, 46] (by decide +kernel) (by decide +kernel)
set_option maxRecDepth 20000 in
theorem gX6_sideOf_X6_noPiece : GoodIn wsX6_sideOf (wsV RX6 115 RX6 yX6_noPiece wsX6_noPiece) := goodIn_app (goodIn_of _ (by decide +kernel)) ggX6_sideOf_X6_noPiece
set_option maxRecDepth 20000 in
theorem ggX6_sideOf_X6_in : GoodIn wsX6_sideOf wsX6_in := goodIn_r _ [15] (by decide +kernel) (by decide +kernel)
set_option maxRecDepth 20000 in
theorem gX6_sideOf_X6_in : GoodIn wsX6_sideOf (va_wsS RX6 70 yX6_in wsX6_in) := goodIn_app (goodIn_of _ (by decide +kernel)) ggX6_sideOf_X6_in
set_option maxRecDepth 20000 in
theorem ggX6_sideOf_X6_sideAt : GoodIn wsX6_sideOf wsX6_sideAt := goodIn_r _ [19, 11, 12, 20, 21, 22, 5, 23, 24, 25, 26, 27, 28, 29, 30, 31, 32, 33, 34, 35, 36, 37, 38, 39, 40, 41, 42, 43, 44, 45, 46] (by decide +kernel) (by decide +kernel)
set_option maxRecDepth 20000 in
theorem gX6_sideOf_X6_sideAt : GoodIn wsX6_sideOf (wsV RX6 120 RX6 yX6_sideAt wsX6_sideAt) := goodIn_app (goodIn_of _ (by decide +kernel)) ggX6_sideOf_X6_sideAt
theorem dX6_sideOf_0 : decode cX6_sideOf 0 = .ok (.aload_n 0, 1) := by decide +kernel
theorem dX6_sideOf_1 : decode cX6_sideOf 1 = .ok (.iload_n 1, 1) := by decide +kernel
theorem dX6_sideOf_2 : decode cX6_sideOf 2 = .ok (.invokevirtual 115, 3) := by decide +kernel
theorem dX6_sideOf_5 : decode cX6_sideOf 5 = .ok (.ifCond .ne 15, 3) := by decide +kernel
theorem dX6_sideOf_8 : decode cX6_sideOf 8 = .ok (.iload_n 2, 1) := by decide +kernel
theorem dX6_sideOf_9 : decode cX6_sideOf 9 = .ok (.i2l, 1) := by decide +kernel
theorem dX6_sideOf_10 : decode cX6_sideOf 10 = .ok (.lconst 0, 1) := by decide +kernel
theorem dX6_sideOf_11 : decode cX6_sideOf 11 = .ok (.ldc2_w 118, 3) := by decide +kernel
theorem dX6_sideOf_14 : decode cX6_sideOf 14 = .ok (.invokestatic 70, 3) := by decide +kernel
theorem dX6_sideOf_17 : decode cX6_sideOf 17 = .ok (.ifCond .ne 7, 3) := by decide +kernel
theorem dX6_sideOf_20 : decode cX6_sideOf 20 = .ok (.iconst (-1), 1) := by decide +kernel
theorem dX6_sideOf_21 : decode cX6_sideOf 21 = .ok (.goto 9, 3) := by decide +kernel
theorem dX6_sideOf_24 : decode cX6_sideOf 24 = .ok (.aload_n 0, 1) := by decide +kernel
theorem dX6_sideOf_25 : decode cX6_sideOf 25 = .ok (.iload_n 1, 1) := by decide +kernel
theorem dX6_sideOf_26 : decode cX6_sideOf 26 = .ok (.iload_n 2, 1) := by decide +kernel
theorem dX6_sideOf_27 : decode cX6_sideOf 27 = .ok (.invokevirtual 120, 3) := by decide +kernel
theorem dX6_sideOf_30 : decode cX6_sideOf 30 = .ok (.ireturn, 1) := by decide +kernel
set_option maxRecDepth 20000 in
theorem ggX6_heightAt_X6_sideAt : GoodIn wsX6_heightAt wsX6_sideAt := goodIn_r _ [6, 7, 8, 9, 10, 11, 5, 12, 13, 14, 15, 16, 17, 18, 19, 20, 21, 22, 23, 24, 25, 26, 27, 28, 29, 30, 31, 32, 33, 34, 35] (by decide +kernel) (by decide +kernel)
set_option maxRecDepth 20000 in
theorem gX6_heightAt_X6_sideAt : GoodIn wsX6_heightAt (wsV RX6 120 RX6 yX6_sideAt wsX6_sideAt) := goodIn_app (goodIn_of _ (by decide +kernel)) ggX6_heightAt_X6_sideAt
theorem dX6_heightAt_0 : decode cX6_heightAt 0 = .ok (.iconst 5, 1) := by decide +kernel
theorem dX6_heightAt_1 : decode cX6_heightAt 1 = .ok (.aload_n 0, 1) := by decide +kernel
theorem dX6_heightAt_2 : decode cX6_heightAt 2 = .ok (.iload_n 1, 1) := by decide +kernel
theorem dX6_heightAt_3 : decode cX6_heightAt 3 = .ok (.iload_n 2, 1) := by decide +kernel
theorem dX6_heightAt_4 : decode cX6_heightAt 4 = .ok (.invokevirtual 120, 3) := by decide +kernel
theorem dX6_heightAt_7 : decode cX6_heightAt 7 = .ok (.imul, 1) := by decide +kernel
theorem dX6_heightAt_8 : decode cX6_heightAt 8 = .ok (.istore 4, 2) := by decide +kernel
theorem dX6_heightAt_10 : decode cX6_heightAt 10 = .ok (.iload_n 2, 1) := by decide +kernel
theorem dX6_heightAt_11 : decode cX6_heightAt 11 = .ok (.iconst 1, 1) := by decide +kernel
theorem dX6_heightAt_12 : decode cX6_heightAt 12 = .ok (.if_icmp .eq 8, 3) := by decide +kernel
theorem dX6_heightAt_15 : decode cX6_heightAt 15 = .ok (.iload_n 2, 1) := by decide +kernel
theorem dX6_heightAt_16 : decode cX6_heightAt 16 = .ok (.iconst 2, 1) := by decide +kernel
theorem dX6_heightAt_17 : decode cX6_heightAt 17 = .ok (.if_icmp .ne 15, 3) := by decide +kernel
theorem dX6_heightAt_20 : decode cX6_heightAt 20 = .ok (.aload_n 0, 1) := by decide +kernel
theorem dX6_heightAt_21 : decode cX6_heightAt 21 = .ok (.getfield 7, 3) := by decide +kernel
theorem dX6_heightAt_24 : decode cX6_heightAt 24 = .ok (.iload 4, 2) := by decide +kernel
theorem dX6_heightAt_26 : decode cX6_heightAt 26 = .ok (.iload_n 3, 1) := by decide +kernel
theorem dX6_heightAt_27 : decode cX6_heightAt 27 = .ok (.iadd, 1) := by decide +kernel
theorem dX6_heightAt_28 : decode cX6_heightAt 28 = .ok (.iaload, 1) := by decide +kernel
theorem dX6_heightAt_29 : decode cX6_heightAt 29 = .ok (.goto 15, 3) := by decide +kernel
theorem dX6_heightAt_32 : decode cX6_heightAt 32 = .ok (.aload_n 0, 1) := by decide +kernel
theorem dX6_heightAt_33 : decode cX6_heightAt 33 = .ok (.getfield 7, 3) := by decide +kernel
theorem dX6_heightAt_36 : decode cX6_heightAt 36 = .ok (.iload 4, 2) := by decide +kernel
theorem dX6_heightAt_38 : decode cX6_heightAt 38 = .ok (.iconst 4, 1) := by decide +kernel
theorem dX6_heightAt_39 : decode cX6_heightAt 39 = .ok (.iadd, 1) := by decide +kernel
theorem dX6_heightAt_40 : decode cX6_heightAt 40 = .ok (.iload_n 3, 1) := by decide +kernel
theorem dX6_heightAt_41 : decode cX6_heightAt 41 = .ok (.isub, 1) := by decide +kernel
theorem dX6_heightAt_42 : decode cX6_heightAt 42 = .ok (.iaload, 1) := by decide +kernel
theorem dX6_heightAt_43 : decode cX6_heightAt 43 = .ok (.ineg, 1) := by decide +kernel
theorem dX6_heightAt_44 : decode cX6_heightAt 44 = .ok (.ireturn, 1) := by decide +kernel
set_option maxRecDepth 20000 in
theorem ggX6_edge_X6_noPiece : GoodIn wsX6_edge wsX6_noPiece := goodIn_r _ [7, 8, 9, 10, 6, 11, 12, 13, 14, 15, 16, 34, 35, 36, 37, 38, 39, 40, 41, 42, 43, 44, 45, 46, 47, 48, 49, 50, 51, 52, 53, 54, 55, 56] (by decide +kernel) (by decide +kernel)
set_option maxRecDepth 20000 in
theorem gX6_edge_X6_noPiece : GoodIn wsX6_edge (wsV RX6 115 RX6 yX6_noPiece wsX6_noPiece) := goodIn_app (goodIn_of _ (by decide +kernel)) ggX6_edge_X6_noPiece
set_option maxRecDepth 20000 in
theorem ggX6_edge_X6_in : GoodIn wsX6_edge wsX6_in := goodIn_r _ [16] (by decide +kernel) (by decide +kernel)
set_option maxRecDepth 20000 in
theorem gX6_edge_X6_in : GoodIn wsX6_edge (va_wsS RX6 70 yX6_in wsX6_in) := goodIn_app (goodIn_of _ (by decide +kernel)) ggX6_edge_X6_in
set_option maxRecDepth 20000 in
theorem ggX6_edge_X6_sideAt : GoodIn wsX6_edge wsX6_sideAt := goodIn_r _ [20, 12, 13, 21, 22, 23, 6, 24, 34, 35, 36, 37, 38, 39, 40, 41, 42, 43, 44, 45, 46, 47, 48, 49, 50, 51, 52, 53, 54, 55, 56] (by decide +kernel) (by decide +kernel)
set_option maxRecDepth 20000 in
theorem gX6_edge_X6_sideAt : GoodIn wsX6_edge (wsV RX6 120 RX6 yX6_sideAt wsX6_sideAt) := goodIn_app (goodIn_of _ (by decide +kernel)) ggX6_edge_X6_sideAt
set_option maxRecDepth 20000 in
theorem ggX6_edge_X6_lost : GoodIn wsX6_edge wsX6_lost := goodIn_r _ [27, 28] (by decide +kernel) (by decide +kernel)
set_option maxRecDepth 20000 in
theorem gX6_edge_X6_lost : GoodIn wsX6_edge (va_wsS RX6 59 yX6_lost wsX6_lost) := goodIn_app (goodIn_of _ (by decide +kernel)) ggX6_edge_X6_lost
set_option maxRecDepth 20000 in
theorem ggX6_edge_X6_heightAt : GoodIn wsX6_edge wsX6_heightAt := goodIn_r _ [32, 33, 17, 18, 19, 6, 20, 12, 13, 21, 22, 23, 24, 34, 35, 36, 37, 38, 39, 40, 41, 42, 43, 44, 45, 46, 47, 48, 49, 50, 51, 52, 53, 54, 55, 56] (by decide +kernel) (by decide +kernel)
set_option maxRecDepth 20000 in
theorem gX6_edge_X6_heightAt : GoodIn wsX6_edge (wsV RX6 124 RX6 yX6_heightAt wsX6_heightAt) := goodIn_app (goodIn_of _ (by decide +kernel)) ggX6_edge_X6_heightAt
theorem dX6_edge_0 : decode cX6_edge 0 = .ok (.aload_n 0, 1) := by decide +kernel
theorem dX6_edge_1 : decode cX6_edge 1 = .ok (.iload_n 1, 1) := by decide +kernel
theorem dX6_edge_2 : decode cX6_edge 2 = .ok (.invokevirtual 115, 3) := by decide +kernel
theorem dX6_edge_5 : decode cX6_edge 5 = .ok (.ifCond .ne 36, 3) := by decide +kernel
theorem dX6_edge_8 : decode cX6_edge 8 = .ok (.iload_n 2, 1) := by decide +kernel
theorem dX6_edge_9 : decode cX6_edge 9 = .ok (.i2l, 1) := by decide +kernel
theorem dX6_edge_10 : decode cX6_edge 10 = .ok (.lconst 0, 1) := by decide +kernel
theorem dX6_edge_11 : decode cX6_edge 11 = .ok (.ldc2_w 118, 3) := by decide +kernel
theorem dX6_edge_14 : decode cX6_edge 14 = .ok (.invokestatic 70, 3) := by decide +kernel
theorem dX6_edge_17 : decode cX6_edge 17 = .ok (.ifCond .eq 24, 3) := by decide +kernel
theorem dX6_edge_20 : decode cX6_edge 20 = .ok (.iload_n 3, 1) := by decide +kernel
theorem dX6_edge_21 : decode cX6_edge 21 = .ok (.i2l, 1) := by decide +kernel
theorem dX6_edge_22 : decode cX6_edge 22 = .ok (.lconst 0, 1) := by decide +kernel
theorem dX6_edge_23 : decode cX6_edge 23 = .ok (.ldc2_w 109, 3) := by decide +kernel
theorem dX6_edge_26 : decode cX6_edge 26 = .ok (.invokestatic 70, 3) := by decide +kernel
theorem dX6_edge_29 : decode cX6_edge 29 = .ok (.ifCond .eq 12, 3) := by decide +kernel
theorem dX6_edge_32 : decode cX6_edge 32 = .ok (.aload_n 0, 1) := by decide +kernel
theorem dX6_edge_33 : decode cX6_edge 33 = .ok (.iload_n 1, 1) := by decide +kernel
theorem dX6_edge_34 : decode cX6_edge 34 = .ok (.iload_n 2, 1) := by decide +kernel
theorem dX6_edge_35 : decode cX6_edge 35 = .ok (.invokevirtual 120, 3) := by decide +kernel
theorem dX6_edge_38 : decode cX6_edge 38 = .ok (.ifCond .ge 7, 3) := by decide +kernel
theorem dX6_edge_41 : decode cX6_edge 41 = .ok (.invokestatic 59, 3) := by decide +kernel
theorem dX6_edge_44 : decode cX6_edge 44 = .ok (.lreturn, 1) := by decide +kernel
theorem dX6_edge_45 : decode cX6_edge 45 = .ok (.aload_n 0, 1) := by decide +kernel
theorem dX6_edge_46 : decode cX6_edge 46 = .ok (.iload_n 1, 1) := by decide +kernel
theorem dX6_edge_47 : decode cX6_edge 47 = .ok (.iload_n 2, 1) := by decide +kernel
theorem dX6_edge_48 : decode cX6_edge 48 = .ok (.iload_n 3, 1) := by decide +kernel
theorem dX6_edge_49 : decode cX6_edge 49 = .ok (.invokevirtual 124, 3) := by decide +kernel
theorem dX6_edge_52 : decode cX6_edge 52 = .ok (.i2l, 1) := by decide +kernel
theorem dX6_edge_53 : decode cX6_edge 53 = .ok (.lreturn, 1) := by decide +kernel
set_option maxRecDepth 20000 in
theorem ggX6_farOf_X6_heightAt : GoodIn wsX6_farOf wsX6_heightAt := goodIn_r _ [5, 6, 7, 8, 9, 4, 10, 11, 12, 13, 14, 15, 16, 20, 21, 22, 23, 24, 25, 26, 27, 28, 29, 30, 31, 32, 33, 34, 35, 36, 37, 38, 39, 40, 41, 42] (by decide +kernel) (by decide +kernel)
set_option maxRecDepth 20000 in
theorem gX6_farOf_X6_heightAt : GoodIn wsX6_farOf (wsV RX6 124 RX6 yX6_heightAt wsX6_heightAt) := goodIn_app (goodIn_of _ (by decide +kernel)) ggX6_farOf_X6_heightAt
set_option maxRecDepth 20000 in
theorem ggX6_farOf_X6_sizeOf : GoodIn wsX6_farOf wsX6_sizeOf := goodIn_r _ [19] (by decide +kernel) (by decide +kernel)
set_option maxRecDepth 20000 in
theorem gX6_farOf_X6_sizeOf : GoodIn wsX6_farOf (va_wsS RX6 128 yX6_sizeOf wsX6_sizeOf) := goodIn_app (goodIn_of _ (by decide +kernel)) ggX6_farOf_X6_sizeOf
theorem dX6_farOf_0 : decode cX6_farOf 0 = .ok (.iconst 0, 1) := by decide +kernel
theorem dX6_farOf_1 : decode cX6_farOf 1 = .ok (.istore 5, 2) := by decide +kernel
theorem dX6_farOf_3 : decode cX6_farOf 3 = .ok (.iconst 0, 1) := by decide +kernel
theorem dX6_farOf_4 : decode cX6_farOf 4 = .ok (.istore 6, 2) := by decide +kernel
theorem dX6_farOf_6 : decode cX6_farOf 6 = .ok (.iload 6, 2) := by decide +kernel
theorem dX6_farOf_8 : decode cX6_farOf 8 = .ok (.iconst 5, 1) := by decide +kernel
theorem dX6_farOf_9 : decode cX6_farOf 9 = .ok (.if_icmp .ge 37, 3) := by decide +kernel
theorem dX6_farOf_12 : decode cX6_farOf 12 = .ok (.iload 5, 2) := by decide +kernel
theorem dX6_farOf_14 : decode cX6_farOf 14 = .ok (.aload_n 0, 1) := by decide +kernel
theorem dX6_farOf_15 : decode cX6_farOf 15 = .ok (.iload_n 1, 1) := by decide +kernel
theorem dX6_farOf_16 : decode cX6_farOf 16 = .ok (.iload_n 2, 1) := by decide +kernel
theorem dX6_farOf_17 : decode cX6_farOf 17 = .ok (.iload 6, 2) := by decide +kernel
theorem dX6_farOf_19 : decode cX6_farOf 19 = .ok (.invokevirtual 124, 3) := by decide +kernel
theorem dX6_farOf_22 : decode cX6_farOf 22 = .ok (.aload_n 0, 1) := by decide +kernel
theorem dX6_farOf_23 : decode cX6_farOf 23 = .ok (.iload_n 3, 1) := by decide +kernel
theorem dX6_farOf_24 : decode cX6_farOf 24 = .ok (.iload 4, 2) := by decide +kernel
theorem dX6_farOf_26 : decode cX6_farOf 26 = .ok (.iconst 4, 1) := by decide +kernel
theorem dX6_farOf_27 : decode cX6_farOf 27 = .ok (.iload 6, 2) := by decide +kernel
theorem dX6_farOf_29 : decode cX6_farOf 29 = .ok (.isub, 1) := by decide +kernel
theorem dX6_farOf_30 : decode cX6_farOf 30 = .ok (.invokevirtual 124, 3) := by decide +kernel
theorem dX6_farOf_33 : decode cX6_farOf 33 = .ok (.iadd, 1) := by decide +kernel
theorem dX6_farOf_34 : decode cX6_farOf 34 = .ok (.invokestatic 128, 3) := by decide +kernel
theorem dX6_farOf_37 : decode cX6_farOf 37 = .ok (.iadd, 1) := by decide +kernel
theorem dX6_farOf_38 : decode cX6_farOf 38 = .ok (.istore 5, 2) := by decide +kernel
theorem dX6_farOf_40 : decode cX6_farOf 40 = .ok (.iinc 6 1, 3) := by decide +kernel
theorem dX6_farOf_43 : decode cX6_farOf 43 = .ok (.goto (-37), 3) := by decide +kernel
theorem dX6_farOf_46 : decode cX6_farOf 46 = .ok (.iload 5, 2) := by decide +kernel
theorem dX6_farOf_48 : decode cX6_farOf 48 = .ok (.ireturn, 1) := by decide +kernel
set_option maxRecDepth 20000 in
theorem ggX6_far_X6_noPiece : GoodIn wsX6_far wsX6_noPiece := goodIn_r _ [6, 7, 8, 9, 5, 10, 11, 12, 13, 14, 15, 36, 37, 38, 39, 40, 41, 42, 43, 44, 45, 46, 47, 48, 49, 50, 51, 52, 53, 54, 55, 56, 57, 58] (by decide +kernel) (by decide +kernel)
set_option maxRecDepth 20000 in
theorem gX6_far_X6_noPiece : GoodIn wsX6_far (wsV RX6 115 RX6 yX6_noPiece wsX6_noPiece) := goodIn_app (goodIn_of _ (by decide +kernel)) ggX6_far_X6_noPiece
set_option maxRecDepth 20000 in
theorem ggX6_far_X6_in : GoodIn wsX6_far wsX6_in := goodIn_r _ [15] (by decide +kernel) (by decide +kernel)
set_option maxRecDepth 20000 in
theorem gX6_far_X6_in : GoodIn wsX6_far (va_wsS RX6 70 yX6_in wsX6_in) := goodIn_app (goodIn_of _ (by decide +kernel)) ggX6_far_X6_in
set_option maxRecDepth 20000 in
theorem ggX6_far_X6_sideAt : GoodIn wsX6_far wsX6_sideAt := goodIn_r _ [19, 11, 12, 20, 21, 22, 5, 23, 36, 37, 38, 39, 40, 41, 42, 43, 44, 45, 46, 47, 48, 49, 50, 51, 52, 53, 54, 55, 56, 57, 58] (by decide +kernel) (by decide +kernel)
set_option maxRecDepth 20000 in
theorem gX6_far_X6_sideAt : GoodIn wsX6_far (wsV RX6 120 RX6 yX6_sideAt wsX6_sideAt) := goodIn_app (goodIn_of _ (by decide +kernel)) ggX6_far_X6_sideAt
set_option maxRecDepth 20000 in
theorem ggX6_far_X6_farOf : GoodIn wsX6_far wsX6_farOf := goodIn_r _ [27, 28, 29, 30, 5, 31, 32, 16, 17, 18, 19, 11, 12, 20, 21, 22, 23, 33, 34, 35, 36, 37, 38, 39, 40, 41, 42, 43, 44, 45, 46, 47, 48, 49, 50, 51, 52, 53, 54, 55, 56, 57, 58] (by decide +kernel) (by decide +kernel)
set_option maxRecDepth 20000 in
theorem gX6_far_X6_farOf : GoodIn wsX6_far (wsV RX6 131 RX6 yX6_farOf wsX6_farOf) := goodIn_app (goodIn_of _ (by decide +kernel)) ggX6_far_X6_farOf
theorem dX6_far_0 : decode cX6_far 0 = .ok (.aload_n 0, 1) := by decide +kernel
theorem dX6_far_1 : decode cX6_far 1 = .ok (.iload_n 1, 1) := by decide +kernel
theorem dX6_far_2 : decode cX6_far 2 = .ok (.invokevirtual 115, 3) := by decide +kernel
theorem dX6_far_5 : decode cX6_far 5 = .ok (.ifCond .ne 36, 3) := by decide +kernel
theorem dX6_far_8 : decode cX6_far 8 = .ok (.iload_n 2, 1) := by decide +kernel
theorem dX6_far_9 : decode cX6_far 9 = .ok (.i2l, 1) := by decide +kernel
theorem dX6_far_10 : decode cX6_far 10 = .ok (.lconst 0, 1) := by decide +kernel
theorem dX6_far_11 : decode cX6_far 11 = .ok (.ldc2_w 118, 3) := by decide +kernel
theorem dX6_far_14 : decode cX6_far 14 = .ok (.invokestatic 70, 3) := by decide +kernel
theorem dX6_far_17 : decode cX6_far 17 = .ok (.ifCond .eq 24, 3) := by decide +kernel
theorem dX6_far_20 : decode cX6_far 20 = .ok (.aload_n 0, 1) := by decide +kernel
theorem dX6_far_21 : decode cX6_far 21 = .ok (.iload_n 3, 1) := by decide +kernel
theorem dX6_far_22 : decode cX6_far 22 = .ok (.invokevirtual 115, 3) := by decide +kernel
theorem dX6_far_25 : decode cX6_far 25 = .ok (.ifCond .ne 16, 3) := by decide +kernel
theorem dX6_far_28 : decode cX6_far 28 = .ok (.iload 4, 2) := by decide +kernel
theorem dX6_far_30 : decode cX6_far 30 = .ok (.i2l, 1) := by decide +kernel
theorem dX6_far_31 : decode cX6_far 31 = .ok (.lconst 0, 1) := by decide +kernel
theorem dX6_far_32 : decode cX6_far 32 = .ok (.ldc2_w 118, 3) := by decide +kernel
theorem dX6_far_35 : decode cX6_far 35 = .ok (.invokestatic 70, 3) := by decide +kernel
theorem dX6_far_38 : decode cX6_far 38 = .ok (.ifCond .ne 5, 3) := by decide +kernel
theorem dX6_far_41 : decode cX6_far 41 = .ok (.iconst (-1), 1) := by decide +kernel
theorem dX6_far_42 : decode cX6_far 42 = .ok (.ireturn, 1) := by decide +kernel
theorem dX6_far_43 : decode cX6_far 43 = .ok (.aload_n 0, 1) := by decide +kernel
theorem dX6_far_44 : decode cX6_far 44 = .ok (.iload_n 1, 1) := by decide +kernel
theorem dX6_far_45 : decode cX6_far 45 = .ok (.iload_n 2, 1) := by decide +kernel
theorem dX6_far_46 : decode cX6_far 46 = .ok (.invokevirtual 120, 3) := by decide +kernel
theorem dX6_far_49 : decode cX6_far 49 = .ok (.ifCond .lt 13, 3) := by decide +kernel
theorem dX6_far_52 : decode cX6_far 52 = .ok (.aload_n 0, 1) := by decide +kernel
theorem dX6_far_53 : decode cX6_far 53 = .ok (.iload_n 3, 1) := by decide +kernel
theorem dX6_far_54 : decode cX6_far 54 = .ok (.iload 4, 2) := by decide +kernel
theorem dX6_far_56 : decode cX6_far 56 = .ok (.invokevirtual 120, 3) := by decide +kernel
theorem dX6_far_59 : decode cX6_far 59 = .ok (.ifCond .ge 8, 3) := by decide +kernel
theorem dX6_far_62 : decode cX6_far 62 = .ok (.bipush (-3), 2) := by decide +kernel
theorem dX6_far_64 : decode cX6_far 64 = .ok (.goto 12, 3) := by decide +kernel
theorem dX6_far_67 : decode cX6_far 67 = .ok (.aload_n 0, 1) := by decide +kernel
theorem dX6_far_68 : decode cX6_far 68 = .ok (.iload_n 1, 1) := by decide +kernel
theorem dX6_far_69 : decode cX6_far 69 = .ok (.iload_n 2, 1) := by decide +kernel
theorem dX6_far_70 : decode cX6_far 70 = .ok (.iload_n 3, 1) := by decide +kernel
theorem dX6_far_71 : decode cX6_far 71 = .ok (.iload 4, 2) := by decide +kernel
theorem dX6_far_73 : decode cX6_far 73 = .ok (.invokevirtual 131, 3) := by decide +kernel
theorem dX6_far_76 : decode cX6_far 76 = .ok (.ireturn, 1) := by decide +kernel
theorem dX6_isBulge_0 : decode cX6_isBulge 0 = .ok (.iconst 0, 1) := by decide +kernel
theorem dX6_isBulge_1 : decode cX6_isBulge 1 = .ok (.istore_n 2, 1) := by decide +kernel
theorem dX6_isBulge_2 : decode cX6_isBulge 2 = .ok (.iconst 0, 1) := by decide +kernel
theorem dX6_isBulge_3 : decode cX6_isBulge 3 = .ok (.istore_n 3, 1) := by decide +kernel
theorem dX6_isBulge_4 : decode cX6_isBulge 4 = .ok (.iconst 0, 1) := by decide +kernel
theorem dX6_isBulge_5 : decode cX6_isBulge 5 = .ok (.istore 4, 2) := by decide +kernel
theorem dX6_isBulge_7 : decode cX6_isBulge 7 = .ok (.iload 4, 2) := by decide +kernel
theorem dX6_isBulge_9 : decode cX6_isBulge 9 = .ok (.iconst 5, 1) := by decide +kernel
theorem dX6_isBulge_10 : decode cX6_isBulge 10 = .ok (.if_icmp .ge 53, 3) := by decide +kernel
theorem dX6_isBulge_13 : decode cX6_isBulge 13 = .ok (.iload_n 2, 1) := by decide +kernel
theorem dX6_isBulge_14 : decode cX6_isBulge 14 = .ok (.aload_n 0, 1) := by decide +kernel
theorem dX6_isBulge_15 : decode cX6_isBulge 15 = .ok (.getfield 7, 3) := by decide +kernel
theorem dX6_isBulge_18 : decode cX6_isBulge 18 = .ok (.iconst 5, 1) := by decide +kernel
theorem dX6_isBulge_19 : decode cX6_isBulge 19 = .ok (.iload_n 1, 1) := by decide +kernel
theorem dX6_isBulge_20 : decode cX6_isBulge 20 = .ok (.imul, 1) := by decide +kernel
theorem dX6_isBulge_21 : decode cX6_isBulge 21 = .ok (.iload 4, 2) := by decide +kernel
theorem dX6_isBulge_23 : decode cX6_isBulge 23 = .ok (.iadd, 1) := by decide +kernel
theorem dX6_isBulge_24 : decode cX6_isBulge 24 = .ok (.iaload, 1) := by decide +kernel
theorem dX6_isBulge_25 : decode cX6_isBulge 25 = .ok (.ifCond .le 7, 3) := by decide +kernel
theorem dX6_isBulge_28 : decode cX6_isBulge 28 = .ok (.iconst 1, 1) := by decide +kernel
theorem dX6_isBulge_29 : decode cX6_isBulge 29 = .ok (.goto 4, 3) := by decide +kernel
theorem dX6_isBulge_32 : decode cX6_isBulge 32 = .ok (.iconst 0, 1) := by decide +kernel
theorem dX6_isBulge_33 : decode cX6_isBulge 33 = .ok (.iadd, 1) := by decide +kernel
theorem dX6_isBulge_34 : decode cX6_isBulge 34 = .ok (.istore_n 2, 1) := by decide +kernel
theorem dX6_isBulge_35 : decode cX6_isBulge 35 = .ok (.iload_n 3, 1) := by decide +kernel
theorem dX6_isBulge_36 : decode cX6_isBulge 36 = .ok (.aload_n 0, 1) := by decide +kernel
theorem dX6_isBulge_37 : decode cX6_isBulge 37 = .ok (.getfield 7, 3) := by decide +kernel
theorem dX6_isBulge_40 : decode cX6_isBulge 40 = .ok (.iconst 5, 1) := by decide +kernel
theorem dX6_isBulge_41 : decode cX6_isBulge 41 = .ok (.iload_n 1, 1) := by decide +kernel
theorem dX6_isBulge_42 : decode cX6_isBulge 42 = .ok (.imul, 1) := by decide +kernel
theorem dX6_isBulge_43 : decode cX6_isBulge 43 = .ok (.iload 4, 2) := by decide +kernel
theorem dX6_isBulge_45 : decode cX6_isBulge 45 = .ok (.iadd, 1) := by decide +kernel
theorem dX6_isBulge_46 : decode cX6_isBulge 46 = .ok (.iaload, 1) := by decide +kernel
theorem dX6_isBulge_47 : decode cX6_isBulge 47 = .ok (.ifCond .ge 7, 3) := by decide +kernel
theorem dX6_isBulge_50 : decode cX6_isBulge 50 = .ok (.iconst 1, 1) := by decide +kernel
theorem dX6_isBulge_51 : decode cX6_isBulge 51 = .ok (.goto 4, 3) := by decide +kernel
theorem dX6_isBulge_54 : decode cX6_isBulge 54 = .ok (.iconst 0, 1) := by decide +kernel
theorem dX6_isBulge_55 : decode cX6_isBulge 55 = .ok (.iadd, 1) := by decide +kernel
theorem dX6_isBulge_56 : decode cX6_isBulge 56 = .ok (.istore_n 3, 1) := by decide +kernel
theorem dX6_isBulge_57 : decode cX6_isBulge 57 = .ok (.iinc 4 1, 3) := by decide +kernel
theorem dX6_isBulge_60 : decode cX6_isBulge 60 = .ok (.goto (-53), 3) := by decide +kernel
theorem dX6_isBulge_63 : decode cX6_isBulge 63 = .ok (.iload_n 2, 1) := by decide +kernel
theorem dX6_isBulge_64 : decode cX6_isBulge 64 = .ok (.iconst 5, 1) := by decide +kernel
theorem dX6_isBulge_65 : decode cX6_isBulge 65 = .ok (.if_icmp .eq 8, 3) := by decide +kernel
theorem dX6_isBulge_68 : decode cX6_isBulge 68 = .ok (.iload_n 3, 1) := by decide +kernel
theorem dX6_isBulge_69 : decode cX6_isBulge 69 = .ok (.iconst 5, 1) := by decide +kernel
theorem dX6_isBulge_70 : decode cX6_isBulge 70 = .ok (.if_icmp .ne 7, 3) := by decide +kernel
theorem dX6_isBulge_73 : decode cX6_isBulge 73 = .ok (.iconst 1, 1) := by decide +kernel
theorem dX6_isBulge_74 : decode cX6_isBulge 74 = .ok (.goto 4, 3) := by decide +kernel
theorem dX6_isBulge_77 : decode cX6_isBulge 77 = .ok (.iconst 0, 1) := by decide +kernel
theorem dX6_isBulge_78 : decode cX6_isBulge 78 = .ok (.ireturn, 1) := by decide +kernel
theorem dX6_isLike_0 : decode cX6_isLike 0 = .ok (.iconst 1, 1) := by decide +kernel
theorem dX6_isLike_1 : decode cX6_isLike 1 = .ok (.istore_n 3, 1) := by decide +kernel
theorem dX6_isLike_2 : decode cX6_isLike 2 = .ok (.iconst 1, 1) := by decide +kernel
theorem dX6_isLike_3 : decode cX6_isLike 3 = .ok (.istore 4, 2) := by decide +kernel
theorem dX6_isLike_5 : decode cX6_isLike 5 = .ok (.iconst 0, 1) := by decide +kernel
theorem dX6_isLike_6 : decode cX6_isLike 6 = .ok (.istore 5, 2) := by decide +kernel
theorem dX6_isLike_8 : decode cX6_isLike 8 = .ok (.iload 5, 2) := by decide +kernel
theorem dX6_isLike_10 : decode cX6_isLike 10 = .ok (.iconst 5, 1) := by decide +kernel
theorem dX6_isLike_11 : decode cX6_isLike 11 = .ok (.if_icmp .ge 84, 3) := by decide +kernel
theorem dX6_isLike_14 : decode cX6_isLike 14 = .ok (.iload_n 3, 1) := by decide +kernel
theorem dX6_isLike_15 : decode cX6_isLike 15 = .ok (.ifCond .eq 32, 3) := by decide +kernel
theorem dX6_isLike_18 : decode cX6_isLike 18 = .ok (.aload_n 0, 1) := by decide +kernel
theorem dX6_isLike_19 : decode cX6_isLike 19 = .ok (.getfield 7, 3) := by decide +kernel
theorem dX6_isLike_22 : decode cX6_isLike 22 = .ok (.iconst 5, 1) := by decide +kernel
theorem dX6_isLike_23 : decode cX6_isLike 23 = .ok (.iload_n 1, 1) := by decide +kernel
theorem dX6_isLike_24 : decode cX6_isLike 24 = .ok (.imul, 1) := by decide +kernel
theorem dX6_isLike_25 : decode cX6_isLike 25 = .ok (.iload 5, 2) := by decide +kernel
theorem dX6_isLike_27 : decode cX6_isLike 27 = .ok (.iadd, 1) := by decide +kernel
theorem dX6_isLike_28 : decode cX6_isLike 28 = .ok (.iaload, 1) := by decide +kernel
theorem dX6_isLike_29 : decode cX6_isLike 29 = .ok (.aload_n 0, 1) := by decide +kernel
theorem dX6_isLike_30 : decode cX6_isLike 30 = .ok (.getfield 7, 3) := by decide +kernel
theorem dX6_isLike_33 : decode cX6_isLike 33 = .ok (.iconst 5, 1) := by decide +kernel
theorem dX6_isLike_34 : decode cX6_isLike 34 = .ok (.iload_n 2, 1) := by decide +kernel
theorem dX6_isLike_35 : decode cX6_isLike 35 = .ok (.imul, 1) := by decide +kernel
theorem dX6_isLike_36 : decode cX6_isLike 36 = .ok (.iload 5, 2) := by decide +kernel
theorem dX6_isLike_38 : decode cX6_isLike 38 = .ok (.iadd, 1) := by decide +kernel
theorem dX6_isLike_39 : decode cX6_isLike 39 = .ok (.iaload, 1) := by decide +kernel
theorem dX6_isLike_40 : decode cX6_isLike 40 = .ok (.if_icmp .ne 7, 3) := by decide +kernel
theorem dX6_isLike_43 : decode cX6_isLike 43 = .ok (.iconst 1, 1) := by decide +kernel
theorem dX6_isLike_44 : decode cX6_isLike 44 = .ok (.goto 4, 3) := by decide +kernel
theorem dX6_isLike_47 : decode cX6_isLike 47 = .ok (.iconst 0, 1) := by decide +kernel
theorem dX6_isLike_48 : decode cX6_isLike 48 = .ok (.istore_n 3, 1) := by decide +kernel
theorem dX6_isLike_49 : decode cX6_isLike 49 = .ok (.iload 4, 2) := by decide +kernel
theorem dX6_isLike_51 : decode cX6_isLike 51 = .ok (.ifCond .eq 35, 3) := by decide +kernel
theorem dX6_isLike_54 : decode cX6_isLike 54 = .ok (.aload_n 0, 1) := by decide +kernel
theorem dX6_isLike_55 : decode cX6_isLike 55 = .ok (.getfield 7, 3) := by decide +kernel
theorem dX6_isLike_58 : decode cX6_isLike 58 = .ok (.iconst 5, 1) := by decide +kernel
theorem dX6_isLike_59 : decode cX6_isLike 59 = .ok (.iload_n 1, 1) := by decide +kernel
theorem dX6_isLike_60 : decode cX6_isLike 60 = .ok (.imul, 1) := by decide +kernel
theorem dX6_isLike_61 : decode cX6_isLike 61 = .ok (.iload 5, 2) := by decide +kernel
theorem dX6_isLike_63 : decode cX6_isLike 63 = .ok (.iadd, 1) := by decide +kernel
theorem dX6_isLike_64 : decode cX6_isLike 64 = .ok (.iaload, 1) := by decide +kernel
theorem dX6_isLike_65 : decode cX6_isLike 65 = .ok (.aload_n 0, 1) := by decide +kernel
theorem dX6_isLike_66 : decode cX6_isLike 66 = .ok (.getfield 7, 3) := by decide +kernel
theorem dX6_isLike_69 : decode cX6_isLike 69 = .ok (.iconst 5, 1) := by decide +kernel
theorem dX6_isLike_70 : decode cX6_isLike 70 = .ok (.iload_n 2, 1) := by decide +kernel
theorem dX6_isLike_71 : decode cX6_isLike 71 = .ok (.imul, 1) := by decide +kernel
theorem dX6_isLike_72 : decode cX6_isLike 72 = .ok (.iconst 4, 1) := by decide +kernel
theorem dX6_isLike_73 : decode cX6_isLike 73 = .ok (.iadd, 1) := by decide +kernel
theorem dX6_isLike_74 : decode cX6_isLike 74 = .ok (.iload 5, 2) := by decide +kernel
theorem dX6_isLike_76 : decode cX6_isLike 76 = .ok (.isub, 1) := by decide +kernel
theorem dX6_isLike_77 : decode cX6_isLike 77 = .ok (.iaload, 1) := by decide +kernel
theorem dX6_isLike_78 : decode cX6_isLike 78 = .ok (.ineg, 1) := by decide +kernel
theorem dX6_isLike_79 : decode cX6_isLike 79 = .ok (.if_icmp .ne 7, 3) := by decide +kernel
theorem dX6_isLike_82 : decode cX6_isLike 82 = .ok (.iconst 1, 1) := by decide +kernel
theorem dX6_isLike_83 : decode cX6_isLike 83 = .ok (.goto 4, 3) := by decide +kernel
theorem dX6_isLike_86 : decode cX6_isLike 86 = .ok (.iconst 0, 1) := by decide +kernel
theorem dX6_isLike_87 : decode cX6_isLike 87 = .ok (.istore 4, 2) := by decide +kernel
theorem dX6_isLike_89 : decode cX6_isLike 89 = .ok (.iinc 5 1, 3) := by decide +kernel
theorem dX6_isLike_92 : decode cX6_isLike 92 = .ok (.goto (-84), 3) := by decide +kernel
theorem dX6_isLike_95 : decode cX6_isLike 95 = .ok (.iload_n 3, 1) := by decide +kernel
theorem dX6_isLike_96 : decode cX6_isLike 96 = .ok (.ifCond .ne 8, 3) := by decide +kernel
theorem dX6_isLike_99 : decode cX6_isLike 99 = .ok (.iload 4, 2) := by decide +kernel
theorem dX6_isLike_101 : decode cX6_isLike 101 = .ok (.ifCond .eq 7, 3) := by decide +kernel
theorem dX6_isLike_104 : decode cX6_isLike 104 = .ok (.iconst 1, 1) := by decide +kernel
theorem dX6_isLike_105 : decode cX6_isLike 105 = .ok (.goto 4, 3) := by decide +kernel
theorem dX6_isLike_108 : decode cX6_isLike 108 = .ok (.iconst 0, 1) := by decide +kernel
theorem dX6_isLike_109 : decode cX6_isLike 109 = .ok (.ireturn, 1) := by decide +kernel
set_option maxRecDepth 20000 in
theorem ggX6_kindOf_X6_isBulge : GoodIn wsX6_kindOf wsX6_isBulge := goodIn_r _ [5, 6, 21, 22, 23, 24, 25, 26, 27, 28, 29, 30, 31, 32, 33, 34, 35, 36, 37, 38, 39, 40, 41, 42, 43] (by decide +kernel) (by decide +kernel)
set_option maxRecDepth 20000 in
theorem gX6_kindOf_X6_isBulge : GoodIn wsX6_kindOf (wsV RX6 135 RX6 yX6_isBulge wsX6_isBulge) := goodIn_app (goodIn_of _ (by decide +kernel)) ggX6_kindOf_X6_isBulge
set_option maxRecDepth 20000 in
theorem ggX6_kindOf_X6_sides : GoodIn wsX6_kindOf wsX6_sides := goodIn_r _ [10, 11, 12, 13, 14, 15, 4, 16, 21, 22, 23, 24, 25, 26, 27, 28, 29, 30, 31, 32, 33, 34, 35, 36, 37, 38, 39, 40, 41, 42, 43] (by decide +kernel) (by decide +kernel)
set_option maxRecDepth 20000 in
theorem gX6_kindOf_X6_sides : GoodIn wsX6_kindOf (wsV RX6 67 RX6 yX6_sides wsX6_sides) := goodIn_app (goodIn_of _ (by decide +kernel)) ggX6_kindOf_X6_sides
set_option maxRecDepth 20000 in
theorem ggX6_kindOf_X6_isLike : GoodIn wsX6_kindOf wsX6_isLike := goodIn_r _ [20, 6, 21, 22, 23, 24, 25, 26, 27, 28, 29, 30, 31, 32, 33, 34, 35, 36, 37, 38, 39, 40, 41, 42, 43] (by decide +kernel) (by decide +kernel)
set_option maxRecDepth 20000 in
theorem gX6_kindOf_X6_isLike : GoodIn wsX6_kindOf (wsV RX6 138 RX6 yX6_isLike wsX6_isLike) := goodIn_app (goodIn_of _ (by decide +kernel)) ggX6_kindOf_X6_isLike
theorem dX6_kindOf_0 : decode cX6_kindOf 0 = .ok (.aload_n 0, 1) := by decide +kernel
theorem dX6_kindOf_1 : decode cX6_kindOf 1 = .ok (.iload_n 1, 1) := by decide +kernel
theorem dX6_kindOf_2 : decode cX6_kindOf 2 = .ok (.invokevirtual 135, 3) := by decide +kernel
theorem dX6_kindOf_5 : decode cX6_kindOf 5 = .ok (.ifCond .ne 5, 3) := by decide +kernel
theorem dX6_kindOf_8 : decode cX6_kindOf 8 = .ok (.iconst 0, 1) := by decide +kernel
theorem dX6_kindOf_9 : decode cX6_kindOf 9 = .ok (.ireturn, 1) := by decide +kernel
theorem dX6_kindOf_10 : decode cX6_kindOf 10 = .ok (.iconst 0, 1) := by decide +kernel
theorem dX6_kindOf_11 : decode cX6_kindOf 11 = .ok (.istore_n 2, 1) := by decide +kernel
theorem dX6_kindOf_12 : decode cX6_kindOf 12 = .ok (.iload_n 2, 1) := by decide +kernel
theorem dX6_kindOf_13 : decode cX6_kindOf 13 = .ok (.aload_n 0, 1) := by decide +kernel
theorem dX6_kindOf_14 : decode cX6_kindOf 14 = .ok (.invokevirtual 67, 3) := by decide +kernel
theorem dX6_kindOf_17 : decode cX6_kindOf 17 = .ok (.if_icmp .ge 25, 3) := by decide +kernel
theorem dX6_kindOf_20 : decode cX6_kindOf 20 = .ok (.iload_n 2, 1) := by decide +kernel
theorem dX6_kindOf_21 : decode cX6_kindOf 21 = .ok (.iload_n 1, 1) := by decide +kernel
theorem dX6_kindOf_22 : decode cX6_kindOf 22 = .ok (.if_icmp .eq 14, 3) := by decide +kernel
theorem dX6_kindOf_25 : decode cX6_kindOf 25 = .ok (.aload_n 0, 1) := by decide +kernel
theorem dX6_kindOf_26 : decode cX6_kindOf 26 = .ok (.iload_n 1, 1) := by decide +kernel
theorem dX6_kindOf_27 : decode cX6_kindOf 27 = .ok (.iload_n 2, 1) := by decide +kernel
theorem dX6_kindOf_28 : decode cX6_kindOf 28 = .ok (.invokevirtual 138, 3) := by decide +kernel
theorem dX6_kindOf_31 : decode cX6_kindOf 31 = .ok (.ifCond .eq 5, 3) := by decide +kernel
theorem dX6_kindOf_34 : decode cX6_kindOf 34 = .ok (.iconst 2, 1) := by decide +kernel
theorem dX6_kindOf_35 : decode cX6_kindOf 35 = .ok (.ireturn, 1) := by decide +kernel
theorem dX6_kindOf_36 : decode cX6_kindOf 36 = .ok (.iinc 2 1, 3) := by decide +kernel
theorem dX6_kindOf_39 : decode cX6_kindOf 39 = .ok (.goto (-27), 3) := by decide +kernel
theorem dX6_kindOf_42 : decode cX6_kindOf 42 = .ok (.iconst 1, 1) := by decide +kernel
theorem dX6_kindOf_43 : decode cX6_kindOf 43 = .ok (.ireturn, 1) := by decide +kernel
set_option maxRecDepth 20000 in
theorem ggX6_kind_X6_noSide : GoodIn wsX6_kind wsX6_noSide := goodIn_r _ [5, 6, 7, 8, 4, 9, 10, 11, 12, 13, 14, 15, 16, 17, 18, 32, 33, 34, 35, 36, 37, 38, 39, 40, 41, 42, 43, 44, 45, 46, 47, 48, 49, 50, 51, 52, 53, 54] (by decide +kernel) (by decide +kernel)
set_option maxRecDepth 20000 in
theorem gX6_kind_X6_noSide : GoodIn wsX6_kind (wsV RX6 105 RX6 yX6_noSide wsX6_noSide) := goodIn_app (goodIn_of _ (by decide +kernel)) ggX6_kind_X6_noSide
set_option maxRecDepth 20000 in
theorem ggX6_kind_X6_kindOf : GoodIn wsX6_kind wsX6_kindOf := goodIn_r _ [22, 23, 24, 25, 4, 26, 27, 6, 7, 8, 9, 10, 11, 12, 13, 14, 15, 28, 29, 30, 31, 32, 33, 34, 35, 36, 37, 38, 39, 40, 41, 42, 43, 44, 45, 46, 47, 48, 49, 50, 51, 52, 53, 54] (by decide +kernel) (by decide +kernel)
set_option maxRecDepth 20000 in
theorem gX6_kind_X6_kindOf : GoodIn wsX6_kind (wsV RX6 142 RX6 yX6_kindOf wsX6_kindOf) := goodIn_app (goodIn_of _ (by decide +kernel)) ggX6_kind_X6_kindOf
theorem dX6_kind_0 : decode cX6_kind 0 = .ok (.aload_n 0, 1) := by decide +kernel
theorem dX6_kind_1 : decode cX6_kind 1 = .ok (.iload_n 1, 1) := by decide +kernel
theorem dX6_kind_2 : decode cX6_kind 2 = .ok (.invokevirtual 105, 3) := by decide +kernel
theorem dX6_kind_5 : decode cX6_kind 5 = .ok (.ifCond .eq 7, 3) := by decide +kernel
theorem dX6_kind_8 : decode cX6_kind 8 = .ok (.iconst (-1), 1) := by decide +kernel
theorem dX6_kind_9 : decode cX6_kind 9 = .ok (.goto 8, 3) := by decide +kernel
theorem dX6_kind_12 : decode cX6_kind 12 = .ok (.aload_n 0, 1) := by decide +kernel
theorem dX6_kind_13 : decode cX6_kind 13 = .ok (.iload_n 1, 1) := by decide +kernel
theorem dX6_kind_14 : decode cX6_kind 14 = .ok (.invokevirtual 142, 3) := by decide +kernel
theorem dX6_kind_17 : decode cX6_kind 17 = .ok (.ireturn, 1) := by decide +kernel
set_option maxRecDepth 20000 in
theorem ggX6_goThrough_X6_pieces : GoodIn wsX6_goThrough wsX6_pieces := goodIn_r _ [7, 8, 9, 30, 31, 32, 33, 34, 35, 36, 37, 38, 39, 40, 41, 42, 43, 44, 45, 46, 47, 48, 49, 50, 51, 52] (by decide +kernel) (by decide +kernel)
set_option maxRecDepth 20000 in
theorem gX6_goThrough_X6_pieces : GoodIn wsX6_goThrough (wsV RX6 74 RX6 yX6_pieces wsX6_pieces) := goodIn_app (goodIn_of _ (by decide +kernel)) ggX6_goThrough_X6_pieces
set_option maxRecDepth 20000 in
theorem ggX6_goThrough_X6_sideAt : GoodIn wsX6_goThrough wsX6_sideAt := goodIn_r _ [13, 8, 9, 14, 15, 16, 6, 17, 30, 31, 32, 33, 34, 35, 36, 37, 38, 39, 40, 41, 42, 43, 44, 45, 46, 47, 48, 49, 50, 51, 52] (by decide +kernel) (by decide +kernel)
set_option maxRecDepth 20000 in
theorem gX6_goThrough_X6_sideAt : GoodIn wsX6_goThrough (wsV RX6 120 RX6 yX6_sideAt wsX6_sideAt) := goodIn_app (goodIn_of _ (by decide +kernel)) ggX6_goThrough_X6_sideAt
set_option maxRecDepth 20000 in
theorem ggX6_goThrough_X6_farOf : GoodIn wsX6_goThrough wsX6_farOf := goodIn_r _ [21, 22, 23, 24, 6, 25, 26, 10, 11, 12, 13, 8, 9, 14, 15, 16, 17, 27, 28, 29, 30, 31, 32, 33, 34, 35, 36, 37, 38, 39, 40, 41, 42, 43, 44, 45, 46, 47, 48, 49, 50, 51, 52] (by decide +kernel) (by decide +kernel)
set_option maxRecDepth 20000 in
theorem gX6_goThrough_X6_farOf : GoodIn wsX6_goThrough (wsV RX6 131 RX6 yX6_farOf wsX6_farOf) := goodIn_app (goodIn_of _ (by decide +kernel)) ggX6_goThrough_X6_farOf
theorem dX6_goThrough_0 : decode cX6_goThrough 0 = .ok (.aload_n 0, 1) := by decide +kernel
theorem dX6_goThrough_1 : decode cX6_goThrough 1 = .ok (.iconst (-1), 1) := by decide +kernel
theorem dX6_goThrough_2 : decode cX6_goThrough 2 = .ok (.putfield 145, 3) := by decide +kernel
theorem dX6_goThrough_5 : decode cX6_goThrough 5 = .ok (.aload_n 0, 1) := by decide +kernel
theorem dX6_goThrough_6 : decode cX6_goThrough 6 = .ok (.iconst 0, 1) := by decide +kernel
theorem dX6_goThrough_7 : decode cX6_goThrough 7 = .ok (.putfield 148, 3) := by decide +kernel
theorem dX6_goThrough_10 : decode cX6_goThrough 10 = .ok (.iconst 0, 1) := by decide +kernel
theorem dX6_goThrough_11 : decode cX6_goThrough 11 = .ok (.istore_n 2, 1) := by decide +kernel
theorem dX6_goThrough_12 : decode cX6_goThrough 12 = .ok (.iload_n 2, 1) := by decide +kernel
theorem dX6_goThrough_13 : decode cX6_goThrough 13 = .ok (.iconst 4, 1) := by decide +kernel
theorem dX6_goThrough_14 : decode cX6_goThrough 14 = .ok (.aload_n 0, 1) := by decide +kernel
theorem dX6_goThrough_15 : decode cX6_goThrough 15 = .ok (.invokevirtual 74, 3) := by decide +kernel
theorem dX6_goThrough_18 : decode cX6_goThrough 18 = .ok (.imul, 1) := by decide +kernel
theorem dX6_goThrough_19 : decode cX6_goThrough 19 = .ok (.if_icmp .ge 139, 3) := by decide +kernel
theorem dX6_goThrough_22 : decode cX6_goThrough 22 = .ok (.iconst 0, 1) := by decide +kernel
theorem dX6_goThrough_23 : decode cX6_goThrough 23 = .ok (.istore_n 3, 1) := by decide +kernel
theorem dX6_goThrough_24 : decode cX6_goThrough 24 = .ok (.iload_n 3, 1) := by decide +kernel
theorem dX6_goThrough_25 : decode cX6_goThrough 25 = .ok (.iload_n 2, 1) := by decide +kernel
theorem dX6_goThrough_26 : decode cX6_goThrough 26 = .ok (.if_icmp .ge 126, 3) := by decide +kernel
theorem dX6_goThrough_29 : decode cX6_goThrough 29 = .ok (.aload_n 0, 1) := by decide +kernel
theorem dX6_goThrough_30 : decode cX6_goThrough 30 = .ok (.iload_n 2, 1) := by decide +kernel
theorem dX6_goThrough_31 : decode cX6_goThrough 31 = .ok (.iconst 4, 1) := by decide +kernel
theorem dX6_goThrough_32 : decode cX6_goThrough 32 = .ok (.idiv, 1) := by decide +kernel
theorem dX6_goThrough_33 : decode cX6_goThrough 33 = .ok (.iload_n 2, 1) := by decide +kernel
theorem dX6_goThrough_34 : decode cX6_goThrough 34 = .ok (.iconst 4, 1) := by decide +kernel
theorem dX6_goThrough_35 : decode cX6_goThrough 35 = .ok (.irem, 1) := by decide +kernel
theorem dX6_goThrough_36 : decode cX6_goThrough 36 = .ok (.invokevirtual 120, 3) := by decide +kernel
theorem dX6_goThrough_39 : decode cX6_goThrough 39 = .ok (.istore 4, 2) := by decide +kernel
theorem dX6_goThrough_41 : decode cX6_goThrough 41 = .ok (.aload_n 0, 1) := by decide +kernel
theorem dX6_goThrough_42 : decode cX6_goThrough 42 = .ok (.iload_n 3, 1) := by decide +kernel
theorem dX6_goThrough_43 : decode cX6_goThrough 43 = .ok (.iconst 4, 1) := by decide +kernel
theorem dX6_goThrough_44 : decode cX6_goThrough 44 = .ok (.idiv, 1) := by decide +kernel
theorem dX6_goThrough_45 : decode cX6_goThrough 45 = .ok (.iload_n 3, 1) := by decide +kernel
theorem dX6_goThrough_46 : decode cX6_goThrough 46 = .ok (.iconst 4, 1) := by decide +kernel
theorem dX6_goThrough_47 : decode cX6_goThrough 47 = .ok (.irem, 1) := by decide +kernel
theorem dX6_goThrough_48 : decode cX6_goThrough 48 = .ok (.invokevirtual 120, 3) := by decide +kernel
theorem dX6_goThrough_51 : decode cX6_goThrough 51 = .ok (.istore 5, 2) := by decide +kernel
theorem dX6_goThrough_53 : decode cX6_goThrough 53 = .ok (.iload_n 2, 1) := by decide +kernel
theorem dX6_goThrough_54 : decode cX6_goThrough 54 = .ok (.iconst 4, 1) := by decide +kernel
theorem dX6_goThrough_55 : decode cX6_goThrough 55 = .ok (.idiv, 1) := by decide +kernel
theorem dX6_goThrough_56 : decode cX6_goThrough 56 = .ok (.iload_n 3, 1) := by decide +kernel
theorem dX6_goThrough_57 : decode cX6_goThrough 57 = .ok (.iconst 4, 1) := by decide +kernel
theorem dX6_goThrough_58 : decode cX6_goThrough 58 = .ok (.idiv, 1) := by decide +kernel
theorem dX6_goThrough_59 : decode cX6_goThrough 59 = .ok (.if_icmp .eq 87, 3) := by decide +kernel
theorem dX6_goThrough_62 : decode cX6_goThrough 62 = .ok (.iload 4, 2) := by decide +kernel
theorem dX6_goThrough_64 : decode cX6_goThrough 64 = .ok (.ifCond .lt 82, 3) := by decide +kernel
theorem dX6_goThrough_67 : decode cX6_goThrough 67 = .ok (.iload 5, 2) := by decide +kernel
theorem dX6_goThrough_69 : decode cX6_goThrough 69 = .ok (.ifCond .lt 77, 3) := by decide +kernel
theorem dX6_goThrough_72 : decode cX6_goThrough 72 = .ok (.iload 4, 2) := by decide +kernel
theorem dX6_goThrough_74 : decode cX6_goThrough 74 = .ok (.iload 5, 2) := by decide +kernel
theorem dX6_goThrough_76 : decode cX6_goThrough 76 = .ok (.if_icmp .eq 70, 3) := by decide +kernel
theorem dX6_goThrough_79 : decode cX6_goThrough 79 = .ok (.aload_n 0, 1) := by decide +kernel
theorem dX6_goThrough_80 : decode cX6_goThrough 80 = .ok (.iload_n 2, 1) := by decide +kernel
theorem dX6_goThrough_81 : decode cX6_goThrough 81 = .ok (.iconst 4, 1) := by decide +kernel
theorem dX6_goThrough_82 : decode cX6_goThrough 82 = .ok (.idiv, 1) := by decide +kernel
theorem dX6_goThrough_83 : decode cX6_goThrough 83 = .ok (.iload_n 2, 1) := by decide +kernel
theorem dX6_goThrough_84 : decode cX6_goThrough 84 = .ok (.iconst 4, 1) := by decide +kernel
theorem dX6_goThrough_85 : decode cX6_goThrough 85 = .ok (.irem, 1) := by decide +kernel
theorem dX6_goThrough_86 : decode cX6_goThrough 86 = .ok (.iload_n 3, 1) := by decide +kernel
theorem dX6_goThrough_87 : decode cX6_goThrough 87 = .ok (.iconst 4, 1) := by decide +kernel
theorem dX6_goThrough_88 : decode cX6_goThrough 88 = .ok (.idiv, 1) := by decide +kernel
theorem dX6_goThrough_89 : decode cX6_goThrough 89 = .ok (.iload_n 3, 1) := by decide +kernel
theorem dX6_goThrough_90 : decode cX6_goThrough 90 = .ok (.iconst 4, 1) := by decide +kernel
theorem dX6_goThrough_91 : decode cX6_goThrough 91 = .ok (.irem, 1) := by decide +kernel
theorem dX6_goThrough_92 : decode cX6_goThrough 92 = .ok (.invokevirtual 131, 3) := by decide +kernel
theorem dX6_goThrough_95 : decode cX6_goThrough 95 = .ok (.istore 6, 2) := by decide +kernel
theorem dX6_goThrough_97 : decode cX6_goThrough 97 = .ok (.aload_n 0, 1) := by decide +kernel
theorem dX6_goThrough_98 : decode cX6_goThrough 98 = .ok (.aload_n 0, 1) := by decide +kernel
theorem dX6_goThrough_99 : decode cX6_goThrough 99 = .ok (.getfield 145, 3) := by decide +kernel
theorem dX6_goThrough_102 : decode cX6_goThrough 102 = .ok (.ifCond .lt 12, 3) := by decide +kernel
theorem dX6_goThrough_105 : decode cX6_goThrough 105 = .ok (.iload 6, 2) := by decide +kernel
theorem dX6_goThrough_107 : decode cX6_goThrough 107 = .ok (.aload_n 0, 1) := by decide +kernel
theorem dX6_goThrough_108 : decode cX6_goThrough 108 = .ok (.getfield 145, 3) := by decide +kernel
theorem dX6_goThrough_111 : decode cX6_goThrough 111 = .ok (.if_icmp .ge 8, 3) := by decide +kernel
theorem dX6_goThrough_114 : decode cX6_goThrough 114 = .ok (.iload 6, 2) := by decide +kernel
theorem dX6_goThrough_116 : decode cX6_goThrough 116 = .ok (.goto 7, 3) := by decide +kernel
theorem dX6_goThrough_119 : decode cX6_goThrough 119 = .ok (.aload_n 0, 1) := by decide +kernel
theorem dX6_goThrough_120 : decode cX6_goThrough 120 = .ok (.getfield 145, 3) := by decide +kernel
theorem dX6_goThrough_123 : decode cX6_goThrough 123 = .ok (.putfield 145, 3) := by decide +kernel
theorem dX6_goThrough_126 : decode cX6_goThrough 126 = .ok (.aload_n 0, 1) := by decide +kernel
theorem dX6_goThrough_127 : decode cX6_goThrough 127 = .ok (.dup, 1) := by decide +kernel
theorem dX6_goThrough_128 : decode cX6_goThrough 128 = .ok (.getfield 148, 3) := by decide +kernel
theorem dX6_goThrough_131 : decode cX6_goThrough 131 = .ok (.iload 6, 2) := by decide +kernel
theorem dX6_goThrough_133 : decode cX6_goThrough 133 = .ok (.iload_n 1, 1) := by decide +kernel
theorem dX6_goThrough_134 : decode cX6_goThrough 134 = .ok (.if_icmp .gt 7, 3) := by decide +kernel
theorem dX6_goThrough_137 : decode cX6_goThrough 137 = .ok (.iconst 1, 1) := by decide +kernel
theorem dX6_goThrough_138 : decode cX6_goThrough 138 = .ok (.goto 4, 3) := by decide +kernel
theorem dX6_goThrough_141 : decode cX6_goThrough 141 = .ok (.iconst 0, 1) := by decide +kernel
theorem dX6_goThrough_142 : decode cX6_goThrough 142 = .ok (.iadd, 1) := by decide +kernel
theorem dX6_goThrough_143 : decode cX6_goThrough 143 = .ok (.putfield 148, 3) := by decide +kernel
theorem dX6_goThrough_146 : decode cX6_goThrough 146 = .ok (.iinc 3 1, 3) := by decide +kernel
theorem dX6_goThrough_149 : decode cX6_goThrough 149 = .ok (.goto (-125), 3) := by decide +kernel
theorem dX6_goThrough_152 : decode cX6_goThrough 152 = .ok (.iinc 2 1, 3) := by decide +kernel
theorem dX6_goThrough_155 : decode cX6_goThrough 155 = .ok (.goto (-143), 3) := by decide +kernel
theorem dX6_goThrough_158 : decode cX6_goThrough 158 = .ok (.return_, 1) := by decide +kernel
set_option maxRecDepth 20000 in
theorem ggX6_unlike_X6_goThrough : GoodIn wsX6_unlike wsX6_goThrough := goodIn_r _ [6, 1, 7, 8, 9, 10, 5, 11, 12, 13, 14, 15, 16, 17, 18, 19, 20, 21, 22, 23, 24, 25, 26, 27, 28, 29, 30, 31, 32, 33, 34, 35, 36, 37, 38, 39, 40, 41, 42, 43, 44, 45, 46, 47, 48, 49, 50, 51, 52, 53, 54, 55, 56] (by decide +kernel) (by decide +kernel)
set_option maxRecDepth 20000 in
theorem gX6_unlike_X6_goThrough : GoodIn wsX6_unlike (wsV RX6 151 RX6 yX6_goThrough wsX6_goThrough) := goodIn_app (goodIn_of _ (by decide +kernel)) ggX6_unlike_X6_goThrough
theorem dX6_unlike_0 : decode cX6_unlike 0 = .ok (.aload_n 0, 1) := by decide +kernel
theorem dX6_unlike_1 : decode cX6_unlike 1 = .ok (.iconst 0, 1) := by decide +kernel
theorem dX6_unlike_2 : decode cX6_unlike 2 = .ok (.invokevirtual 151, 3) := by decide +kernel
theorem dX6_unlike_5 : decode cX6_unlike 5 = .ok (.aload_n 0, 1) := by decide +kernel
theorem dX6_unlike_6 : decode cX6_unlike 6 = .ok (.getfield 145, 3) := by decide +kernel
theorem dX6_unlike_9 : decode cX6_unlike 9 = .ok (.ifCond .ge 8, 3) := by decide +kernel
theorem dX6_unlike_12 : decode cX6_unlike 12 = .ok (.bipush (-3), 2) := by decide +kernel
theorem dX6_unlike_14 : decode cX6_unlike 14 = .ok (.goto 7, 3) := by decide +kernel
theorem dX6_unlike_17 : decode cX6_unlike 17 = .ok (.aload_n 0, 1) := by decide +kernel
theorem dX6_unlike_18 : decode cX6_unlike 18 = .ok (.getfield 145, 3) := by decide +kernel
theorem dX6_unlike_21 : decode cX6_unlike 21 = .ok (.ireturn, 1) := by decide +kernel
set_option maxRecDepth 20000 in
theorem ggX6_traps_X6_goThrough : GoodIn wsX6_traps wsX6_goThrough := goodIn_r _ [6, 7, 1, 8, 9, 10, 5, 11, 12, 13, 14, 15, 16, 17, 18, 19, 20, 21, 22, 23, 24, 25, 26, 27, 28, 29, 30, 31, 32, 33, 34, 35, 36, 37, 38, 39, 40, 41, 42, 43, 44, 45, 46, 47, 48, 49, 50, 51, 52, 53, 54, 55, 56] (by decide +kernel) (by decide +kernel)
set_option maxRecDepth 20000 in
theorem gX6_traps_X6_goThrough : GoodIn wsX6_traps (wsV RX6 151 RX6 yX6_goThrough wsX6_goThrough) := goodIn_app (goodIn_of _ (by decide +kernel)) ggX6_traps_X6_goThrough
theorem dX6_traps_0 : decode cX6_traps 0 = .ok (.iload_n 1, 1) := by decide +kernel
theorem dX6_traps_1 : decode cX6_traps 1 = .ok (.ifCond .ge 6, 3) := by decide +kernel
theorem dX6_traps_4 : decode cX6_traps 4 = .ok (.bipush (-2), 2) := by decide +kernel
theorem dX6_traps_6 : decode cX6_traps 6 = .ok (.ireturn, 1) := by decide +kernel
theorem dX6_traps_7 : decode cX6_traps 7 = .ok (.aload_n 0, 1) := by decide +kernel
theorem dX6_traps_8 : decode cX6_traps 8 = .ok (.iload_n 1, 1) := by decide +kernel
theorem dX6_traps_9 : decode cX6_traps 9 = .ok (.invokevirtual 151, 3) := by decide +kernel
theorem dX6_traps_12 : decode cX6_traps 12 = .ok (.aload_n 0, 1) := by decide +kernel
theorem dX6_traps_13 : decode cX6_traps 13 = .ok (.getfield 148, 3) := by decide +kernel
theorem dX6_traps_16 : decode cX6_traps 16 = .ok (.ireturn, 1) := by decide +kernel
set_option maxRecDepth 20000 in
theorem ggX6_alike_X6_noSide : GoodIn wsX6_alike wsX6_noSide := goodIn_r _ [6, 7, 8, 9, 5, 10, 11, 12, 13, 14, 15, 16, 17, 18, 19, 25, 26, 27, 28, 29, 30, 31, 32, 33, 34, 35, 36, 37, 38, 39, 40, 41, 42, 43, 44, 45, 46, 47] (by decide +kernel) (by decide +kernel)
set_option maxRecDepth 20000 in
theorem gX6_alike_X6_noSide : GoodIn wsX6_alike (wsV RX6 105 RX6 yX6_noSide wsX6_noSide) := goodIn_app (goodIn_of _ (by decide +kernel)) ggX6_alike_X6_noSide
set_option maxRecDepth 20000 in
theorem ggX6_alike_X6_in : GoodIn wsX6_alike wsX6_in := goodIn_r _ [19] (by decide +kernel) (by decide +kernel)
set_option maxRecDepth 20000 in
theorem gX6_alike_X6_in : GoodIn wsX6_alike (va_wsS RX6 70 yX6_in wsX6_in) := goodIn_app (goodIn_of _ (by decide +kernel)) ggX6_alike_X6_in
set_option maxRecDepth 20000 in
theorem ggX6_alike_X6_changed : GoodIn wsX6_alike wsX6_changed := goodIn_r _ [23, 24, 25, 26, 27, 28, 29, 30, 31, 32, 33, 34, 35, 36, 37, 38, 39, 40, 41, 42, 43, 44, 45, 46, 47] (by decide +kernel) (by decide +kernel)
set_option maxRecDepth 20000 in
theorem gX6_alike_X6_changed : GoodIn wsX6_alike (wsV RX6 86 RX6 yX6_changed wsX6_changed) := goodIn_app (goodIn_of _ (by decide +kernel)) ggX6_alike_X6_changed
theorem dX6_alike_0 : decode cX6_alike 0 = .ok (.aload_n 0, 1) := by decide +kernel
theorem dX6_alike_1 : decode cX6_alike 1 = .ok (.iload_n 1, 1) := by decide +kernel
theorem dX6_alike_2 : decode cX6_alike 2 = .ok (.invokevirtual 105, 3) := by decide +kernel
theorem dX6_alike_5 : decode cX6_alike 5 = .ok (.ifCond .ne 11, 3) := by decide +kernel
theorem dX6_alike_8 : decode cX6_alike 8 = .ok (.aload_n 0, 1) := by decide +kernel
theorem dX6_alike_9 : decode cX6_alike 9 = .ok (.iload_n 2, 1) := by decide +kernel
theorem dX6_alike_10 : decode cX6_alike 10 = .ok (.invokevirtual 105, 3) := by decide +kernel
theorem dX6_alike_13 : decode cX6_alike 13 = .ok (.ifCond .eq 5, 3) := by decide +kernel
theorem dX6_alike_16 : decode cX6_alike 16 = .ok (.iconst (-1), 1) := by decide +kernel
theorem dX6_alike_17 : decode cX6_alike 17 = .ok (.ireturn, 1) := by decide +kernel
theorem dX6_alike_18 : decode cX6_alike 18 = .ok (.iload_n 3, 1) := by decide +kernel
theorem dX6_alike_19 : decode cX6_alike 19 = .ok (.i2l, 1) := by decide +kernel
theorem dX6_alike_20 : decode cX6_alike 20 = .ok (.lconst 0, 1) := by decide +kernel
theorem dX6_alike_21 : decode cX6_alike 21 = .ok (.lconst 1, 1) := by decide +kernel
theorem dX6_alike_22 : decode cX6_alike 22 = .ok (.invokestatic 70, 3) := by decide +kernel
theorem dX6_alike_25 : decode cX6_alike 25 = .ok (.ifCond .ne 6, 3) := by decide +kernel
theorem dX6_alike_28 : decode cX6_alike 28 = .ok (.bipush (-2), 2) := by decide +kernel
theorem dX6_alike_30 : decode cX6_alike 30 = .ok (.ireturn, 1) := by decide +kernel
theorem dX6_alike_31 : decode cX6_alike 31 = .ok (.iload_n 1, 1) := by decide +kernel
theorem dX6_alike_32 : decode cX6_alike 32 = .ok (.iload_n 2, 1) := by decide +kernel
theorem dX6_alike_33 : decode cX6_alike 33 = .ok (.if_icmp .ne 6, 3) := by decide +kernel
theorem dX6_alike_36 : decode cX6_alike 36 = .ok (.bipush (-3), 2) := by decide +kernel
theorem dX6_alike_38 : decode cX6_alike 38 = .ok (.ireturn, 1) := by decide +kernel
theorem dX6_alike_39 : decode cX6_alike 39 = .ok (.iconst 0, 1) := by decide +kernel
theorem dX6_alike_40 : decode cX6_alike 40 = .ok (.istore 4, 2) := by decide +kernel
theorem dX6_alike_42 : decode cX6_alike 42 = .ok (.iconst 0, 1) := by decide +kernel
theorem dX6_alike_43 : decode cX6_alike 43 = .ok (.istore 5, 2) := by decide +kernel
theorem dX6_alike_45 : decode cX6_alike 45 = .ok (.iload 5, 2) := by decide +kernel
theorem dX6_alike_47 : decode cX6_alike 47 = .ok (.iconst 5, 1) := by decide +kernel
theorem dX6_alike_48 : decode cX6_alike 48 = .ok (.if_icmp .ge 82, 3) := by decide +kernel
theorem dX6_alike_51 : decode cX6_alike 51 = .ok (.iload_n 3, 1) := by decide +kernel
theorem dX6_alike_52 : decode cX6_alike 52 = .ok (.ifCond .ne 17, 3) := by decide +kernel
theorem dX6_alike_55 : decode cX6_alike 55 = .ok (.aload_n 0, 1) := by decide +kernel
theorem dX6_alike_56 : decode cX6_alike 56 = .ok (.getfield 7, 3) := by decide +kernel
theorem dX6_alike_59 : decode cX6_alike 59 = .ok (.iconst 5, 1) := by decide +kernel
theorem dX6_alike_60 : decode cX6_alike 60 = .ok (.iload_n 2, 1) := by decide +kernel
theorem dX6_alike_61 : decode cX6_alike 61 = .ok (.imul, 1) := by decide +kernel
theorem dX6_alike_62 : decode cX6_alike 62 = .ok (.iload 5, 2) := by decide +kernel
theorem dX6_alike_64 : decode cX6_alike 64 = .ok (.iadd, 1) := by decide +kernel
theorem dX6_alike_65 : decode cX6_alike 65 = .ok (.iaload, 1) := by decide +kernel
theorem dX6_alike_66 : decode cX6_alike 66 = .ok (.goto 17, 3) := by decide +kernel
theorem dX6_alike_69 : decode cX6_alike 69 = .ok (.aload_n 0, 1) := by decide +kernel
theorem dX6_alike_70 : decode cX6_alike 70 = .ok (.getfield 7, 3) := by decide +kernel
theorem dX6_alike_73 : decode cX6_alike 73 = .ok (.iconst 5, 1) := by decide +kernel
theorem dX6_alike_74 : decode cX6_alike 74 = .ok (.iload_n 2, 1) := by decide +kernel
theorem dX6_alike_75 : decode cX6_alike 75 = .ok (.imul, 1) := by decide +kernel
theorem dX6_alike_76 : decode cX6_alike 76 = .ok (.iconst 4, 1) := by decide +kernel
theorem dX6_alike_77 : decode cX6_alike 77 = .ok (.iadd, 1) := by decide +kernel
theorem dX6_alike_78 : decode cX6_alike 78 = .ok (.iload 5, 2) := by decide +kernel
theorem dX6_alike_80 : decode cX6_alike 80 = .ok (.isub, 1) := by decide +kernel
theorem dX6_alike_81 : decode cX6_alike 81 = .ok (.iaload, 1) := by decide +kernel
theorem dX6_alike_82 : decode cX6_alike 82 = .ok (.ineg, 1) := by decide +kernel
theorem dX6_alike_83 : decode cX6_alike 83 = .ok (.istore 6, 2) := by decide +kernel
theorem dX6_alike_85 : decode cX6_alike 85 = .ok (.iload 4, 2) := by decide +kernel
theorem dX6_alike_87 : decode cX6_alike 87 = .ok (.aload_n 0, 1) := by decide +kernel
theorem dX6_alike_88 : decode cX6_alike 88 = .ok (.getfield 7, 3) := by decide +kernel
theorem dX6_alike_91 : decode cX6_alike 91 = .ok (.iconst 5, 1) := by decide +kernel
theorem dX6_alike_92 : decode cX6_alike 92 = .ok (.iload_n 1, 1) := by decide +kernel
theorem dX6_alike_93 : decode cX6_alike 93 = .ok (.imul, 1) := by decide +kernel
theorem dX6_alike_94 : decode cX6_alike 94 = .ok (.iload 5, 2) := by decide +kernel
theorem dX6_alike_96 : decode cX6_alike 96 = .ok (.iadd, 1) := by decide +kernel
theorem dX6_alike_97 : decode cX6_alike 97 = .ok (.iaload, 1) := by decide +kernel
theorem dX6_alike_98 : decode cX6_alike 98 = .ok (.iload 6, 2) := by decide +kernel
theorem dX6_alike_100 : decode cX6_alike 100 = .ok (.if_icmp .eq 7, 3) := by decide +kernel
theorem dX6_alike_103 : decode cX6_alike 103 = .ok (.iconst 1, 1) := by decide +kernel
theorem dX6_alike_104 : decode cX6_alike 104 = .ok (.goto 4, 3) := by decide +kernel
theorem dX6_alike_107 : decode cX6_alike 107 = .ok (.iconst 0, 1) := by decide +kernel
theorem dX6_alike_108 : decode cX6_alike 108 = .ok (.iadd, 1) := by decide +kernel
theorem dX6_alike_109 : decode cX6_alike 109 = .ok (.istore 4, 2) := by decide +kernel
theorem dX6_alike_111 : decode cX6_alike 111 = .ok (.aload_n 0, 1) := by decide +kernel
theorem dX6_alike_112 : decode cX6_alike 112 = .ok (.getfield 7, 3) := by decide +kernel
theorem dX6_alike_115 : decode cX6_alike 115 = .ok (.iconst 5, 1) := by decide +kernel
theorem dX6_alike_116 : decode cX6_alike 116 = .ok (.iload_n 1, 1) := by decide +kernel
theorem dX6_alike_117 : decode cX6_alike 117 = .ok (.imul, 1) := by decide +kernel
theorem dX6_alike_118 : decode cX6_alike 118 = .ok (.iload 5, 2) := by decide +kernel
theorem dX6_alike_120 : decode cX6_alike 120 = .ok (.iadd, 1) := by decide +kernel
theorem dX6_alike_121 : decode cX6_alike 121 = .ok (.iload 6, 2) := by decide +kernel
theorem dX6_alike_123 : decode cX6_alike 123 = .ok (.iastore, 1) := by decide +kernel
theorem dX6_alike_124 : decode cX6_alike 124 = .ok (.iinc 5 1, 3) := by decide +kernel
theorem dX6_alike_127 : decode cX6_alike 127 = .ok (.goto (-82), 3) := by decide +kernel
theorem dX6_alike_130 : decode cX6_alike 130 = .ok (.aload_n 0, 1) := by decide +kernel
theorem dX6_alike_131 : decode cX6_alike 131 = .ok (.invokevirtual 86, 3) := by decide +kernel
theorem dX6_alike_134 : decode cX6_alike 134 = .ok (.iload 4, 2) := by decide +kernel
theorem dX6_alike_136 : decode cX6_alike 136 = .ok (.ireturn, 1) := by decide +kernel
set_option maxRecDepth 20000 in
theorem ggX6_lay_X6_noPiece : GoodIn wsX6_lay wsX6_noPiece := goodIn_r _ [9, 10, 11, 12, 8, 13, 14, 15, 16, 17, 18, 24, 25, 26, 27, 28, 29, 30, 31, 32, 33, 34, 35, 36, 37, 38, 39, 40, 41, 42, 43, 44, 45, 46] (by decide +kernel) (by decide +kernel)
set_option maxRecDepth 20000 in
theorem gX6_lay_X6_noPiece : GoodIn wsX6_lay (wsV RX6 115 RX6 yX6_noPiece wsX6_noPiece) := goodIn_app (goodIn_of _ (by decide +kernel)) ggX6_lay_X6_noPiece
set_option maxRecDepth 20000 in
theorem ggX6_lay_X6_in : GoodIn wsX6_lay wsX6_in := goodIn_r _ [18] (by decide +kernel) (by decide +kernel)
set_option maxRecDepth 20000 in
theorem gX6_lay_X6_in : GoodIn wsX6_lay (va_wsS RX6 70 yX6_in wsX6_in) := goodIn_app (goodIn_of _ (by decide +kernel)) ggX6_lay_X6_in
set_option maxRecDepth 20000 in
theorem ggX6_lay_X6_changed : GoodIn wsX6_lay wsX6_changed := goodIn_r _ [22, 23, 24, 25, 26, 27, 28, 29, 30, 31, 32, 33, 34, 35, 36, 37, 38, 39, 40, 41, 42, 43, 44, 45, 46] (by decide +kernel) (by decide +kernel)
set_option maxRecDepth 20000 in
theorem gX6_lay_X6_changed : GoodIn wsX6_lay (wsV RX6 86 RX6 yX6_changed wsX6_changed) := goodIn_app (goodIn_of _ (by decide +kernel)) ggX6_lay_X6_changed
theorem dX6_lay_0 : decode cX6_lay 0 = .ok (.aload_n 0, 1) := by decide +kernel
theorem dX6_lay_1 : decode cX6_lay 1 = .ok (.iload_n 1, 1) := by decide +kernel
theorem dX6_lay_2 : decode cX6_lay 2 = .ok (.invokevirtual 115, 3) := by decide +kernel
theorem dX6_lay_5 : decode cX6_lay 5 = .ok (.ifCond .eq 5, 3) := by decide +kernel
theorem dX6_lay_8 : decode cX6_lay 8 = .ok (.iconst (-1), 1) := by decide +kernel
theorem dX6_lay_9 : decode cX6_lay 9 = .ok (.ireturn, 1) := by decide +kernel
theorem dX6_lay_10 : decode cX6_lay 10 = .ok (.iload_n 2, 1) := by decide +kernel
theorem dX6_lay_11 : decode cX6_lay 11 = .ok (.i2l, 1) := by decide +kernel
theorem dX6_lay_12 : decode cX6_lay 12 = .ok (.lconst 0, 1) := by decide +kernel
theorem dX6_lay_13 : decode cX6_lay 13 = .ok (.ldc2_w 118, 3) := by decide +kernel
theorem dX6_lay_16 : decode cX6_lay 16 = .ok (.invokestatic 70, 3) := by decide +kernel
theorem dX6_lay_19 : decode cX6_lay 19 = .ok (.ifCond .ne 6, 3) := by decide +kernel
theorem dX6_lay_22 : decode cX6_lay 22 = .ok (.bipush (-2), 2) := by decide +kernel
theorem dX6_lay_24 : decode cX6_lay 24 = .ok (.ireturn, 1) := by decide +kernel
theorem dX6_lay_25 : decode cX6_lay 25 = .ok (.aload_n 0, 1) := by decide +kernel
theorem dX6_lay_26 : decode cX6_lay 26 = .ok (.getfield 83, 3) := by decide +kernel
theorem dX6_lay_29 : decode cX6_lay 29 = .ok (.bipush 25, 2) := by decide +kernel
theorem dX6_lay_31 : decode cX6_lay 31 = .ok (.if_icmp .ne 6, 3) := by decide +kernel
theorem dX6_lay_34 : decode cX6_lay 34 = .ok (.bipush (-4), 2) := by decide +kernel
theorem dX6_lay_36 : decode cX6_lay 36 = .ok (.ireturn, 1) := by decide +kernel
theorem dX6_lay_37 : decode cX6_lay 37 = .ok (.aload_n 0, 1) := by decide +kernel
theorem dX6_lay_38 : decode cX6_lay 38 = .ok (.getfield 13, 3) := by decide +kernel
theorem dX6_lay_41 : decode cX6_lay 41 = .ok (.aload_n 0, 1) := by decide +kernel
theorem dX6_lay_42 : decode cX6_lay 42 = .ok (.getfield 83, 3) := by decide +kernel
theorem dX6_lay_45 : decode cX6_lay 45 = .ok (.iload_n 1, 1) := by decide +kernel
theorem dX6_lay_46 : decode cX6_lay 46 = .ok (.iastore, 1) := by decide +kernel
theorem dX6_lay_47 : decode cX6_lay 47 = .ok (.aload_n 0, 1) := by decide +kernel
theorem dX6_lay_48 : decode cX6_lay 48 = .ok (.getfield 16, 3) := by decide +kernel
theorem dX6_lay_51 : decode cX6_lay 51 = .ok (.aload_n 0, 1) := by decide +kernel
theorem dX6_lay_52 : decode cX6_lay 52 = .ok (.getfield 83, 3) := by decide +kernel
theorem dX6_lay_55 : decode cX6_lay 55 = .ok (.iload_n 2, 1) := by decide +kernel
theorem dX6_lay_56 : decode cX6_lay 56 = .ok (.iastore, 1) := by decide +kernel
theorem dX6_lay_57 : decode cX6_lay 57 = .ok (.aload_n 0, 1) := by decide +kernel
theorem dX6_lay_58 : decode cX6_lay 58 = .ok (.dup, 1) := by decide +kernel
theorem dX6_lay_59 : decode cX6_lay 59 = .ok (.getfield 83, 3) := by decide +kernel
theorem dX6_lay_62 : decode cX6_lay 62 = .ok (.iconst 1, 1) := by decide +kernel
theorem dX6_lay_63 : decode cX6_lay 63 = .ok (.iadd, 1) := by decide +kernel
theorem dX6_lay_64 : decode cX6_lay 64 = .ok (.putfield 83, 3) := by decide +kernel
theorem dX6_lay_67 : decode cX6_lay 67 = .ok (.aload_n 0, 1) := by decide +kernel
theorem dX6_lay_68 : decode cX6_lay 68 = .ok (.invokevirtual 86, 3) := by decide +kernel
theorem dX6_lay_71 : decode cX6_lay 71 = .ok (.aload_n 0, 1) := by decide +kernel
theorem dX6_lay_72 : decode cX6_lay 72 = .ok (.getfield 83, 3) := by decide +kernel
theorem dX6_lay_75 : decode cX6_lay 75 = .ok (.ireturn, 1) := by decide +kernel
set_option maxRecDepth 20000 in
theorem ggX6_heap_X6_pieces : GoodIn wsX6_heap wsX6_pieces := goodIn_r _ [9, 10, 11, 25, 26, 27, 28, 29, 30, 31, 32, 33, 34, 35, 36, 37, 38, 39, 40, 41, 42, 43, 44, 45, 46, 47] (by decide +kernel) (by decide +kernel)
set_option maxRecDepth 20000 in
theorem gX6_heap_X6_pieces : GoodIn wsX6_heap (wsV RX6 74 RX6 yX6_pieces wsX6_pieces) := goodIn_app (goodIn_of _ (by decide +kernel)) ggX6_heap_X6_pieces
set_option maxRecDepth 20000 in
theorem ggX6_heap_X6_numberBelow : GoodIn wsX6_heap wsX6_numberBelow := goodIn_r _ [15, 1, 16, 17, 18, 19, 25, 26, 27, 28, 29, 30, 31, 32, 33, 34, 35, 36, 37, 38, 39, 40, 41, 42, 43, 44, 45, 46, 47] (by decide +kernel) (by decide +kernel)
set_option maxRecDepth 20000 in
theorem gX6_heap_X6_numberBelow : GoodIn wsX6_heap (wsV RX6 101 RX6 yX6_numberBelow wsX6_numberBelow) := goodIn_app (goodIn_of _ (by decide +kernel)) ggX6_heap_X6_numberBelow
set_option maxRecDepth 20000 in
theorem ggX6_heap_X6_changed : GoodIn wsX6_heap wsX6_changed := goodIn_r _ [23, 24, 25, 26, 27, 28, 29, 30, 31, 32, 33, 34, 35, 36, 37, 38, 39, 40, 41, 42, 43, 44, 45, 46, 47] (by decide +kernel) (by decide +kernel)
set_option maxRecDepth 20000 in
theorem gX6_heap_X6_changed : GoodIn wsX6_heap (wsV RX6 86 RX6 yX6_changed wsX6_changed) := goodIn_app (goodIn_of _ (by decide +kernel)) ggX6_heap_X6_changed
theorem dX6_heap_0 : decode cX6_heap 0 = .ok (.aload_n 0, 1) := by decide +kernel
theorem dX6_heap_1 : decode cX6_heap 1 = .ok (.lload_n 1, 1) := by decide +kernel
theorem dX6_heap_2 : decode cX6_heap 2 = .ok (.putfield 89, 3) := by decide +kernel
theorem dX6_heap_5 : decode cX6_heap 5 = .ok (.aload_n 0, 1) := by decide +kernel
theorem dX6_heap_6 : decode cX6_heap 6 = .ok (.aload_n 0, 1) := by decide +kernel
theorem dX6_heap_7 : decode cX6_heap 7 = .ok (.invokevirtual 74, 3) := by decide +kernel
theorem dX6_heap_10 : decode cX6_heap 10 = .ok (.putfield 83, 3) := by decide +kernel
theorem dX6_heap_13 : decode cX6_heap 13 = .ok (.iconst 0, 1) := by decide +kernel
theorem dX6_heap_14 : decode cX6_heap 14 = .ok (.istore_n 3, 1) := by decide +kernel
theorem dX6_heap_15 : decode cX6_heap 15 = .ok (.iload_n 3, 1) := by decide +kernel
theorem dX6_heap_16 : decode cX6_heap 16 = .ok (.aload_n 0, 1) := by decide +kernel
theorem dX6_heap_17 : decode cX6_heap 17 = .ok (.getfield 83, 3) := by decide +kernel
theorem dX6_heap_20 : decode cX6_heap 20 = .ok (.if_icmp .ge 16, 3) := by decide +kernel
theorem dX6_heap_23 : decode cX6_heap 23 = .ok (.aload_n 0, 1) := by decide +kernel
theorem dX6_heap_24 : decode cX6_heap 24 = .ok (.getfield 13, 3) := by decide +kernel
theorem dX6_heap_27 : decode cX6_heap 27 = .ok (.iload_n 3, 1) := by decide +kernel
theorem dX6_heap_28 : decode cX6_heap 28 = .ok (.iload_n 3, 1) := by decide +kernel
theorem dX6_heap_29 : decode cX6_heap 29 = .ok (.iastore, 1) := by decide +kernel
theorem dX6_heap_30 : decode cX6_heap 30 = .ok (.iinc 3 1, 3) := by decide +kernel
theorem dX6_heap_33 : decode cX6_heap 33 = .ok (.goto (-18), 3) := by decide +kernel
theorem dX6_heap_36 : decode cX6_heap 36 = .ok (.aload_n 0, 1) := by decide +kernel
theorem dX6_heap_37 : decode cX6_heap 37 = .ok (.getfield 83, 3) := by decide +kernel
theorem dX6_heap_40 : decode cX6_heap 40 = .ok (.iconst 1, 1) := by decide +kernel
theorem dX6_heap_41 : decode cX6_heap 41 = .ok (.isub, 1) := by decide +kernel
theorem dX6_heap_42 : decode cX6_heap 42 = .ok (.istore_n 3, 1) := by decide +kernel
theorem dX6_heap_43 : decode cX6_heap 43 = .ok (.iload_n 3, 1) := by decide +kernel
theorem dX6_heap_44 : decode cX6_heap 44 = .ok (.ifCond .le 48, 3) := by decide +kernel
theorem dX6_heap_47 : decode cX6_heap 47 = .ok (.aload_n 0, 1) := by decide +kernel
theorem dX6_heap_48 : decode cX6_heap 48 = .ok (.iload_n 3, 1) := by decide +kernel
theorem dX6_heap_49 : decode cX6_heap 49 = .ok (.iconst 1, 1) := by decide +kernel
theorem dX6_heap_50 : decode cX6_heap 50 = .ok (.iadd, 1) := by decide +kernel
theorem dX6_heap_51 : decode cX6_heap 51 = .ok (.invokevirtual 101, 3) := by decide +kernel
theorem dX6_heap_54 : decode cX6_heap 54 = .ok (.istore 4, 2) := by decide +kernel
theorem dX6_heap_56 : decode cX6_heap 56 = .ok (.aload_n 0, 1) := by decide +kernel
theorem dX6_heap_57 : decode cX6_heap 57 = .ok (.getfield 13, 3) := by decide +kernel
theorem dX6_heap_60 : decode cX6_heap 60 = .ok (.iload_n 3, 1) := by decide +kernel
theorem dX6_heap_61 : decode cX6_heap 61 = .ok (.iaload, 1) := by decide +kernel
theorem dX6_heap_62 : decode cX6_heap 62 = .ok (.istore 5, 2) := by decide +kernel
theorem dX6_heap_64 : decode cX6_heap 64 = .ok (.aload_n 0, 1) := by decide +kernel
theorem dX6_heap_65 : decode cX6_heap 65 = .ok (.getfield 13, 3) := by decide +kernel
theorem dX6_heap_68 : decode cX6_heap 68 = .ok (.iload_n 3, 1) := by decide +kernel
theorem dX6_heap_69 : decode cX6_heap 69 = .ok (.aload_n 0, 1) := by decide +kernel
theorem dX6_heap_70 : decode cX6_heap 70 = .ok (.getfield 13, 3) := by decide +kernel
theorem dX6_heap_73 : decode cX6_heap 73 = .ok (.iload 4, 2) := by decide +kernel
theorem dX6_heap_75 : decode cX6_heap 75 = .ok (.iaload, 1) := by decide +kernel
theorem dX6_heap_76 : decode cX6_heap 76 = .ok (.iastore, 1) := by decide +kernel
theorem dX6_heap_77 : decode cX6_heap 77 = .ok (.aload_n 0, 1) := by decide +kernel
theorem dX6_heap_78 : decode cX6_heap 78 = .ok (.getfield 13, 3) := by decide +kernel
theorem dX6_heap_81 : decode cX6_heap 81 = .ok (.iload 4, 2) := by decide +kernel
theorem dX6_heap_83 : decode cX6_heap 83 = .ok (.iload 5, 2) := by decide +kernel
theorem dX6_heap_85 : decode cX6_heap 85 = .ok (.iastore, 1) := by decide +kernel
theorem dX6_heap_86 : decode cX6_heap 86 = .ok (.iinc 3 (-1), 3) := by decide +kernel
theorem dX6_heap_89 : decode cX6_heap 89 = .ok (.goto (-46), 3) := by decide +kernel
theorem dX6_heap_92 : decode cX6_heap 92 = .ok (.iconst 0, 1) := by decide +kernel
theorem dX6_heap_93 : decode cX6_heap 93 = .ok (.istore_n 3, 1) := by decide +kernel
theorem dX6_heap_94 : decode cX6_heap 94 = .ok (.iload_n 3, 1) := by decide +kernel
theorem dX6_heap_95 : decode cX6_heap 95 = .ok (.aload_n 0, 1) := by decide +kernel
theorem dX6_heap_96 : decode cX6_heap 96 = .ok (.getfield 83, 3) := by decide +kernel
theorem dX6_heap_99 : decode cX6_heap 99 = .ok (.if_icmp .ge 20, 3) := by decide +kernel
theorem dX6_heap_102 : decode cX6_heap 102 = .ok (.aload_n 0, 1) := by decide +kernel
theorem dX6_heap_103 : decode cX6_heap 103 = .ok (.getfield 16, 3) := by decide +kernel
theorem dX6_heap_106 : decode cX6_heap 106 = .ok (.iload_n 3, 1) := by decide +kernel
theorem dX6_heap_107 : decode cX6_heap 107 = .ok (.aload_n 0, 1) := by decide +kernel
theorem dX6_heap_108 : decode cX6_heap 108 = .ok (.iconst 4, 1) := by decide +kernel
theorem dX6_heap_109 : decode cX6_heap 109 = .ok (.invokevirtual 101, 3) := by decide +kernel
theorem dX6_heap_112 : decode cX6_heap 112 = .ok (.iastore, 1) := by decide +kernel
theorem dX6_heap_113 : decode cX6_heap 113 = .ok (.iinc 3 1, 3) := by decide +kernel
theorem dX6_heap_116 : decode cX6_heap 116 = .ok (.goto (-22), 3) := by decide +kernel
theorem dX6_heap_119 : decode cX6_heap 119 = .ok (.aload_n 0, 1) := by decide +kernel
theorem dX6_heap_120 : decode cX6_heap 120 = .ok (.invokevirtual 86, 3) := by decide +kernel
theorem dX6_heap_123 : decode cX6_heap 123 = .ok (.aload_n 0, 1) := by decide +kernel
theorem dX6_heap_124 : decode cX6_heap 124 = .ok (.getfield 83, 3) := by decide +kernel
theorem dX6_heap_127 : decode cX6_heap 127 = .ok (.ireturn, 1) := by decide +kernel
set_option maxRecDepth 20000 in
theorem ggX6_noPlace_X6_in : GoodIn wsX6_noPlace wsX6_in := goodIn_r _ [5] (by decide +kernel) (by decide +kernel)
set_option maxRecDepth 20000 in
theorem gX6_noPlace_X6_in : GoodIn wsX6_noPlace (va_wsS RX6 70 yX6_in wsX6_in) := goodIn_app (goodIn_of _ (by decide +kernel)) ggX6_noPlace_X6_in
theorem dX6_noPlace_0 : decode cX6_noPlace 0 = .ok (.iload_n 1, 1) := by decide +kernel
theorem dX6_noPlace_1 : decode cX6_noPlace 1 = .ok (.i2l, 1) := by decide +kernel
theorem dX6_noPlace_2 : decode cX6_noPlace 2 = .ok (.lconst 0, 1) := by decide +kernel
theorem dX6_noPlace_3 : decode cX6_noPlace 3 = .ok (.aload_n 0, 1) := by decide +kernel
theorem dX6_noPlace_4 : decode cX6_noPlace 4 = .ok (.getfield 83, 3) := by decide +kernel
theorem dX6_noPlace_7 : decode cX6_noPlace 7 = .ok (.i2l, 1) := by decide +kernel
theorem dX6_noPlace_8 : decode cX6_noPlace 8 = .ok (.lconst 1, 1) := by decide +kernel
theorem dX6_noPlace_9 : decode cX6_noPlace 9 = .ok (.lsub, 1) := by decide +kernel
theorem dX6_noPlace_10 : decode cX6_noPlace 10 = .ok (.invokestatic 70, 3) := by decide +kernel
theorem dX6_noPlace_13 : decode cX6_noPlace 13 = .ok (.ifCond .ne 7, 3) := by decide +kernel
theorem dX6_noPlace_16 : decode cX6_noPlace 16 = .ok (.iconst 1, 1) := by decide +kernel
theorem dX6_noPlace_17 : decode cX6_noPlace 17 = .ok (.goto 4, 3) := by decide +kernel
theorem dX6_noPlace_20 : decode cX6_noPlace 20 = .ok (.iconst 0, 1) := by decide +kernel
theorem dX6_noPlace_21 : decode cX6_noPlace 21 = .ok (.ireturn, 1) := by decide +kernel
set_option maxRecDepth 20000 in
theorem ggX6_take_X6_noPlace : GoodIn wsX6_take wsX6_noPlace := goodIn_r _ [8, 2, 9, 10, 7, 11, 17, 18, 19, 20, 21, 22, 23, 24, 25, 26, 27, 28, 29, 30, 31, 32, 33, 34, 35, 36, 37, 38, 39] (by decide +kernel) (by decide +kernel)
set_option maxRecDepth 20000 in
theorem gX6_take_X6_noPlace : GoodIn wsX6_take (wsV RX6 155 RX6 yX6_noPlace wsX6_noPlace) := goodIn_app (goodIn_of _ (by decide +kernel)) ggX6_take_X6_noPlace
set_option maxRecDepth 20000 in
theorem ggX6_take_X6_changed : GoodIn wsX6_take wsX6_changed := goodIn_r _ [15, 16, 17, 18, 19, 20, 21, 22, 23, 24, 25, 26, 27, 28, 29, 30, 31, 32, 33, 34, 35, 36, 37, 38, 39] (by decide +kernel) (by decide +kernel)
set_option maxRecDepth 20000 in
theorem gX6_take_X6_changed : GoodIn wsX6_take (wsV RX6 86 RX6 yX6_changed wsX6_changed) := goodIn_app (goodIn_of _ (by decide +kernel)) ggX6_take_X6_changed
theorem dX6_take_0 : decode cX6_take 0 = .ok (.aload_n 0, 1) := by decide +kernel
theorem dX6_take_1 : decode cX6_take 1 = .ok (.iload_n 1, 1) := by decide +kernel
theorem dX6_take_2 : decode cX6_take 2 = .ok (.invokevirtual 155, 3) := by decide +kernel
theorem dX6_take_5 : decode cX6_take 5 = .ok (.ifCond .eq 5, 3) := by decide +kernel
theorem dX6_take_8 : decode cX6_take 8 = .ok (.iconst (-1), 1) := by decide +kernel
theorem dX6_take_9 : decode cX6_take 9 = .ok (.ireturn, 1) := by decide +kernel
theorem dX6_take_10 : decode cX6_take 10 = .ok (.aload_n 0, 1) := by decide +kernel
theorem dX6_take_11 : decode cX6_take 11 = .ok (.getfield 13, 3) := by decide +kernel
theorem dX6_take_14 : decode cX6_take 14 = .ok (.iload_n 1, 1) := by decide +kernel
theorem dX6_take_15 : decode cX6_take 15 = .ok (.iaload, 1) := by decide +kernel
theorem dX6_take_16 : decode cX6_take 16 = .ok (.istore_n 2, 1) := by decide +kernel
theorem dX6_take_17 : decode cX6_take 17 = .ok (.aload_n 0, 1) := by decide +kernel
theorem dX6_take_18 : decode cX6_take 18 = .ok (.dup, 1) := by decide +kernel
theorem dX6_take_19 : decode cX6_take 19 = .ok (.getfield 83, 3) := by decide +kernel
theorem dX6_take_22 : decode cX6_take 22 = .ok (.iconst 1, 1) := by decide +kernel
theorem dX6_take_23 : decode cX6_take 23 = .ok (.isub, 1) := by decide +kernel
theorem dX6_take_24 : decode cX6_take 24 = .ok (.putfield 83, 3) := by decide +kernel
theorem dX6_take_27 : decode cX6_take 27 = .ok (.iload_n 1, 1) := by decide +kernel
theorem dX6_take_28 : decode cX6_take 28 = .ok (.istore_n 3, 1) := by decide +kernel
theorem dX6_take_29 : decode cX6_take 29 = .ok (.iload_n 3, 1) := by decide +kernel
theorem dX6_take_30 : decode cX6_take 30 = .ok (.aload_n 0, 1) := by decide +kernel
theorem dX6_take_31 : decode cX6_take 31 = .ok (.getfield 83, 3) := by decide +kernel
theorem dX6_take_34 : decode cX6_take 34 = .ok (.if_icmp .ge 37, 3) := by decide +kernel
theorem dX6_take_37 : decode cX6_take 37 = .ok (.aload_n 0, 1) := by decide +kernel
theorem dX6_take_38 : decode cX6_take 38 = .ok (.getfield 13, 3) := by decide +kernel
theorem dX6_take_41 : decode cX6_take 41 = .ok (.iload_n 3, 1) := by decide +kernel
theorem dX6_take_42 : decode cX6_take 42 = .ok (.aload_n 0, 1) := by decide +kernel
theorem dX6_take_43 : decode cX6_take 43 = .ok (.getfield 13, 3) := by decide +kernel
theorem dX6_take_46 : decode cX6_take 46 = .ok (.iload_n 3, 1) := by decide +kernel
theorem dX6_take_47 : decode cX6_take 47 = .ok (.iconst 1, 1) := by decide +kernel
theorem dX6_take_48 : decode cX6_take 48 = .ok (.iadd, 1) := by decide +kernel
theorem dX6_take_49 : decode cX6_take 49 = .ok (.iaload, 1) := by decide +kernel
theorem dX6_take_50 : decode cX6_take 50 = .ok (.iastore, 1) := by decide +kernel
theorem dX6_take_51 : decode cX6_take 51 = .ok (.aload_n 0, 1) := by decide +kernel
theorem dX6_take_52 : decode cX6_take 52 = .ok (.getfield 16, 3) := by decide +kernel
theorem dX6_take_55 : decode cX6_take 55 = .ok (.iload_n 3, 1) := by decide +kernel
theorem dX6_take_56 : decode cX6_take 56 = .ok (.aload_n 0, 1) := by decide +kernel
theorem dX6_take_57 : decode cX6_take 57 = .ok (.getfield 16, 3) := by decide +kernel
theorem dX6_take_60 : decode cX6_take 60 = .ok (.iload_n 3, 1) := by decide +kernel
theorem dX6_take_61 : decode cX6_take 61 = .ok (.iconst 1, 1) := by decide +kernel
theorem dX6_take_62 : decode cX6_take 62 = .ok (.iadd, 1) := by decide +kernel
theorem dX6_take_63 : decode cX6_take 63 = .ok (.iaload, 1) := by decide +kernel
theorem dX6_take_64 : decode cX6_take 64 = .ok (.iastore, 1) := by decide +kernel
theorem dX6_take_65 : decode cX6_take 65 = .ok (.iinc 3 1, 3) := by decide +kernel
theorem dX6_take_68 : decode cX6_take 68 = .ok (.goto (-39), 3) := by decide +kernel
theorem dX6_take_71 : decode cX6_take 71 = .ok (.aload_n 0, 1) := by decide +kernel
theorem dX6_take_72 : decode cX6_take 72 = .ok (.invokevirtual 86, 3) := by decide +kernel
theorem dX6_take_75 : decode cX6_take 75 = .ok (.iload_n 2, 1) := by decide +kernel
theorem dX6_take_76 : decode cX6_take 76 = .ok (.ireturn, 1) := by decide +kernel
set_option maxRecDepth 20000 in
theorem ggX6_heaped_X6_noPlace : GoodIn wsX6_heaped wsX6_noPlace := goodIn_r _ [7, 8, 9, 10, 6, 11, 12, 13, 14, 15, 16, 17, 18, 19, 20, 21, 22, 23, 24, 25, 26, 27, 28, 29, 30, 31, 32, 33, 34] (by decide +kernel) (by decide +kernel)
set_option maxRecDepth 20000 in
theorem gX6_heaped_X6_noPlace : GoodIn wsX6_heaped (wsV RX6 155 RX6 yX6_noPlace wsX6_noPlace) := goodIn_app (goodIn_of _ (by decide +kernel)) ggX6_heaped_X6_noPlace
theorem dX6_heaped_0 : decode cX6_heaped 0 = .ok (.aload_n 0, 1) := by decide +kernel
theorem dX6_heaped_1 : decode cX6_heaped 1 = .ok (.iload_n 1, 1) := by decide +kernel
theorem dX6_heaped_2 : decode cX6_heaped 2 = .ok (.invokevirtual 155, 3) := by decide +kernel
theorem dX6_heaped_5 : decode cX6_heaped 5 = .ok (.ifCond .eq 5, 3) := by decide +kernel
theorem dX6_heaped_8 : decode cX6_heaped 8 = .ok (.iconst (-1), 1) := by decide +kernel
theorem dX6_heaped_9 : decode cX6_heaped 9 = .ok (.ireturn, 1) := by decide +kernel
theorem dX6_heaped_10 : decode cX6_heaped 10 = .ok (.iload_n 2, 1) := by decide +kernel
theorem dX6_heaped_11 : decode cX6_heaped 11 = .ok (.ifCond .ne 12, 3) := by decide +kernel
theorem dX6_heaped_14 : decode cX6_heaped 14 = .ok (.aload_n 0, 1) := by decide +kernel
theorem dX6_heaped_15 : decode cX6_heaped 15 = .ok (.getfield 13, 3) := by decide +kernel
theorem dX6_heaped_18 : decode cX6_heaped 18 = .ok (.iload_n 1, 1) := by decide +kernel
theorem dX6_heaped_19 : decode cX6_heaped 19 = .ok (.iaload, 1) := by decide +kernel
theorem dX6_heaped_20 : decode cX6_heaped 20 = .ok (.goto 19, 3) := by decide +kernel
theorem dX6_heaped_23 : decode cX6_heaped 23 = .ok (.iload_n 2, 1) := by decide +kernel
theorem dX6_heaped_24 : decode cX6_heaped 24 = .ok (.iconst 1, 1) := by decide +kernel
theorem dX6_heaped_25 : decode cX6_heaped 25 = .ok (.if_icmp .ne 12, 3) := by decide +kernel
theorem dX6_heaped_28 : decode cX6_heaped 28 = .ok (.aload_n 0, 1) := by decide +kernel
theorem dX6_heaped_29 : decode cX6_heaped 29 = .ok (.getfield 16, 3) := by decide +kernel
theorem dX6_heaped_32 : decode cX6_heaped 32 = .ok (.iload_n 1, 1) := by decide +kernel
theorem dX6_heaped_33 : decode cX6_heaped 33 = .ok (.iaload, 1) := by decide +kernel
theorem dX6_heaped_34 : decode cX6_heaped 34 = .ok (.goto 5, 3) := by decide +kernel
theorem dX6_heaped_37 : decode cX6_heaped 37 = .ok (.bipush (-2), 2) := by decide +kernel
theorem dX6_heaped_39 : decode cX6_heaped 39 = .ok (.ireturn, 1) := by decide +kernel
theorem dX6_timesIn_0 : decode cX6_timesIn 0 = .ok (.iconst 0, 1) := by decide +kernel
theorem dX6_timesIn_1 : decode cX6_timesIn 1 = .ok (.istore_n 2, 1) := by decide +kernel
theorem dX6_timesIn_2 : decode cX6_timesIn 2 = .ok (.iconst 0, 1) := by decide +kernel
theorem dX6_timesIn_3 : decode cX6_timesIn 3 = .ok (.istore_n 3, 1) := by decide +kernel
theorem dX6_timesIn_4 : decode cX6_timesIn 4 = .ok (.iload_n 3, 1) := by decide +kernel
theorem dX6_timesIn_5 : decode cX6_timesIn 5 = .ok (.aload_n 0, 1) := by decide +kernel
theorem dX6_timesIn_6 : decode cX6_timesIn 6 = .ok (.getfield 83, 3) := by decide +kernel
theorem dX6_timesIn_9 : decode cX6_timesIn 9 = .ok (.if_icmp .ge 27, 3) := by decide +kernel
theorem dX6_timesIn_12 : decode cX6_timesIn 12 = .ok (.iload_n 2, 1) := by decide +kernel
theorem dX6_timesIn_13 : decode cX6_timesIn 13 = .ok (.aload_n 0, 1) := by decide +kernel
theorem dX6_timesIn_14 : decode cX6_timesIn 14 = .ok (.getfield 13, 3) := by decide +kernel
theorem dX6_timesIn_17 : decode cX6_timesIn 17 = .ok (.iload_n 3, 1) := by decide +kernel
theorem dX6_timesIn_18 : decode cX6_timesIn 18 = .ok (.iaload, 1) := by decide +kernel
theorem dX6_timesIn_19 : decode cX6_timesIn 19 = .ok (.iload_n 1, 1) := by decide +kernel
theorem dX6_timesIn_20 : decode cX6_timesIn 20 = .ok (.if_icmp .ne 7, 3) := by decide +kernel
theorem dX6_timesIn_23 : decode cX6_timesIn 23 = .ok (.iconst 1, 1) := by decide +kernel
theorem dX6_timesIn_24 : decode cX6_timesIn 24 = .ok (.goto 4, 3) := by decide +kernel
theorem dX6_timesIn_27 : decode cX6_timesIn 27 = .ok (.iconst 0, 1) := by decide +kernel
theorem dX6_timesIn_28 : decode cX6_timesIn 28 = .ok (.iadd, 1) := by decide +kernel
theorem dX6_timesIn_29 : decode cX6_timesIn 29 = .ok (.istore_n 2, 1) := by decide +kernel
theorem dX6_timesIn_30 : decode cX6_timesIn 30 = .ok (.iinc 3 1, 3) := by decide +kernel
theorem dX6_timesIn_33 : decode cX6_timesIn 33 = .ok (.goto (-29), 3) := by decide +kernel
theorem dX6_timesIn_36 : decode cX6_timesIn 36 = .ok (.iload_n 2, 1) := by decide +kernel
theorem dX6_timesIn_37 : decode cX6_timesIn 37 = .ok (.ireturn, 1) := by decide +kernel
set_option maxRecDepth 20000 in
theorem ggX6_isMissing_X6_timesIn : GoodIn wsX6_isMissing wsX6_timesIn := goodIn_r _ [5, 6, 7, 8, 9, 10, 11, 12, 13, 14, 15, 16, 17, 18, 19, 20, 21, 22, 23, 24, 25, 26, 27, 28, 29, 30] (by decide +kernel) (by decide +kernel)
set_option maxRecDepth 20000 in
theorem gX6_isMissing_X6_timesIn : GoodIn wsX6_isMissing (wsV RX6 158 RX6 yX6_timesIn wsX6_timesIn) := goodIn_app (goodIn_of _ (by decide +kernel)) ggX6_isMissing_X6_timesIn
theorem dX6_isMissing_0 : decode cX6_isMissing 0 = .ok (.iload_n 1, 1) := by decide +kernel
theorem dX6_isMissing_1 : decode cX6_isMissing 1 = .ok (.ifCond .ne 19, 3) := by decide +kernel
theorem dX6_isMissing_4 : decode cX6_isMissing 4 = .ok (.aload_n 0, 1) := by decide +kernel
theorem dX6_isMissing_5 : decode cX6_isMissing 5 = .ok (.iload_n 2, 1) := by decide +kernel
theorem dX6_isMissing_6 : decode cX6_isMissing 6 = .ok (.invokevirtual 158, 3) := by decide +kernel
theorem dX6_isMissing_9 : decode cX6_isMissing 9 = .ok (.ifCond .ne 7, 3) := by decide +kernel
theorem dX6_isMissing_12 : decode cX6_isMissing 12 = .ok (.iconst 1, 1) := by decide +kernel
theorem dX6_isMissing_13 : decode cX6_isMissing 13 = .ok (.goto 21, 3) := by decide +kernel
theorem dX6_isMissing_16 : decode cX6_isMissing 16 = .ok (.iconst 0, 1) := by decide +kernel
theorem dX6_isMissing_17 : decode cX6_isMissing 17 = .ok (.goto 17, 3) := by decide +kernel
theorem dX6_isMissing_20 : decode cX6_isMissing 20 = .ok (.aload_n 0, 1) := by decide +kernel
theorem dX6_isMissing_21 : decode cX6_isMissing 21 = .ok (.iload_n 2, 1) := by decide +kernel
theorem dX6_isMissing_22 : decode cX6_isMissing 22 = .ok (.invokevirtual 158, 3) := by decide +kernel
theorem dX6_isMissing_25 : decode cX6_isMissing 25 = .ok (.iconst 1, 1) := by decide +kernel
theorem dX6_isMissing_26 : decode cX6_isMissing 26 = .ok (.if_icmp .le 7, 3) := by decide +kernel
theorem dX6_isMissing_29 : decode cX6_isMissing 29 = .ok (.iconst 1, 1) := by decide +kernel
theorem dX6_isMissing_30 : decode cX6_isMissing 30 = .ok (.goto 4, 3) := by decide +kernel
theorem dX6_isMissing_33 : decode cX6_isMissing 33 = .ok (.iconst 0, 1) := by decide +kernel
theorem dX6_isMissing_34 : decode cX6_isMissing 34 = .ok (.ireturn, 1) := by decide +kernel
set_option maxRecDepth 20000 in
theorem ggX6_missing_X6_in : GoodIn wsX6_missing wsX6_in := goodIn_r _ [4] (by decide +kernel) (by decide +kernel)
set_option maxRecDepth 20000 in
theorem gX6_missing_X6_in : GoodIn wsX6_missing (va_wsS RX6 70 yX6_in wsX6_in) := goodIn_app (goodIn_of _ (by decide +kernel)) ggX6_missing_X6_in
set_option maxRecDepth 20000 in
theorem ggX6_missing_X6_pieces : GoodIn wsX6_missing wsX6_pieces := goodIn_r _ [8, 9, 10, 21, 22, 23, 24, 25, 26, 27, 28, 29, 30, 31, 32, 33, 34, 35, 36, 37, 38, 39, 40, 41, 42, 43] (by decide +kernel) (by decide +kernel)
set_option maxRecDepth 20000 in
theorem gX6_missing_X6_pieces : GoodIn wsX6_missing (wsV RX6 74 RX6 yX6_pieces wsX6_pieces) := goodIn_app (goodIn_of _ (by decide +kernel)) ggX6_missing_X6_pieces
set_option maxRecDepth 20000 in
theorem ggX6_missing_X6_isMissing : GoodIn wsX6_missing wsX6_isMissing := goodIn_r _ [14, 15, 16, 17, 3, 18, 19, 20, 21, 22, 23, 24, 25, 26, 27, 28, 29, 30, 31, 32, 33, 34, 35, 36, 37, 38, 39, 40, 41, 42, 43] (by decide +kernel) (by decide +kernel)
set_option maxRecDepth 20000 in
theorem gX6_missing_X6_isMissing : GoodIn wsX6_missing (wsV RX6 161 RX6 yX6_isMissing wsX6_isMissing) := goodIn_app (goodIn_of _ (by decide +kernel)) ggX6_missing_X6_isMissing
theorem dX6_missing_0 : decode cX6_missing 0 = .ok (.iload_n 1, 1) := by decide +kernel
theorem dX6_missing_1 : decode cX6_missing 1 = .ok (.i2l, 1) := by decide +kernel
theorem dX6_missing_2 : decode cX6_missing 2 = .ok (.lconst 0, 1) := by decide +kernel
theorem dX6_missing_3 : decode cX6_missing 3 = .ok (.lconst 1, 1) := by decide +kernel
theorem dX6_missing_4 : decode cX6_missing 4 = .ok (.invokestatic 70, 3) := by decide +kernel
theorem dX6_missing_7 : decode cX6_missing 7 = .ok (.ifCond .ne 6, 3) := by decide +kernel
theorem dX6_missing_10 : decode cX6_missing 10 = .ok (.bipush (-2), 2) := by decide +kernel
theorem dX6_missing_12 : decode cX6_missing 12 = .ok (.ireturn, 1) := by decide +kernel
theorem dX6_missing_13 : decode cX6_missing 13 = .ok (.iconst 0, 1) := by decide +kernel
theorem dX6_missing_14 : decode cX6_missing 14 = .ok (.istore_n 2, 1) := by decide +kernel
theorem dX6_missing_15 : decode cX6_missing 15 = .ok (.iconst 0, 1) := by decide +kernel
theorem dX6_missing_16 : decode cX6_missing 16 = .ok (.istore_n 3, 1) := by decide +kernel
theorem dX6_missing_17 : decode cX6_missing 17 = .ok (.iload_n 3, 1) := by decide +kernel
theorem dX6_missing_18 : decode cX6_missing 18 = .ok (.aload_n 0, 1) := by decide +kernel
theorem dX6_missing_19 : decode cX6_missing 19 = .ok (.invokevirtual 74, 3) := by decide +kernel
theorem dX6_missing_22 : decode cX6_missing 22 = .ok (.if_icmp .ge 26, 3) := by decide +kernel
theorem dX6_missing_25 : decode cX6_missing 25 = .ok (.iload_n 2, 1) := by decide +kernel
theorem dX6_missing_26 : decode cX6_missing 26 = .ok (.aload_n 0, 1) := by decide +kernel
theorem dX6_missing_27 : decode cX6_missing 27 = .ok (.iload_n 1, 1) := by decide +kernel
theorem dX6_missing_28 : decode cX6_missing 28 = .ok (.iload_n 3, 1) := by decide +kernel
theorem dX6_missing_29 : decode cX6_missing 29 = .ok (.invokevirtual 161, 3) := by decide +kernel
theorem dX6_missing_32 : decode cX6_missing 32 = .ok (.ifCond .eq 7, 3) := by decide +kernel
theorem dX6_missing_35 : decode cX6_missing 35 = .ok (.iconst 1, 1) := by decide +kernel
theorem dX6_missing_36 : decode cX6_missing 36 = .ok (.goto 4, 3) := by decide +kernel
theorem dX6_missing_39 : decode cX6_missing 39 = .ok (.iconst 0, 1) := by decide +kernel
theorem dX6_missing_40 : decode cX6_missing 40 = .ok (.iadd, 1) := by decide +kernel
theorem dX6_missing_41 : decode cX6_missing 41 = .ok (.istore_n 2, 1) := by decide +kernel
theorem dX6_missing_42 : decode cX6_missing 42 = .ok (.iinc 3 1, 3) := by decide +kernel
theorem dX6_missing_45 : decode cX6_missing 45 = .ok (.goto (-28), 3) := by decide +kernel
theorem dX6_missing_48 : decode cX6_missing 48 = .ok (.iload_n 2, 1) := by decide +kernel
theorem dX6_missing_49 : decode cX6_missing 49 = .ok (.ireturn, 1) := by decide +kernel
set_option maxRecDepth 20000 in
theorem ggX6_missed_X6_in : GoodIn wsX6_missed wsX6_in := goodIn_r _ [4] (by decide +kernel) (by decide +kernel)
set_option maxRecDepth 20000 in
theorem gX6_missed_X6_in : GoodIn wsX6_missed (va_wsS RX6 70 yX6_in wsX6_in) := goodIn_app (goodIn_of _ (by decide +kernel)) ggX6_missed_X6_in
set_option maxRecDepth 20000 in
theorem ggX6_missed_X6_missing : GoodIn wsX6_missed wsX6_missing := goodIn_r _ [8, 1, 2, 3, 4, 9, 10, 11, 12, 13, 14, 15, 16, 17, 18, 19, 20, 21, 22, 23, 24, 25, 26, 27, 28, 29, 30, 31, 32, 33, 34, 35, 36, 37, 38, 39, 40, 41, 42, 43, 44, 45, 46, 47] (by decide +kernel) (by decide +kernel)
set_option maxRecDepth 20000 in
theorem gX6_missed_X6_missing : GoodIn wsX6_missed (wsV RX6 164 RX6 yX6_missing wsX6_missing) := goodIn_app (goodIn_of _ (by decide +kernel)) ggX6_missed_X6_missing
set_option maxRecDepth 20000 in
theorem ggX6_missed_X6_isMissing : GoodIn wsX6_missed wsX6_isMissing := goodIn_r _ [18, 19, 20, 21, 3, 22, 23, 24, 25, 26, 27, 28, 29, 30, 31, 32, 33, 34, 35, 36, 37, 38, 39, 40, 41, 42, 43, 44, 45, 46, 47] (by decide +kernel) (by decide +kernel)
set_option maxRecDepth 20000 in
theorem gX6_missed_X6_isMissing : GoodIn wsX6_missed (wsV RX6 161 RX6 yX6_isMissing wsX6_isMissing) := goodIn_app (goodIn_of _ (by decide +kernel)) ggX6_missed_X6_isMissing
theorem dX6_missed_0 : decode cX6_missed 0 = .ok (.iload_n 2, 1) := by decide +kernel
theorem dX6_missed_1 : decode cX6_missed 1 = .ok (.ifCond .lt 22, 3) := by decide +kernel
theorem dX6_missed_4 : decode cX6_missed 4 = .ok (.iload_n 1, 1) := by decide +kernel
theorem dX6_missed_5 : decode cX6_missed 5 = .ok (.i2l, 1) := by decide +kernel
theorem dX6_missed_6 : decode cX6_missed 6 = .ok (.lconst 0, 1) := by decide +kernel
theorem dX6_missed_7 : decode cX6_missed 7 = .ok (.lconst 1, 1) := by decide +kernel
theorem dX6_missed_8 : decode cX6_missed 8 = .ok (.invokestatic 70, 3) := by decide +kernel
theorem dX6_missed_11 : decode cX6_missed 11 = .ok (.ifCond .eq 14, 3) := by decide +kernel
theorem dX6_missed_14 : decode cX6_missed 14 = .ok (.iload_n 2, 1) := by decide +kernel
theorem dX6_missed_15 : decode cX6_missed 15 = .ok (.aload_n 0, 1) := by decide +kernel
theorem dX6_missed_16 : decode cX6_missed 16 = .ok (.iload_n 1, 1) := by decide +kernel
theorem dX6_missed_17 : decode cX6_missed 17 = .ok (.invokevirtual 164, 3) := by decide +kernel
theorem dX6_missed_20 : decode cX6_missed 20 = .ok (.if_icmp .lt 5, 3) := by decide +kernel
theorem dX6_missed_23 : decode cX6_missed 23 = .ok (.iconst (-1), 1) := by decide +kernel
theorem dX6_missed_24 : decode cX6_missed 24 = .ok (.ireturn, 1) := by decide +kernel
theorem dX6_missed_25 : decode cX6_missed 25 = .ok (.iload_n 1, 1) := by decide +kernel
theorem dX6_missed_26 : decode cX6_missed 26 = .ok (.i2l, 1) := by decide +kernel
theorem dX6_missed_27 : decode cX6_missed 27 = .ok (.lconst 0, 1) := by decide +kernel
theorem dX6_missed_28 : decode cX6_missed 28 = .ok (.lconst 1, 1) := by decide +kernel
theorem dX6_missed_29 : decode cX6_missed 29 = .ok (.invokestatic 70, 3) := by decide +kernel
theorem dX6_missed_32 : decode cX6_missed 32 = .ok (.ifCond .ne 6, 3) := by decide +kernel
theorem dX6_missed_35 : decode cX6_missed 35 = .ok (.bipush (-2), 2) := by decide +kernel
theorem dX6_missed_37 : decode cX6_missed 37 = .ok (.ireturn, 1) := by decide +kernel
theorem dX6_missed_38 : decode cX6_missed 38 = .ok (.iconst (-1), 1) := by decide +kernel
theorem dX6_missed_39 : decode cX6_missed 39 = .ok (.istore_n 3, 1) := by decide +kernel
theorem dX6_missed_40 : decode cX6_missed 40 = .ok (.iconst (-1), 1) := by decide +kernel
theorem dX6_missed_41 : decode cX6_missed 41 = .ok (.istore 4, 2) := by decide +kernel
theorem dX6_missed_43 : decode cX6_missed 43 = .ok (.iload_n 3, 1) := by decide +kernel
theorem dX6_missed_44 : decode cX6_missed 44 = .ok (.iload_n 2, 1) := by decide +kernel
theorem dX6_missed_45 : decode cX6_missed 45 = .ok (.if_icmp .ge 27, 3) := by decide +kernel
theorem dX6_missed_48 : decode cX6_missed 48 = .ok (.iinc 4 1, 3) := by decide +kernel
theorem dX6_missed_51 : decode cX6_missed 51 = .ok (.iload_n 3, 1) := by decide +kernel
theorem dX6_missed_52 : decode cX6_missed 52 = .ok (.aload_n 0, 1) := by decide +kernel
theorem dX6_missed_53 : decode cX6_missed 53 = .ok (.iload_n 1, 1) := by decide +kernel
theorem dX6_missed_54 : decode cX6_missed 54 = .ok (.iload 4, 2) := by decide +kernel
theorem dX6_missed_56 : decode cX6_missed 56 = .ok (.invokevirtual 161, 3) := by decide +kernel
theorem dX6_missed_59 : decode cX6_missed 59 = .ok (.ifCond .eq 7, 3) := by decide +kernel
theorem dX6_missed_62 : decode cX6_missed 62 = .ok (.iconst 1, 1) := by decide +kernel
theorem dX6_missed_63 : decode cX6_missed 63 = .ok (.goto 4, 3) := by decide +kernel
theorem dX6_missed_66 : decode cX6_missed 66 = .ok (.iconst 0, 1) := by decide +kernel
theorem dX6_missed_67 : decode cX6_missed 67 = .ok (.iadd, 1) := by decide +kernel
theorem dX6_missed_68 : decode cX6_missed 68 = .ok (.istore_n 3, 1) := by decide +kernel
theorem dX6_missed_69 : decode cX6_missed 69 = .ok (.goto (-26), 3) := by decide +kernel
theorem dX6_missed_72 : decode cX6_missed 72 = .ok (.iload 4, 2) := by decide +kernel
theorem dX6_missed_74 : decode cX6_missed 74 = .ok (.ireturn, 1) := by decide +kernel
theorem dX6_edgeOn_0 : decode cX6_edgeOn 0 = .ok (.iload_n 2, 1) := by decide +kernel
theorem dX6_edgeOn_1 : decode cX6_edgeOn 1 = .ok (.bipush 8, 2) := by decide +kernel
theorem dX6_edgeOn_3 : decode cX6_edgeOn 3 = .ok (.iadd, 1) := by decide +kernel
theorem dX6_edgeOn_4 : decode cX6_edgeOn 4 = .ok (.aload_n 0, 1) := by decide +kernel
theorem dX6_edgeOn_5 : decode cX6_edgeOn 5 = .ok (.getfield 16, 3) := by decide +kernel
theorem dX6_edgeOn_8 : decode cX6_edgeOn 8 = .ok (.aload_n 0, 1) := by decide +kernel
theorem dX6_edgeOn_9 : decode cX6_edgeOn 9 = .ok (.getfield 19, 3) := by decide +kernel
theorem dX6_edgeOn_12 : decode cX6_edgeOn 12 = .ok (.iload_n 1, 1) := by decide +kernel
theorem dX6_edgeOn_13 : decode cX6_edgeOn 13 = .ok (.iaload, 1) := by decide +kernel
theorem dX6_edgeOn_14 : decode cX6_edgeOn 14 = .ok (.iaload, 1) := by decide +kernel
theorem dX6_edgeOn_15 : decode cX6_edgeOn 15 = .ok (.isub, 1) := by decide +kernel
theorem dX6_edgeOn_16 : decode cX6_edgeOn 16 = .ok (.aload_n 0, 1) := by decide +kernel
theorem dX6_edgeOn_17 : decode cX6_edgeOn 17 = .ok (.getfield 22, 3) := by decide +kernel
theorem dX6_edgeOn_20 : decode cX6_edgeOn 20 = .ok (.iload_n 1, 1) := by decide +kernel
theorem dX6_edgeOn_21 : decode cX6_edgeOn 21 = .ok (.iaload, 1) := by decide +kernel
theorem dX6_edgeOn_22 : decode cX6_edgeOn 22 = .ok (.isub, 1) := by decide +kernel
theorem dX6_edgeOn_23 : decode cX6_edgeOn 23 = .ok (.iconst 4, 1) := by decide +kernel
theorem dX6_edgeOn_24 : decode cX6_edgeOn 24 = .ok (.irem, 1) := by decide +kernel
theorem dX6_edgeOn_25 : decode cX6_edgeOn 25 = .ok (.ireturn, 1) := by decide +kernel
set_option maxRecDepth 20000 in
theorem ggX6_isFlat_X6_edgeOn : GoodIn wsX6_isFlat wsX6_edgeOn := goodIn_r _ [7, 8, 2, 9, 20, 21, 22, 23, 24, 25, 26, 27, 28, 29, 30, 31, 32, 33, 34, 35, 36, 37, 38, 39, 40, 41, 42] (by decide +kernel) (by decide +kernel)
set_option maxRecDepth 20000 in
theorem gX6_isFlat_X6_edgeOn : GoodIn wsX6_isFlat (wsV RX6 167 RX6 yX6_edgeOn wsX6_edgeOn) := goodIn_app (goodIn_of _ (by decide +kernel)) ggX6_isFlat_X6_edgeOn
set_option maxRecDepth 20000 in
theorem ggX6_isFlat_X6_sideAt : GoodIn wsX6_isFlat wsX6_sideAt := goodIn_r _ [13, 14, 15, 16, 17, 18, 6, 19, 20, 21, 22, 23, 24, 25, 26, 27, 28, 29, 30, 31, 32, 33, 34, 35, 36, 37, 38, 39, 40, 41, 42] (by decide +kernel) (by decide +kernel)
set_option maxRecDepth 20000 in
theorem gX6_isFlat_X6_sideAt : GoodIn wsX6_isFlat (wsV RX6 120 RX6 yX6_sideAt wsX6_sideAt) := goodIn_app (goodIn_of _ (by decide +kernel)) ggX6_isFlat_X6_sideAt
theorem dX6_isFlat_0 : decode cX6_isFlat 0 = .ok (.aload_n 0, 1) := by decide +kernel
theorem dX6_isFlat_1 : decode cX6_isFlat 1 = .ok (.aload_n 0, 1) := by decide +kernel
theorem dX6_isFlat_2 : decode cX6_isFlat 2 = .ok (.getfield 13, 3) := by decide +kernel
theorem dX6_isFlat_5 : decode cX6_isFlat 5 = .ok (.aload_n 0, 1) := by decide +kernel
theorem dX6_isFlat_6 : decode cX6_isFlat 6 = .ok (.getfield 19, 3) := by decide +kernel
theorem dX6_isFlat_9 : decode cX6_isFlat 9 = .ok (.iload_n 1, 1) := by decide +kernel
theorem dX6_isFlat_10 : decode cX6_isFlat 10 = .ok (.iaload, 1) := by decide +kernel
theorem dX6_isFlat_11 : decode cX6_isFlat 11 = .ok (.iaload, 1) := by decide +kernel
theorem dX6_isFlat_12 : decode cX6_isFlat 12 = .ok (.aload_n 0, 1) := by decide +kernel
theorem dX6_isFlat_13 : decode cX6_isFlat 13 = .ok (.iload_n 1, 1) := by decide +kernel
theorem dX6_isFlat_14 : decode cX6_isFlat 14 = .ok (.iload_n 2, 1) := by decide +kernel
theorem dX6_isFlat_15 : decode cX6_isFlat 15 = .ok (.invokevirtual 167, 3) := by decide +kernel
theorem dX6_isFlat_18 : decode cX6_isFlat 18 = .ok (.invokevirtual 120, 3) := by decide +kernel
theorem dX6_isFlat_21 : decode cX6_isFlat 21 = .ok (.ifCond .ge 7, 3) := by decide +kernel
theorem dX6_isFlat_24 : decode cX6_isFlat 24 = .ok (.iconst 1, 1) := by decide +kernel
theorem dX6_isFlat_25 : decode cX6_isFlat 25 = .ok (.goto 4, 3) := by decide +kernel
theorem dX6_isFlat_28 : decode cX6_isFlat 28 = .ok (.iconst 0, 1) := by decide +kernel
theorem dX6_isFlat_29 : decode cX6_isFlat 29 = .ok (.ireturn, 1) := by decide +kernel
set_option maxRecDepth 20000 in
theorem ggX6_meets_X6_isFlat : GoodIn wsX6_meets wsX6_isFlat := goodIn_r _ [7, 1, 2, 8, 9, 10, 6, 11, 12, 13, 14, 15, 16, 17, 18, 19, 20, 21, 22, 23, 36, 37, 38, 39, 40, 41, 42, 43, 44, 45, 46, 47, 48, 49, 50, 51, 52, 53, 54, 55, 56, 57, 58] (by decide +kernel) (by decide +kernel)
set_option maxRecDepth 20000 in
theorem gX6_meets_X6_isFlat : GoodIn wsX6_meets (wsV RX6 170 RX6 yX6_isFlat wsX6_isFlat) := goodIn_app (goodIn_of _ (by decide +kernel)) ggX6_meets_X6_isFlat
set_option maxRecDepth 20000 in
theorem ggX6_meets_X6_edgeOn : GoodIn wsX6_meets wsX6_edgeOn := goodIn_r _ [11, 12, 2, 13, 36, 37, 38, 39, 40, 41, 42, 43, 44, 45, 46, 47, 48, 49, 50, 51, 52, 53, 54, 55, 56, 57, 58] (by decide +kernel) (by decide +kernel)
set_option maxRecDepth 20000 in
theorem gX6_meets_X6_edgeOn : GoodIn wsX6_meets (wsV RX6 167 RX6 yX6_edgeOn wsX6_edgeOn) := goodIn_app (goodIn_of _ (by decide +kernel)) ggX6_meets_X6_edgeOn
set_option maxRecDepth 20000 in
theorem ggX6_meets_X6_farOf : GoodIn wsX6_meets wsX6_farOf := goodIn_r _ [27, 28, 29, 30, 6, 31, 32, 14, 15, 16, 17, 18, 19, 20, 21, 22, 23, 33, 34, 35, 36, 37, 38, 39, 40, 41, 42, 43, 44, 45, 46, 47, 48, 49, 50, 51, 52, 53, 54, 55, 56, 57, 58] (by decide +kernel) (by decide +kernel)
set_option maxRecDepth 20000 in
theorem gX6_meets_X6_farOf : GoodIn wsX6_meets (wsV RX6 131 RX6 yX6_farOf wsX6_farOf) := goodIn_app (goodIn_of _ (by decide +kernel)) ggX6_meets_X6_farOf
theorem dX6_meets_0 : decode cX6_meets 0 = .ok (.aload_n 0, 1) := by decide +kernel
theorem dX6_meets_1 : decode cX6_meets 1 = .ok (.iload_n 1, 1) := by decide +kernel
theorem dX6_meets_2 : decode cX6_meets 2 = .ok (.iload_n 2, 1) := by decide +kernel
theorem dX6_meets_3 : decode cX6_meets 3 = .ok (.invokevirtual 170, 3) := by decide +kernel
theorem dX6_meets_6 : decode cX6_meets 6 = .ok (.ifCond .ne 59, 3) := by decide +kernel
theorem dX6_meets_9 : decode cX6_meets 9 = .ok (.aload_n 0, 1) := by decide +kernel
theorem dX6_meets_10 : decode cX6_meets 10 = .ok (.iload_n 3, 1) := by decide +kernel
theorem dX6_meets_11 : decode cX6_meets 11 = .ok (.iload 4, 2) := by decide +kernel
theorem dX6_meets_13 : decode cX6_meets 13 = .ok (.invokevirtual 170, 3) := by decide +kernel
theorem dX6_meets_16 : decode cX6_meets 16 = .ok (.ifCond .ne 49, 3) := by decide +kernel
theorem dX6_meets_19 : decode cX6_meets 19 = .ok (.aload_n 0, 1) := by decide +kernel
theorem dX6_meets_20 : decode cX6_meets 20 = .ok (.aload_n 0, 1) := by decide +kernel
theorem dX6_meets_21 : decode cX6_meets 21 = .ok (.getfield 13, 3) := by decide +kernel
theorem dX6_meets_24 : decode cX6_meets 24 = .ok (.aload_n 0, 1) := by decide +kernel
theorem dX6_meets_25 : decode cX6_meets 25 = .ok (.getfield 19, 3) := by decide +kernel
theorem dX6_meets_28 : decode cX6_meets 28 = .ok (.iload_n 1, 1) := by decide +kernel
theorem dX6_meets_29 : decode cX6_meets 29 = .ok (.iaload, 1) := by decide +kernel
theorem dX6_meets_30 : decode cX6_meets 30 = .ok (.iaload, 1) := by decide +kernel
theorem dX6_meets_31 : decode cX6_meets 31 = .ok (.aload_n 0, 1) := by decide +kernel
theorem dX6_meets_32 : decode cX6_meets 32 = .ok (.iload_n 1, 1) := by decide +kernel
theorem dX6_meets_33 : decode cX6_meets 33 = .ok (.iload_n 2, 1) := by decide +kernel
theorem dX6_meets_34 : decode cX6_meets 34 = .ok (.invokevirtual 167, 3) := by decide +kernel
theorem dX6_meets_37 : decode cX6_meets 37 = .ok (.aload_n 0, 1) := by decide +kernel
theorem dX6_meets_38 : decode cX6_meets 38 = .ok (.getfield 13, 3) := by decide +kernel
theorem dX6_meets_41 : decode cX6_meets 41 = .ok (.aload_n 0, 1) := by decide +kernel
theorem dX6_meets_42 : decode cX6_meets 42 = .ok (.getfield 19, 3) := by decide +kernel
theorem dX6_meets_45 : decode cX6_meets 45 = .ok (.iload_n 3, 1) := by decide +kernel
theorem dX6_meets_46 : decode cX6_meets 46 = .ok (.iaload, 1) := by decide +kernel
theorem dX6_meets_47 : decode cX6_meets 47 = .ok (.iaload, 1) := by decide +kernel
theorem dX6_meets_48 : decode cX6_meets 48 = .ok (.aload_n 0, 1) := by decide +kernel
theorem dX6_meets_49 : decode cX6_meets 49 = .ok (.iload_n 3, 1) := by decide +kernel
theorem dX6_meets_50 : decode cX6_meets 50 = .ok (.iload 4, 2) := by decide +kernel
theorem dX6_meets_52 : decode cX6_meets 52 = .ok (.invokevirtual 167, 3) := by decide +kernel
theorem dX6_meets_55 : decode cX6_meets 55 = .ok (.invokevirtual 131, 3) := by decide +kernel
theorem dX6_meets_58 : decode cX6_meets 58 = .ok (.ifCond .ne 7, 3) := by decide +kernel
theorem dX6_meets_61 : decode cX6_meets 61 = .ok (.iconst 1, 1) := by decide +kernel
theorem dX6_meets_62 : decode cX6_meets 62 = .ok (.goto 4, 3) := by decide +kernel
theorem dX6_meets_65 : decode cX6_meets 65 = .ok (.iconst 0, 1) := by decide +kernel
theorem dX6_meets_66 : decode cX6_meets 66 = .ok (.ireturn, 1) := by decide +kernel
set_option maxRecDepth 20000 in
theorem ggX6_fits_X6_isFlat : GoodIn wsX6_fits wsX6_isFlat := goodIn_r _ [7, 8, 9, 10, 11, 12, 6, 13, 14, 15, 16, 17, 18, 19, 1, 2, 20, 21, 22, 23, 40, 41, 42, 43, 44, 45, 46, 47, 48, 49, 50, 51, 52, 53, 54, 55, 56, 57, 58, 59, 60, 61, 62] (by decide +kernel) (by decide +kernel)
set_option maxRecDepth 20000 in
theorem gX6_fits_X6_isFlat : GoodIn wsX6_fits (wsV RX6 170 RX6 yX6_isFlat wsX6_isFlat) := goodIn_app (goodIn_of _ (by decide +kernel)) ggX6_fits_X6_isFlat
set_option maxRecDepth 20000 in
theorem ggX6_fits_X6_meets : GoodIn wsX6_fits wsX6_meets := goodIn_r _ [27, 8, 9, 3, 4, 5, 6, 7, 10, 11, 12, 13, 14, 15, 16, 17, 18, 19, 1, 2, 20, 21, 22, 23, 28, 29, 30, 31, 32, 33, 34, 35, 36, 37, 38, 39, 40, 41, 42, 43, 44, 45, 46, 47, 48, 49, 50, 51, 52, 53, 54, 55, 56, 57, 58, 59, 60, 61, 62] (by decide +kernel) (by decide +kernel)
set_option maxRecDepth 20000 in
theorem gX6_fits_X6_meets : GoodIn wsX6_fits (wsV RX6 173 RX6 yX6_meets wsX6_meets) := goodIn_app (goodIn_of _ (by decide +kernel)) ggX6_fits_X6_meets
theorem dX6_fits_0 : decode cX6_fits 0 = .ok (.iload_n 1, 1) := by decide +kernel
theorem dX6_fits_1 : decode cX6_fits 1 = .ok (.aload_n 0, 1) := by decide +kernel
theorem dX6_fits_2 : decode cX6_fits 2 = .ok (.getfield 47, 3) := by decide +kernel
theorem dX6_fits_5 : decode cX6_fits 5 = .ok (.irem, 1) := by decide +kernel
theorem dX6_fits_6 : decode cX6_fits 6 = .ok (.istore_n 2, 1) := by decide +kernel
theorem dX6_fits_7 : decode cX6_fits 7 = .ok (.iload_n 1, 1) := by decide +kernel
theorem dX6_fits_8 : decode cX6_fits 8 = .ok (.aload_n 0, 1) := by decide +kernel
theorem dX6_fits_9 : decode cX6_fits 9 = .ok (.getfield 47, 3) := by decide +kernel
theorem dX6_fits_12 : decode cX6_fits 12 = .ok (.idiv, 1) := by decide +kernel
theorem dX6_fits_13 : decode cX6_fits 13 = .ok (.istore_n 3, 1) := by decide +kernel
theorem dX6_fits_14 : decode cX6_fits 14 = .ok (.aload_n 0, 1) := by decide +kernel
theorem dX6_fits_15 : decode cX6_fits 15 = .ok (.iload_n 1, 1) := by decide +kernel
theorem dX6_fits_16 : decode cX6_fits 16 = .ok (.iconst 0, 1) := by decide +kernel
theorem dX6_fits_17 : decode cX6_fits 17 = .ok (.invokevirtual 170, 3) := by decide +kernel
theorem dX6_fits_20 : decode cX6_fits 20 = .ok (.iload_n 3, 1) := by decide +kernel
theorem dX6_fits_21 : decode cX6_fits 21 = .ok (.ifCond .ne 7, 3) := by decide +kernel
theorem dX6_fits_24 : decode cX6_fits 24 = .ok (.iconst 1, 1) := by decide +kernel
theorem dX6_fits_25 : decode cX6_fits 25 = .ok (.goto 4, 3) := by decide +kernel
theorem dX6_fits_28 : decode cX6_fits 28 = .ok (.iconst 0, 1) := by decide +kernel
theorem dX6_fits_29 : decode cX6_fits 29 = .ok (.if_icmp .ne 73, 3) := by decide +kernel
theorem dX6_fits_32 : decode cX6_fits 32 = .ok (.aload_n 0, 1) := by decide +kernel
theorem dX6_fits_33 : decode cX6_fits 33 = .ok (.iload_n 1, 1) := by decide +kernel
theorem dX6_fits_34 : decode cX6_fits 34 = .ok (.iconst 1, 1) := by decide +kernel
theorem dX6_fits_35 : decode cX6_fits 35 = .ok (.invokevirtual 170, 3) := by decide +kernel
theorem dX6_fits_38 : decode cX6_fits 38 = .ok (.iload_n 2, 1) := by decide +kernel
theorem dX6_fits_39 : decode cX6_fits 39 = .ok (.aload_n 0, 1) := by decide +kernel
theorem dX6_fits_40 : decode cX6_fits 40 = .ok (.getfield 47, 3) := by decide +kernel
theorem dX6_fits_43 : decode cX6_fits 43 = .ok (.iconst 1, 1) := by decide +kernel
theorem dX6_fits_44 : decode cX6_fits 44 = .ok (.isub, 1) := by decide +kernel
theorem dX6_fits_45 : decode cX6_fits 45 = .ok (.if_icmp .ne 7, 3) := by decide +kernel
theorem dX6_fits_48 : decode cX6_fits 48 = .ok (.iconst 1, 1) := by decide +kernel
theorem dX6_fits_49 : decode cX6_fits 49 = .ok (.goto 4, 3) := by decide +kernel
theorem dX6_fits_52 : decode cX6_fits 52 = .ok (.iconst 0, 1) := by decide +kernel
theorem dX6_fits_53 : decode cX6_fits 53 = .ok (.if_icmp .ne 49, 3) := by decide +kernel
theorem dX6_fits_56 : decode cX6_fits 56 = .ok (.aload_n 0, 1) := by decide +kernel
theorem dX6_fits_57 : decode cX6_fits 57 = .ok (.iload_n 1, 1) := by decide +kernel
theorem dX6_fits_58 : decode cX6_fits 58 = .ok (.iconst 2, 1) := by decide +kernel
theorem dX6_fits_59 : decode cX6_fits 59 = .ok (.invokevirtual 170, 3) := by decide +kernel
theorem dX6_fits_62 : decode cX6_fits 62 = .ok (.iload_n 3, 1) := by decide +kernel
theorem dX6_fits_63 : decode cX6_fits 63 = .ok (.aload_n 0, 1) := by decide +kernel
theorem dX6_fits_64 : decode cX6_fits 64 = .ok (.getfield 51, 3) := by decide +kernel
theorem dX6_fits_67 : decode cX6_fits 67 = .ok (.iconst 1, 1) := by decide +kernel
theorem dX6_fits_68 : decode cX6_fits 68 = .ok (.isub, 1) := by decide +kernel
theorem dX6_fits_69 : decode cX6_fits 69 = .ok (.if_icmp .ne 7, 3) := by decide +kernel
theorem dX6_fits_72 : decode cX6_fits 72 = .ok (.iconst 1, 1) := by decide +kernel
theorem dX6_fits_73 : decode cX6_fits 73 = .ok (.goto 4, 3) := by decide +kernel
theorem dX6_fits_76 : decode cX6_fits 76 = .ok (.iconst 0, 1) := by decide +kernel
theorem dX6_fits_77 : decode cX6_fits 77 = .ok (.if_icmp .ne 25, 3) := by decide +kernel
theorem dX6_fits_80 : decode cX6_fits 80 = .ok (.aload_n 0, 1) := by decide +kernel
theorem dX6_fits_81 : decode cX6_fits 81 = .ok (.iload_n 1, 1) := by decide +kernel
theorem dX6_fits_82 : decode cX6_fits 82 = .ok (.iconst 3, 1) := by decide +kernel
theorem dX6_fits_83 : decode cX6_fits 83 = .ok (.invokevirtual 170, 3) := by decide +kernel
theorem dX6_fits_86 : decode cX6_fits 86 = .ok (.iload_n 2, 1) := by decide +kernel
theorem dX6_fits_87 : decode cX6_fits 87 = .ok (.ifCond .ne 7, 3) := by decide +kernel
theorem dX6_fits_90 : decode cX6_fits 90 = .ok (.iconst 1, 1) := by decide +kernel
theorem dX6_fits_91 : decode cX6_fits 91 = .ok (.goto 4, 3) := by decide +kernel
theorem dX6_fits_94 : decode cX6_fits 94 = .ok (.iconst 0, 1) := by decide +kernel
theorem dX6_fits_95 : decode cX6_fits 95 = .ok (.if_icmp .ne 7, 3) := by decide +kernel
theorem dX6_fits_98 : decode cX6_fits 98 = .ok (.iconst 1, 1) := by decide +kernel
theorem dX6_fits_99 : decode cX6_fits 99 = .ok (.goto 4, 3) := by decide +kernel
theorem dX6_fits_102 : decode cX6_fits 102 = .ok (.iconst 0, 1) := by decide +kernel
theorem dX6_fits_103 : decode cX6_fits 103 = .ok (.istore 4, 2) := by decide +kernel
theorem dX6_fits_105 : decode cX6_fits 105 = .ok (.iload 4, 2) := by decide +kernel
theorem dX6_fits_107 : decode cX6_fits 107 = .ok (.ifCond .eq 27, 3) := by decide +kernel
theorem dX6_fits_110 : decode cX6_fits 110 = .ok (.iload_n 3, 1) := by decide +kernel
theorem dX6_fits_111 : decode cX6_fits 111 = .ok (.ifCond .eq 19, 3) := by decide +kernel
theorem dX6_fits_114 : decode cX6_fits 114 = .ok (.aload_n 0, 1) := by decide +kernel
theorem dX6_fits_115 : decode cX6_fits 115 = .ok (.iload_n 1, 1) := by decide +kernel
theorem dX6_fits_116 : decode cX6_fits 116 = .ok (.iconst 0, 1) := by decide +kernel
theorem dX6_fits_117 : decode cX6_fits 117 = .ok (.iload_n 1, 1) := by decide +kernel
theorem dX6_fits_118 : decode cX6_fits 118 = .ok (.aload_n 0, 1) := by decide +kernel
theorem dX6_fits_119 : decode cX6_fits 119 = .ok (.getfield 47, 3) := by decide +kernel
theorem dX6_fits_122 : decode cX6_fits 122 = .ok (.isub, 1) := by decide +kernel
theorem dX6_fits_123 : decode cX6_fits 123 = .ok (.iconst 2, 1) := by decide +kernel
theorem dX6_fits_124 : decode cX6_fits 124 = .ok (.invokevirtual 173, 3) := by decide +kernel
theorem dX6_fits_127 : decode cX6_fits 127 = .ok (.ifCond .eq 7, 3) := by decide +kernel
theorem dX6_fits_130 : decode cX6_fits 130 = .ok (.iconst 1, 1) := by decide +kernel
theorem dX6_fits_131 : decode cX6_fits 131 = .ok (.goto 4, 3) := by decide +kernel
theorem dX6_fits_134 : decode cX6_fits 134 = .ok (.iconst 0, 1) := by decide +kernel
theorem dX6_fits_135 : decode cX6_fits 135 = .ok (.istore 4, 2) := by decide +kernel
theorem dX6_fits_137 : decode cX6_fits 137 = .ok (.iload 4, 2) := by decide +kernel
theorem dX6_fits_139 : decode cX6_fits 139 = .ok (.ifCond .eq 24, 3) := by decide +kernel
theorem dX6_fits_142 : decode cX6_fits 142 = .ok (.iload_n 2, 1) := by decide +kernel
theorem dX6_fits_143 : decode cX6_fits 143 = .ok (.ifCond .eq 16, 3) := by decide +kernel
theorem dX6_fits_146 : decode cX6_fits 146 = .ok (.aload_n 0, 1) := by decide +kernel
theorem dX6_fits_147 : decode cX6_fits 147 = .ok (.iload_n 1, 1) := by decide +kernel
theorem dX6_fits_148 : decode cX6_fits 148 = .ok (.iconst 3, 1) := by decide +kernel
theorem dX6_fits_149 : decode cX6_fits 149 = .ok (.iload_n 1, 1) := by decide +kernel
theorem dX6_fits_150 : decode cX6_fits 150 = .ok (.iconst 1, 1) := by decide +kernel
theorem dX6_fits_151 : decode cX6_fits 151 = .ok (.isub, 1) := by decide +kernel
theorem dX6_fits_152 : decode cX6_fits 152 = .ok (.iconst 1, 1) := by decide +kernel
theorem dX6_fits_153 : decode cX6_fits 153 = .ok (.invokevirtual 173, 3) := by decide +kernel
theorem dX6_fits_156 : decode cX6_fits 156 = .ok (.ifCond .eq 7, 3) := by decide +kernel
theorem dX6_fits_159 : decode cX6_fits 159 = .ok (.iconst 1, 1) := by decide +kernel
theorem dX6_fits_160 : decode cX6_fits 160 = .ok (.goto 4, 3) := by decide +kernel
theorem dX6_fits_163 : decode cX6_fits 163 = .ok (.iconst 0, 1) := by decide +kernel
theorem dX6_fits_164 : decode cX6_fits 164 = .ok (.ireturn, 1) := by decide +kernel
set_option maxRecDepth 20000 in
theorem ggX6_search_X6_fits : GoodIn wsX6_search wsX6_fits := goodIn_r _ [12, 13, 14, 15, 16, 17, 11, 18, 19, 4, 20, 21, 22, 23, 24, 5, 25, 26, 27, 28, 29, 30, 31, 32, 33, 34, 35, 36, 37, 38, 39, 40, 41, 42, 43, 44, 45, 46, 47, 48, 53, 54, 55, 56, 57, 58, 59, 60, 61, 62, 63, 64, 65, 66, 67, 68, 69, 70, 71, 72, 73, 74, 75] (by decide +kernel) (by decide +kernel)
set_option maxRecDepth 20000 in
theorem gX6_search_X6_fits : GoodIn wsX6_search (wsV RX6 184 RX6 yX6_fits wsX6_fits) := goodIn_app (goodIn_of _ (by decide +kernel)) ggX6_search_X6_fits
set_option maxRecDepth 20000 in
theorem ggX6_search_X6_pieces : GoodIn wsX6_search wsX6_pieces := goodIn_r _ [52, 13, 14, 53, 54, 55, 56, 57, 58, 59, 60, 61, 62, 63, 64, 65, 66, 67, 68, 69, 70, 71, 72, 73, 74, 75] (by decide +kernel) (by decide +kernel)
set_option maxRecDepth 20000 in
theorem gX6_search_X6_pieces : GoodIn wsX6_search (wsV RX6 74 RX6 yX6_pieces wsX6_pieces) := goodIn_app (goodIn_of _ (by decide +kernel)) ggX6_search_X6_pieces
theorem dX6_search_0 : decode cX6_search 0 = .ok (.aload_n 0, 1) := by decide +kernel
theorem dX6_search_1 : decode cX6_search 1 = .ok (.iconst 0, 1) := by decide +kernel
theorem dX6_search_2 : decode cX6_search 2 = .ok (.putfield 177, 3) := by decide +kernel
theorem dX6_search_5 : decode cX6_search 5 = .ok (.aload_n 0, 1) := by decide +kernel
theorem dX6_search_6 : decode cX6_search 6 = .ok (.iconst 0, 1) := by decide +kernel
theorem dX6_search_7 : decode cX6_search 7 = .ok (.putfield 180, 3) := by decide +kernel
theorem dX6_search_10 : decode cX6_search 10 = .ok (.iconst 0, 1) := by decide +kernel
theorem dX6_search_11 : decode cX6_search 11 = .ok (.istore_n 2, 1) := by decide +kernel
theorem dX6_search_12 : decode cX6_search 12 = .ok (.iload_n 2, 1) := by decide +kernel
theorem dX6_search_13 : decode cX6_search 13 = .ok (.bipush 25, 2) := by decide +kernel
theorem dX6_search_15 : decode cX6_search 15 = .ok (.if_icmp .ge 16, 3) := by decide +kernel
theorem dX6_search_18 : decode cX6_search 18 = .ok (.aload_n 0, 1) := by decide +kernel
theorem dX6_search_19 : decode cX6_search 19 = .ok (.getfield 25, 3) := by decide +kernel
theorem dX6_search_22 : decode cX6_search 22 = .ok (.iload_n 2, 1) := by decide +kernel
theorem dX6_search_23 : decode cX6_search 23 = .ok (.iconst 0, 1) := by decide +kernel
theorem dX6_search_24 : decode cX6_search 24 = .ok (.bastore, 1) := by decide +kernel
theorem dX6_search_25 : decode cX6_search 25 = .ok (.iinc 2 1, 3) := by decide +kernel
theorem dX6_search_28 : decode cX6_search 28 = .ok (.goto (-16), 3) := by decide +kernel
theorem dX6_search_31 : decode cX6_search 31 = .ok (.iconst 0, 1) := by decide +kernel
theorem dX6_search_32 : decode cX6_search 32 = .ok (.istore_n 2, 1) := by decide +kernel
theorem dX6_search_33 : decode cX6_search 33 = .ok (.aload_n 0, 1) := by decide +kernel
theorem dX6_search_34 : decode cX6_search 34 = .ok (.getfield 19, 3) := by decide +kernel
theorem dX6_search_37 : decode cX6_search 37 = .ok (.iconst 0, 1) := by decide +kernel
theorem dX6_search_38 : decode cX6_search 38 = .ok (.iconst 0, 1) := by decide +kernel
theorem dX6_search_39 : decode cX6_search 39 = .ok (.iastore, 1) := by decide +kernel
theorem dX6_search_40 : decode cX6_search 40 = .ok (.aload_n 0, 1) := by decide +kernel
theorem dX6_search_41 : decode cX6_search 41 = .ok (.getfield 22, 3) := by decide +kernel
theorem dX6_search_44 : decode cX6_search 44 = .ok (.iconst 0, 1) := by decide +kernel
theorem dX6_search_45 : decode cX6_search 45 = .ok (.iconst (-1), 1) := by decide +kernel
theorem dX6_search_46 : decode cX6_search 46 = .ok (.iastore, 1) := by decide +kernel
theorem dX6_search_47 : decode cX6_search 47 = .ok (.iload_n 2, 1) := by decide +kernel
theorem dX6_search_48 : decode cX6_search 48 = .ok (.ifCond .lt 206, 3) := by decide +kernel
theorem dX6_search_51 : decode cX6_search 51 = .ok (.aload_n 0, 1) := by decide +kernel
theorem dX6_search_52 : decode cX6_search 52 = .ok (.getfield 22, 3) := by decide +kernel
theorem dX6_search_55 : decode cX6_search 55 = .ok (.iload_n 2, 1) := by decide +kernel
theorem dX6_search_56 : decode cX6_search 56 = .ok (.dup2, 1) := by decide +kernel
theorem dX6_search_57 : decode cX6_search 57 = .ok (.iaload, 1) := by decide +kernel
theorem dX6_search_58 : decode cX6_search 58 = .ok (.iconst 1, 1) := by decide +kernel
theorem dX6_search_59 : decode cX6_search 59 = .ok (.iadd, 1) := by decide +kernel
theorem dX6_search_60 : decode cX6_search 60 = .ok (.iastore, 1) := by decide +kernel
theorem dX6_search_61 : decode cX6_search 61 = .ok (.aload_n 0, 1) := by decide +kernel
theorem dX6_search_62 : decode cX6_search 62 = .ok (.getfield 22, 3) := by decide +kernel
theorem dX6_search_65 : decode cX6_search 65 = .ok (.iload_n 2, 1) := by decide +kernel
theorem dX6_search_66 : decode cX6_search 66 = .ok (.iaload, 1) := by decide +kernel
theorem dX6_search_67 : decode cX6_search 67 = .ok (.iconst 4, 1) := by decide +kernel
theorem dX6_search_68 : decode cX6_search 68 = .ok (.if_icmp .ne 20, 3) := by decide +kernel
theorem dX6_search_71 : decode cX6_search 71 = .ok (.aload_n 0, 1) := by decide +kernel
theorem dX6_search_72 : decode cX6_search 72 = .ok (.getfield 22, 3) := by decide +kernel
theorem dX6_search_75 : decode cX6_search 75 = .ok (.iload_n 2, 1) := by decide +kernel
theorem dX6_search_76 : decode cX6_search 76 = .ok (.iconst 0, 1) := by decide +kernel
theorem dX6_search_77 : decode cX6_search 77 = .ok (.iastore, 1) := by decide +kernel
theorem dX6_search_78 : decode cX6_search 78 = .ok (.aload_n 0, 1) := by decide +kernel
theorem dX6_search_79 : decode cX6_search 79 = .ok (.getfield 19, 3) := by decide +kernel
theorem dX6_search_82 : decode cX6_search 82 = .ok (.iload_n 2, 1) := by decide +kernel
theorem dX6_search_83 : decode cX6_search 83 = .ok (.dup2, 1) := by decide +kernel
theorem dX6_search_84 : decode cX6_search 84 = .ok (.iaload, 1) := by decide +kernel
theorem dX6_search_85 : decode cX6_search 85 = .ok (.iconst 1, 1) := by decide +kernel
theorem dX6_search_86 : decode cX6_search 86 = .ok (.iadd, 1) := by decide +kernel
theorem dX6_search_87 : decode cX6_search 87 = .ok (.iastore, 1) := by decide +kernel
theorem dX6_search_88 : decode cX6_search 88 = .ok (.aload_n 0, 1) := by decide +kernel
theorem dX6_search_89 : decode cX6_search 89 = .ok (.getfield 19, 3) := by decide +kernel
theorem dX6_search_92 : decode cX6_search 92 = .ok (.iload_n 2, 1) := by decide +kernel
theorem dX6_search_93 : decode cX6_search 93 = .ok (.iaload, 1) := by decide +kernel
theorem dX6_search_94 : decode cX6_search 94 = .ok (.aload_n 0, 1) := by decide +kernel
theorem dX6_search_95 : decode cX6_search 95 = .ok (.getfield 83, 3) := by decide +kernel
theorem dX6_search_98 : decode cX6_search 98 = .ok (.if_icmp .ge 30, 3) := by decide +kernel
theorem dX6_search_101 : decode cX6_search 101 = .ok (.aload_n 0, 1) := by decide +kernel
theorem dX6_search_102 : decode cX6_search 102 = .ok (.getfield 25, 3) := by decide +kernel
theorem dX6_search_105 : decode cX6_search 105 = .ok (.aload_n 0, 1) := by decide +kernel
theorem dX6_search_106 : decode cX6_search 106 = .ok (.getfield 19, 3) := by decide +kernel
theorem dX6_search_109 : decode cX6_search 109 = .ok (.iload_n 2, 1) := by decide +kernel
theorem dX6_search_110 : decode cX6_search 110 = .ok (.iaload, 1) := by decide +kernel
theorem dX6_search_111 : decode cX6_search 111 = .ok (.baload, 1) := by decide +kernel
theorem dX6_search_112 : decode cX6_search 112 = .ok (.ifCond .eq 16, 3) := by decide +kernel
theorem dX6_search_115 : decode cX6_search 115 = .ok (.aload_n 0, 1) := by decide +kernel
theorem dX6_search_116 : decode cX6_search 116 = .ok (.getfield 19, 3) := by decide +kernel
theorem dX6_search_119 : decode cX6_search 119 = .ok (.iload_n 2, 1) := by decide +kernel
theorem dX6_search_120 : decode cX6_search 120 = .ok (.dup2, 1) := by decide +kernel
theorem dX6_search_121 : decode cX6_search 121 = .ok (.iaload, 1) := by decide +kernel
theorem dX6_search_122 : decode cX6_search 122 = .ok (.iconst 1, 1) := by decide +kernel
theorem dX6_search_123 : decode cX6_search 123 = .ok (.iadd, 1) := by decide +kernel
theorem dX6_search_124 : decode cX6_search 124 = .ok (.iastore, 1) := by decide +kernel
theorem dX6_search_125 : decode cX6_search 125 = .ok (.goto (-37), 3) := by decide +kernel
theorem dX6_search_128 : decode cX6_search 128 = .ok (.aload_n 0, 1) := by decide +kernel
theorem dX6_search_129 : decode cX6_search 129 = .ok (.getfield 19, 3) := by decide +kernel
theorem dX6_search_132 : decode cX6_search 132 = .ok (.iload_n 2, 1) := by decide +kernel
theorem dX6_search_133 : decode cX6_search 133 = .ok (.iaload, 1) := by decide +kernel
theorem dX6_search_134 : decode cX6_search 134 = .ok (.aload_n 0, 1) := by decide +kernel
theorem dX6_search_135 : decode cX6_search 135 = .ok (.getfield 83, 3) := by decide +kernel
theorem dX6_search_138 : decode cX6_search 138 = .ok (.if_icmp .lt 25, 3) := by decide +kernel
theorem dX6_search_141 : decode cX6_search 141 = .ok (.iinc 2 (-1), 3) := by decide +kernel
theorem dX6_search_144 : decode cX6_search 144 = .ok (.iload_n 2, 1) := by decide +kernel
theorem dX6_search_145 : decode cX6_search 145 = .ok (.ifCond .lt (-98), 3) := by decide +kernel
theorem dX6_search_148 : decode cX6_search 148 = .ok (.aload_n 0, 1) := by decide +kernel
theorem dX6_search_149 : decode cX6_search 149 = .ok (.getfield 25, 3) := by decide +kernel
theorem dX6_search_152 : decode cX6_search 152 = .ok (.aload_n 0, 1) := by decide +kernel
theorem dX6_search_153 : decode cX6_search 153 = .ok (.getfield 19, 3) := by decide +kernel
theorem dX6_search_156 : decode cX6_search 156 = .ok (.iload_n 2, 1) := by decide +kernel
theorem dX6_search_157 : decode cX6_search 157 = .ok (.iaload, 1) := by decide +kernel
theorem dX6_search_158 : decode cX6_search 158 = .ok (.iconst 0, 1) := by decide +kernel
theorem dX6_search_159 : decode cX6_search 159 = .ok (.bastore, 1) := by decide +kernel
theorem dX6_search_160 : decode cX6_search 160 = .ok (.goto (-113), 3) := by decide +kernel
theorem dX6_search_163 : decode cX6_search 163 = .ok (.aload_n 0, 1) := by decide +kernel
theorem dX6_search_164 : decode cX6_search 164 = .ok (.getfield 177, 3) := by decide +kernel
theorem dX6_search_167 : decode cX6_search 167 = .ok (.ldc 183, 2) := by decide +kernel
theorem dX6_search_169 : decode cX6_search 169 = .ok (.if_icmp .ne 5, 3) := by decide +kernel
theorem dX6_search_172 : decode cX6_search 172 = .ok (.iconst 0, 1) := by decide +kernel
theorem dX6_search_173 : decode cX6_search 173 = .ok (.ireturn, 1) := by decide +kernel
theorem dX6_search_174 : decode cX6_search 174 = .ok (.aload_n 0, 1) := by decide +kernel
theorem dX6_search_175 : decode cX6_search 175 = .ok (.dup, 1) := by decide +kernel
theorem dX6_search_176 : decode cX6_search 176 = .ok (.getfield 177, 3) := by decide +kernel
theorem dX6_search_179 : decode cX6_search 179 = .ok (.iconst 1, 1) := by decide +kernel
theorem dX6_search_180 : decode cX6_search 180 = .ok (.iadd, 1) := by decide +kernel
theorem dX6_search_181 : decode cX6_search 181 = .ok (.putfield 177, 3) := by decide +kernel
theorem dX6_search_184 : decode cX6_search 184 = .ok (.aload_n 0, 1) := by decide +kernel
theorem dX6_search_185 : decode cX6_search 185 = .ok (.iload_n 2, 1) := by decide +kernel
theorem dX6_search_186 : decode cX6_search 186 = .ok (.invokevirtual 184, 3) := by decide +kernel
theorem dX6_search_189 : decode cX6_search 189 = .ok (.ifCond .eq (-142), 3) := by decide +kernel
theorem dX6_search_192 : decode cX6_search 192 = .ok (.iload_n 2, 1) := by decide +kernel
theorem dX6_search_193 : decode cX6_search 193 = .ok (.aload_n 0, 1) := by decide +kernel
theorem dX6_search_194 : decode cX6_search 194 = .ok (.invokevirtual 74, 3) := by decide +kernel
theorem dX6_search_197 : decode cX6_search 197 = .ok (.iconst 1, 1) := by decide +kernel
theorem dX6_search_198 : decode cX6_search 198 = .ok (.isub, 1) := by decide +kernel
theorem dX6_search_199 : decode cX6_search 199 = .ok (.if_icmp .ne 23, 3) := by decide +kernel
theorem dX6_search_202 : decode cX6_search 202 = .ok (.aload_n 0, 1) := by decide +kernel
theorem dX6_search_203 : decode cX6_search 203 = .ok (.dup, 1) := by decide +kernel
theorem dX6_search_204 : decode cX6_search 204 = .ok (.getfield 180, 3) := by decide +kernel
theorem dX6_search_207 : decode cX6_search 207 = .ok (.iconst 1, 1) := by decide +kernel
theorem dX6_search_208 : decode cX6_search 208 = .ok (.iadd, 1) := by decide +kernel
theorem dX6_search_209 : decode cX6_search 209 = .ok (.putfield 180, 3) := by decide +kernel
theorem dX6_search_212 : decode cX6_search 212 = .ok (.aload_n 0, 1) := by decide +kernel
theorem dX6_search_213 : decode cX6_search 213 = .ok (.getfield 180, 3) := by decide +kernel
theorem dX6_search_216 : decode cX6_search 216 = .ok (.iload_n 1, 1) := by decide +kernel
theorem dX6_search_217 : decode cX6_search 217 = .ok (.if_icmp .ne (-170), 3) := by decide +kernel
theorem dX6_search_220 : decode cX6_search 220 = .ok (.iconst 1, 1) := by decide +kernel
theorem dX6_search_221 : decode cX6_search 221 = .ok (.ireturn, 1) := by decide +kernel
theorem dX6_search_222 : decode cX6_search 222 = .ok (.aload_n 0, 1) := by decide +kernel
theorem dX6_search_223 : decode cX6_search 223 = .ok (.getfield 25, 3) := by decide +kernel
theorem dX6_search_226 : decode cX6_search 226 = .ok (.aload_n 0, 1) := by decide +kernel
theorem dX6_search_227 : decode cX6_search 227 = .ok (.getfield 19, 3) := by decide +kernel
theorem dX6_search_230 : decode cX6_search 230 = .ok (.iload_n 2, 1) := by decide +kernel
theorem dX6_search_231 : decode cX6_search 231 = .ok (.iaload, 1) := by decide +kernel
theorem dX6_search_232 : decode cX6_search 232 = .ok (.iconst 1, 1) := by decide +kernel
theorem dX6_search_233 : decode cX6_search 233 = .ok (.bastore, 1) := by decide +kernel
theorem dX6_search_234 : decode cX6_search 234 = .ok (.iinc 2 1, 3) := by decide +kernel
theorem dX6_search_237 : decode cX6_search 237 = .ok (.aload_n 0, 1) := by decide +kernel
theorem dX6_search_238 : decode cX6_search 238 = .ok (.getfield 19, 3) := by decide +kernel
theorem dX6_search_241 : decode cX6_search 241 = .ok (.iload_n 2, 1) := by decide +kernel
theorem dX6_search_242 : decode cX6_search 242 = .ok (.iconst 0, 1) := by decide +kernel
theorem dX6_search_243 : decode cX6_search 243 = .ok (.iastore, 1) := by decide +kernel
theorem dX6_search_244 : decode cX6_search 244 = .ok (.aload_n 0, 1) := by decide +kernel
theorem dX6_search_245 : decode cX6_search 245 = .ok (.getfield 22, 3) := by decide +kernel
theorem dX6_search_248 : decode cX6_search 248 = .ok (.iload_n 2, 1) := by decide +kernel
theorem dX6_search_249 : decode cX6_search 249 = .ok (.iconst (-1), 1) := by decide +kernel
theorem dX6_search_250 : decode cX6_search 250 = .ok (.iastore, 1) := by decide +kernel
theorem dX6_search_251 : decode cX6_search 251 = .ok (.goto (-204), 3) := by decide +kernel
theorem dX6_search_254 : decode cX6_search 254 = .ok (.iconst 1, 1) := by decide +kernel
theorem dX6_search_255 : decode cX6_search 255 = .ok (.ireturn, 1) := by decide +kernel
set_option maxRecDepth 20000 in
theorem ggX6_ways_X6_search : GoodIn wsX6_ways wsX6_search := goodIn_r _ [6, 7, 1, 8, 9, 10, 11, 12, 13, 14, 15, 5, 16, 17, 18, 19, 20, 21, 22, 23, 24, 25, 26, 27, 28, 29, 30, 31, 32, 33, 34, 35, 36, 37, 38, 39, 40, 41, 42, 43, 44, 45, 46, 47, 48, 49, 50, 51, 52, 53, 54, 55, 56, 57, 58, 59, 60, 61, 62, 63, 64, 65, 66, 67, 68, 69, 70, 71, 72, 73, 74, 75, 76, 77, 78, 79] (by decide +kernel) (by decide +kernel)
set_option maxRecDepth 20000 in
theorem gX6_ways_X6_search : GoodIn wsX6_ways (wsV RX6 187 RX6 yX6_search wsX6_search) := goodIn_app (goodIn_of _ (by decide +kernel)) ggX6_ways_X6_search
theorem dX6_ways_0 : decode cX6_ways 0 = .ok (.aload_n 0, 1) := by decide +kernel
theorem dX6_ways_1 : decode cX6_ways 1 = .ok (.iconst (-1), 1) := by decide +kernel
theorem dX6_ways_2 : decode cX6_ways 2 = .ok (.invokevirtual 187, 3) := by decide +kernel
theorem dX6_ways_5 : decode cX6_ways 5 = .ok (.ifCond .eq 10, 3) := by decide +kernel
theorem dX6_ways_8 : decode cX6_ways 8 = .ok (.aload_n 0, 1) := by decide +kernel
theorem dX6_ways_9 : decode cX6_ways 9 = .ok (.getfield 180, 3) := by decide +kernel
theorem dX6_ways_12 : decode cX6_ways 12 = .ok (.goto 5, 3) := by decide +kernel
theorem dX6_ways_15 : decode cX6_ways 15 = .ok (.bipush (-6), 2) := by decide +kernel
theorem dX6_ways_17 : decode cX6_ways 17 = .ok (.ireturn, 1) := by decide +kernel
set_option maxRecDepth 20000 in
theorem ggX6_join_X6_search : GoodIn wsX6_join wsX6_search := goodIn_r _ [11, 12, 1, 13, 4, 6, 14, 15, 16, 17, 18, 10, 19, 20, 21, 22, 23, 24, 25, 26, 27, 28, 29, 30, 31, 32, 33, 34, 35, 36, 37, 38, 39, 40, 41, 42, 43, 44, 45, 46, 47, 48, 49, 50, 51, 52, 53, 54, 55, 56, 57, 58, 59, 60, 61, 62, 63, 64, 65, 66, 67, 68, 69, 70, 71, 72, 73, 74, 75, 76, 77, 78, 79, 80, 81, 82] (by decide +kernel) (by decide +kernel)
set_option maxRecDepth 20000 in
theorem gX6_join_X6_search : GoodIn wsX6_join (wsV RX6 187 RX6 yX6_search wsX6_search) := goodIn_app (goodIn_of _ (by decide +kernel)) ggX6_join_X6_search
set_option maxRecDepth 20000 in
theorem ggX6_join_X6_pieces : GoodIn wsX6_join wsX6_pieces := goodIn_r _ [59, 20, 21, 60, 61, 62, 63, 64, 65, 66, 67, 68, 69, 70, 71, 72, 73, 74, 75, 76, 77, 78, 79, 80, 81, 82] (by decide +kernel) (by decide +kernel)
set_option maxRecDepth 20000 in
theorem gX6_join_X6_pieces : GoodIn wsX6_join (wsV RX6 74 RX6 yX6_pieces wsX6_pieces) := goodIn_app (goodIn_of _ (by decide +kernel)) ggX6_join_X6_pieces
theorem dX6_join_0 : decode cX6_join 0 = .ok (.aload_n 0, 1) := by decide +kernel
theorem dX6_join_1 : decode cX6_join 1 = .ok (.iconst 1, 1) := by decide +kernel
theorem dX6_join_2 : decode cX6_join 2 = .ok (.invokevirtual 187, 3) := by decide +kernel
theorem dX6_join_5 : decode cX6_join 5 = .ok (.ifCond .ne 6, 3) := by decide +kernel
theorem dX6_join_8 : decode cX6_join 8 = .ok (.bipush (-6), 2) := by decide +kernel
theorem dX6_join_10 : decode cX6_join 10 = .ok (.ireturn, 1) := by decide +kernel
theorem dX6_join_11 : decode cX6_join 11 = .ok (.aload_n 0, 1) := by decide +kernel
theorem dX6_join_12 : decode cX6_join 12 = .ok (.aload_n 0, 1) := by decide +kernel
theorem dX6_join_13 : decode cX6_join 13 = .ok (.getfield 180, 3) := by decide +kernel
theorem dX6_join_16 : decode cX6_join 16 = .ok (.iconst 1, 1) := by decide +kernel
theorem dX6_join_17 : decode cX6_join 17 = .ok (.if_icmp .ne 7, 3) := by decide +kernel
theorem dX6_join_20 : decode cX6_join 20 = .ok (.iconst 1, 1) := by decide +kernel
theorem dX6_join_21 : decode cX6_join 21 = .ok (.goto 4, 3) := by decide +kernel
theorem dX6_join_24 : decode cX6_join 24 = .ok (.iconst 0, 1) := by decide +kernel
theorem dX6_join_25 : decode cX6_join 25 = .ok (.putfield 77, 3) := by decide +kernel
theorem dX6_join_28 : decode cX6_join 28 = .ok (.iconst 0, 1) := by decide +kernel
theorem dX6_join_29 : decode cX6_join 29 = .ok (.istore_n 1, 1) := by decide +kernel
theorem dX6_join_30 : decode cX6_join 30 = .ok (.iload_n 1, 1) := by decide +kernel
theorem dX6_join_31 : decode cX6_join 31 = .ok (.aload_n 0, 1) := by decide +kernel
theorem dX6_join_32 : decode cX6_join 32 = .ok (.invokevirtual 74, 3) := by decide +kernel
theorem dX6_join_35 : decode cX6_join 35 = .ok (.if_icmp .ge 40, 3) := by decide +kernel
theorem dX6_join_38 : decode cX6_join 38 = .ok (.aload_n 0, 1) := by decide +kernel
theorem dX6_join_39 : decode cX6_join 39 = .ok (.getfield 77, 3) := by decide +kernel
theorem dX6_join_42 : decode cX6_join 42 = .ok (.ifCond .eq 33, 3) := by decide +kernel
theorem dX6_join_45 : decode cX6_join 45 = .ok (.aload_n 0, 1) := by decide +kernel
theorem dX6_join_46 : decode cX6_join 46 = .ok (.getfield 29, 3) := by decide +kernel
theorem dX6_join_49 : decode cX6_join 49 = .ok (.iload_n 1, 1) := by decide +kernel
theorem dX6_join_50 : decode cX6_join 50 = .ok (.aload_n 0, 1) := by decide +kernel
theorem dX6_join_51 : decode cX6_join 51 = .ok (.getfield 19, 3) := by decide +kernel
theorem dX6_join_54 : decode cX6_join 54 = .ok (.iload_n 1, 1) := by decide +kernel
theorem dX6_join_55 : decode cX6_join 55 = .ok (.iaload, 1) := by decide +kernel
theorem dX6_join_56 : decode cX6_join 56 = .ok (.iastore, 1) := by decide +kernel
theorem dX6_join_57 : decode cX6_join 57 = .ok (.aload_n 0, 1) := by decide +kernel
theorem dX6_join_58 : decode cX6_join 58 = .ok (.getfield 32, 3) := by decide +kernel
theorem dX6_join_61 : decode cX6_join 61 = .ok (.iload_n 1, 1) := by decide +kernel
theorem dX6_join_62 : decode cX6_join 62 = .ok (.aload_n 0, 1) := by decide +kernel
theorem dX6_join_63 : decode cX6_join 63 = .ok (.getfield 22, 3) := by decide +kernel
theorem dX6_join_66 : decode cX6_join 66 = .ok (.iload_n 1, 1) := by decide +kernel
theorem dX6_join_67 : decode cX6_join 67 = .ok (.iaload, 1) := by decide +kernel
theorem dX6_join_68 : decode cX6_join 68 = .ok (.iastore, 1) := by decide +kernel
theorem dX6_join_69 : decode cX6_join 69 = .ok (.iinc 1 1, 3) := by decide +kernel
theorem dX6_join_72 : decode cX6_join 72 = .ok (.goto (-42), 3) := by decide +kernel
theorem dX6_join_75 : decode cX6_join 75 = .ok (.aload_n 0, 1) := by decide +kernel
theorem dX6_join_76 : decode cX6_join 76 = .ok (.getfield 180, 3) := by decide +kernel
theorem dX6_join_79 : decode cX6_join 79 = .ok (.ireturn, 1) := by decide +kernel
set_option maxRecDepth 20000 in
theorem ggX6_joined_X6_noPiece : GoodIn wsX6_joined wsX6_noPiece := goodIn_r _ [8, 9, 10, 11, 7, 12, 13, 14, 15, 16, 17, 18, 19, 20, 21, 22, 23, 24, 25, 26, 27, 28, 29, 30, 31, 32, 33, 34, 35, 36, 37, 38, 39, 40] (by decide +kernel) (by decide +kernel)
set_option maxRecDepth 20000 in
theorem gX6_joined_X6_noPiece : GoodIn wsX6_joined (wsV RX6 115 RX6 yX6_noPiece wsX6_noPiece) := goodIn_app (goodIn_of _ (by decide +kernel)) ggX6_joined_X6_noPiece
theorem dX6_joined_0 : decode cX6_joined 0 = .ok (.aload_n 0, 1) := by decide +kernel
theorem dX6_joined_1 : decode cX6_joined 1 = .ok (.getfield 77, 3) := by decide +kernel
theorem dX6_joined_4 : decode cX6_joined 4 = .ok (.ifCond .ne 6, 3) := by decide +kernel
theorem dX6_joined_7 : decode cX6_joined 7 = .ok (.bipush (-3), 2) := by decide +kernel
theorem dX6_joined_9 : decode cX6_joined 9 = .ok (.ireturn, 1) := by decide +kernel
theorem dX6_joined_10 : decode cX6_joined 10 = .ok (.aload_n 0, 1) := by decide +kernel
theorem dX6_joined_11 : decode cX6_joined 11 = .ok (.iload_n 1, 1) := by decide +kernel
theorem dX6_joined_12 : decode cX6_joined 12 = .ok (.invokevirtual 115, 3) := by decide +kernel
theorem dX6_joined_15 : decode cX6_joined 15 = .ok (.ifCond .eq 5, 3) := by decide +kernel
theorem dX6_joined_18 : decode cX6_joined 18 = .ok (.iconst (-1), 1) := by decide +kernel
theorem dX6_joined_19 : decode cX6_joined 19 = .ok (.ireturn, 1) := by decide +kernel
theorem dX6_joined_20 : decode cX6_joined 20 = .ok (.iload_n 2, 1) := by decide +kernel
theorem dX6_joined_21 : decode cX6_joined 21 = .ok (.ifCond .ne 12, 3) := by decide +kernel
theorem dX6_joined_24 : decode cX6_joined 24 = .ok (.aload_n 0, 1) := by decide +kernel
theorem dX6_joined_25 : decode cX6_joined 25 = .ok (.getfield 29, 3) := by decide +kernel
theorem dX6_joined_28 : decode cX6_joined 28 = .ok (.iload_n 1, 1) := by decide +kernel
theorem dX6_joined_29 : decode cX6_joined 29 = .ok (.iaload, 1) := by decide +kernel
theorem dX6_joined_30 : decode cX6_joined 30 = .ok (.goto 19, 3) := by decide +kernel
theorem dX6_joined_33 : decode cX6_joined 33 = .ok (.iload_n 2, 1) := by decide +kernel
theorem dX6_joined_34 : decode cX6_joined 34 = .ok (.iconst 1, 1) := by decide +kernel
theorem dX6_joined_35 : decode cX6_joined 35 = .ok (.if_icmp .ne 12, 3) := by decide +kernel
theorem dX6_joined_38 : decode cX6_joined 38 = .ok (.aload_n 0, 1) := by decide +kernel
theorem dX6_joined_39 : decode cX6_joined 39 = .ok (.getfield 32, 3) := by decide +kernel
theorem dX6_joined_42 : decode cX6_joined 42 = .ok (.iload_n 1, 1) := by decide +kernel
theorem dX6_joined_43 : decode cX6_joined 43 = .ok (.iaload, 1) := by decide +kernel
theorem dX6_joined_44 : decode cX6_joined 44 = .ok (.goto 5, 3) := by decide +kernel
theorem dX6_joined_47 : decode cX6_joined 47 = .ok (.bipush (-2), 2) := by decide +kernel
theorem dX6_joined_49 : decode cX6_joined 49 = .ok (.ireturn, 1) := by decide +kernel
theorem dX6_trials_0 : decode cX6_trials 0 = .ok (.aload_n 0, 1) := by decide +kernel
theorem dX6_trials_1 : decode cX6_trials 1 = .ok (.getfield 177, 3) := by decide +kernel
theorem dX6_trials_4 : decode cX6_trials 4 = .ok (.ireturn, 1) := by decide +kernel
theorem dX6_neighbour_0 : decode cX6_neighbour 0 = .ok (.iload_n 2, 1) := by decide +kernel
theorem dX6_neighbour_1 : decode cX6_neighbour 1 = .ok (.ifCond .ne 12, 3) := by decide +kernel
theorem dX6_neighbour_4 : decode cX6_neighbour 4 = .ok (.iload_n 1, 1) := by decide +kernel
theorem dX6_neighbour_5 : decode cX6_neighbour 5 = .ok (.aload_n 0, 1) := by decide +kernel
theorem dX6_neighbour_6 : decode cX6_neighbour 6 = .ok (.getfield 47, 3) := by decide +kernel
theorem dX6_neighbour_9 : decode cX6_neighbour 9 = .ok (.isub, 1) := by decide +kernel
theorem dX6_neighbour_10 : decode cX6_neighbour 10 = .ok (.goto 31, 3) := by decide +kernel
theorem dX6_neighbour_13 : decode cX6_neighbour 13 = .ok (.iload_n 2, 1) := by decide +kernel
theorem dX6_neighbour_14 : decode cX6_neighbour 14 = .ok (.iconst 1, 1) := by decide +kernel
theorem dX6_neighbour_15 : decode cX6_neighbour 15 = .ok (.if_icmp .ne 9, 3) := by decide +kernel
theorem dX6_neighbour_18 : decode cX6_neighbour 18 = .ok (.iload_n 1, 1) := by decide +kernel
theorem dX6_neighbour_19 : decode cX6_neighbour 19 = .ok (.iconst 1, 1) := by decide +kernel
theorem dX6_neighbour_20 : decode cX6_neighbour 20 = .ok (.iadd, 1) := by decide +kernel
theorem dX6_neighbour_21 : decode cX6_neighbour 21 = .ok (.goto 20, 3) := by decide +kernel
theorem dX6_neighbour_24 : decode cX6_neighbour 24 = .ok (.iload_n 2, 1) := by decide +kernel
theorem dX6_neighbour_25 : decode cX6_neighbour 25 = .ok (.iconst 2, 1) := by decide +kernel
theorem dX6_neighbour_26 : decode cX6_neighbour 26 = .ok (.if_icmp .ne 12, 3) := by decide +kernel
theorem dX6_neighbour_29 : decode cX6_neighbour 29 = .ok (.iload_n 1, 1) := by decide +kernel
theorem dX6_neighbour_30 : decode cX6_neighbour 30 = .ok (.aload_n 0, 1) := by decide +kernel
theorem dX6_neighbour_31 : decode cX6_neighbour 31 = .ok (.getfield 47, 3) := by decide +kernel
theorem dX6_neighbour_34 : decode cX6_neighbour 34 = .ok (.iadd, 1) := by decide +kernel
theorem dX6_neighbour_35 : decode cX6_neighbour 35 = .ok (.goto 6, 3) := by decide +kernel
theorem dX6_neighbour_38 : decode cX6_neighbour 38 = .ok (.iload_n 1, 1) := by decide +kernel
theorem dX6_neighbour_39 : decode cX6_neighbour 39 = .ok (.iconst 1, 1) := by decide +kernel
theorem dX6_neighbour_40 : decode cX6_neighbour 40 = .ok (.isub, 1) := by decide +kernel
theorem dX6_neighbour_41 : decode cX6_neighbour 41 = .ok (.ireturn, 1) := by decide +kernel
set_option maxRecDepth 20000 in
theorem ggX6_known_X6_noPiece : GoodIn wsX6_known wsX6_noPiece := goodIn_r _ [5, 6, 7, 8, 4, 9, 10, 11, 12, 13, 14, 33, 34, 35, 36, 37, 38, 39, 40, 41, 42, 43, 44, 45, 46, 47, 48, 49, 50, 51, 52, 53, 54, 55] (by decide +kernel) (by decide +kernel)
set_option maxRecDepth 20000 in
theorem gX6_known_X6_noPiece : GoodIn wsX6_known (wsV RX6 115 RX6 yX6_noPiece wsX6_noPiece) := goodIn_app (goodIn_of _ (by decide +kernel)) ggX6_known_X6_noPiece
set_option maxRecDepth 20000 in
theorem ggX6_known_X6_timesIn : GoodIn wsX6_known wsX6_timesIn := goodIn_r _ [18, 19, 20, 33, 34, 35, 36, 37, 38, 39, 40, 41, 42, 43, 44, 45, 46, 47, 48, 49, 50, 51, 52, 53, 54, 55] (by decide +kernel) (by decide +kernel)
set_option maxRecDepth 20000 in
theorem gX6_known_X6_timesIn : GoodIn wsX6_known (wsV RX6 158 RX6 yX6_timesIn wsX6_timesIn) := goodIn_app (goodIn_of _ (by decide +kernel)) ggX6_known_X6_timesIn
set_option maxRecDepth 20000 in
theorem ggX6_known_X6_sideAt : GoodIn wsX6_known wsX6_sideAt := goodIn_r _ [24, 10, 11, 25, 26, 27, 4, 28, 33, 34, 35, 36, 37, 38, 39, 40, 41, 42, 43, 44, 45, 46, 47, 48, 49, 50, 51, 52, 53, 54, 55] (by decide +kernel) (by decide +kernel)
set_option maxRecDepth 20000 in
theorem gX6_known_X6_sideAt : GoodIn wsX6_known (wsV RX6 120 RX6 yX6_sideAt wsX6_sideAt) := goodIn_app (goodIn_of _ (by decide +kernel)) ggX6_known_X6_sideAt
set_option maxRecDepth 20000 in
theorem ggX6_known_X6_neighbour : GoodIn wsX6_known wsX6_neighbour := goodIn_r _ [32, 10, 33, 34, 35, 36, 37, 38, 39, 40, 41, 42, 43, 44, 45, 46, 47, 48, 49, 50, 51, 52, 53, 54, 55] (by decide +kernel) (by decide +kernel)
set_option maxRecDepth 20000 in
theorem gX6_known_X6_neighbour : GoodIn wsX6_known (wsV RX6 190 RX6 yX6_neighbour wsX6_neighbour) := goodIn_app (goodIn_of _ (by decide +kernel)) ggX6_known_X6_neighbour
theorem dX6_known_0 : decode cX6_known 0 = .ok (.aload_n 0, 1) := by decide +kernel
theorem dX6_known_1 : decode cX6_known 1 = .ok (.iload_n 1, 1) := by decide +kernel
theorem dX6_known_2 : decode cX6_known 2 = .ok (.invokevirtual 115, 3) := by decide +kernel
theorem dX6_known_5 : decode cX6_known 5 = .ok (.ifCond .eq 5, 3) := by decide +kernel
theorem dX6_known_8 : decode cX6_known 8 = .ok (.iconst (-1), 1) := by decide +kernel
theorem dX6_known_9 : decode cX6_known 9 = .ok (.ireturn, 1) := by decide +kernel
theorem dX6_known_10 : decode cX6_known 10 = .ok (.aload_n 0, 1) := by decide +kernel
theorem dX6_known_11 : decode cX6_known 11 = .ok (.iload_n 1, 1) := by decide +kernel
theorem dX6_known_12 : decode cX6_known 12 = .ok (.invokevirtual 158, 3) := by decide +kernel
theorem dX6_known_15 : decode cX6_known 15 = .ok (.ifCond .le 6, 3) := by decide +kernel
theorem dX6_known_18 : decode cX6_known 18 = .ok (.bipush (-3), 2) := by decide +kernel
theorem dX6_known_20 : decode cX6_known 20 = .ok (.ireturn, 1) := by decide +kernel
theorem dX6_known_21 : decode cX6_known 21 = .ok (.iconst 0, 1) := by decide +kernel
theorem dX6_known_22 : decode cX6_known 22 = .ok (.istore_n 2, 1) := by decide +kernel
theorem dX6_known_23 : decode cX6_known 23 = .ok (.iconst 0, 1) := by decide +kernel
theorem dX6_known_24 : decode cX6_known 24 = .ok (.istore_n 3, 1) := by decide +kernel
theorem dX6_known_25 : decode cX6_known 25 = .ok (.iload_n 3, 1) := by decide +kernel
theorem dX6_known_26 : decode cX6_known 26 = .ok (.iconst 4, 1) := by decide +kernel
theorem dX6_known_27 : decode cX6_known 27 = .ok (.if_icmp .ge 39, 3) := by decide +kernel
theorem dX6_known_30 : decode cX6_known 30 = .ok (.iload_n 2, 1) := by decide +kernel
theorem dX6_known_31 : decode cX6_known 31 = .ok (.aload_n 0, 1) := by decide +kernel
theorem dX6_known_32 : decode cX6_known 32 = .ok (.iload_n 1, 1) := by decide +kernel
theorem dX6_known_33 : decode cX6_known 33 = .ok (.iload_n 3, 1) := by decide +kernel
theorem dX6_known_34 : decode cX6_known 34 = .ok (.invokevirtual 120, 3) := by decide +kernel
theorem dX6_known_37 : decode cX6_known 37 = .ok (.ifCond .lt 20, 3) := by decide +kernel
theorem dX6_known_40 : decode cX6_known 40 = .ok (.aload_n 0, 1) := by decide +kernel
theorem dX6_known_41 : decode cX6_known 41 = .ok (.aload_n 0, 1) := by decide +kernel
theorem dX6_known_42 : decode cX6_known 42 = .ok (.iload_n 1, 1) := by decide +kernel
theorem dX6_known_43 : decode cX6_known 43 = .ok (.iload_n 3, 1) := by decide +kernel
theorem dX6_known_44 : decode cX6_known 44 = .ok (.invokevirtual 190, 3) := by decide +kernel
theorem dX6_known_47 : decode cX6_known 47 = .ok (.invokevirtual 158, 3) := by decide +kernel
theorem dX6_known_50 : decode cX6_known 50 = .ok (.ifCond .le 7, 3) := by decide +kernel
theorem dX6_known_53 : decode cX6_known 53 = .ok (.iconst 5, 1) := by decide +kernel
theorem dX6_known_54 : decode cX6_known 54 = .ok (.goto 4, 3) := by decide +kernel
theorem dX6_known_57 : decode cX6_known 57 = .ok (.iconst 0, 1) := by decide +kernel
theorem dX6_known_58 : decode cX6_known 58 = .ok (.iadd, 1) := by decide +kernel
theorem dX6_known_59 : decode cX6_known 59 = .ok (.istore_n 2, 1) := by decide +kernel
theorem dX6_known_60 : decode cX6_known 60 = .ok (.iinc 3 1, 3) := by decide +kernel
theorem dX6_known_63 : decode cX6_known 63 = .ok (.goto (-38), 3) := by decide +kernel
theorem dX6_known_66 : decode cX6_known 66 = .ok (.iload_n 2, 1) := by decide +kernel
theorem dX6_known_67 : decode cX6_known 67 = .ok (.ireturn, 1) := by decide +kernel
set_option maxRecDepth 20000 in
theorem ggX6_noSheet_X6_in : GoodIn wsX6_noSheet wsX6_in := goodIn_r _ [5] (by decide +kernel) (by decide +kernel)
set_option maxRecDepth 20000 in
theorem gX6_noSheet_X6_in : GoodIn wsX6_noSheet (va_wsS RX6 70 yX6_in wsX6_in) := goodIn_app (goodIn_of _ (by decide +kernel)) ggX6_noSheet_X6_in
theorem dX6_noSheet_0 : decode cX6_noSheet 0 = .ok (.iload_n 0, 1) := by decide +kernel
theorem dX6_noSheet_1 : decode cX6_noSheet 1 = .ok (.i2l, 1) := by decide +kernel
theorem dX6_noSheet_2 : decode cX6_noSheet 2 = .ok (.lconst 0, 1) := by decide +kernel
theorem dX6_noSheet_3 : decode cX6_noSheet 3 = .ok (.ldc2_w 118, 3) := by decide +kernel
theorem dX6_noSheet_6 : decode cX6_noSheet 6 = .ok (.invokestatic 70, 3) := by decide +kernel
theorem dX6_noSheet_9 : decode cX6_noSheet 9 = .ok (.ifCond .ne 7, 3) := by decide +kernel
theorem dX6_noSheet_12 : decode cX6_noSheet 12 = .ok (.iconst 1, 1) := by decide +kernel
theorem dX6_noSheet_13 : decode cX6_noSheet 13 = .ok (.goto 4, 3) := by decide +kernel
theorem dX6_noSheet_16 : decode cX6_noSheet 16 = .ok (.iconst 0, 1) := by decide +kernel
theorem dX6_noSheet_17 : decode cX6_noSheet 17 = .ok (.ireturn, 1) := by decide +kernel
set_option maxRecDepth 20000 in
theorem ggX6_sheet_X6_noSheet : GoodIn wsX6_sheet wsX6_noSheet := goodIn_r _ [8, 9, 10, 11, 7, 12] (by decide +kernel) (by decide +kernel)
set_option maxRecDepth 20000 in
theorem gX6_sheet_X6_noSheet : GoodIn wsX6_sheet (va_wsS RX6 193 yX6_noSheet wsX6_noSheet) := goodIn_app (goodIn_of _ (by decide +kernel)) ggX6_sheet_X6_noSheet
set_option maxRecDepth 20000 in
theorem ggX6_sheet_X6_refused : GoodIn wsX6_sheet wsX6_refused := goodIn_r _ [16, 17, 22, 23, 24, 25, 26, 27, 28, 29, 30, 31, 32, 33, 34, 35, 36, 37, 38, 39, 40, 41, 42, 43, 44] (by decide +kernel) (by decide +kernel)
set_option maxRecDepth 20000 in
theorem gX6_sheet_X6_refused : GoodIn wsX6_sheet (wsV RX6 196 RX6 yX6_refused wsX6_refused) := goodIn_app (goodIn_of _ (by decide +kernel)) ggX6_sheet_X6_refused
set_option maxRecDepth 20000 in
theorem ggX6_sheet_X6_in : GoodIn wsX6_sheet wsX6_in := goodIn_r _ [12] (by decide +kernel) (by decide +kernel)
set_option maxRecDepth 20000 in
theorem gX6_sheet_X6_in : GoodIn wsX6_sheet (va_wsS RX6 70 yX6_in wsX6_in) := goodIn_app (goodIn_of _ (by decide +kernel)) ggX6_sheet_X6_in
set_option maxRecDepth 20000 in
theorem ggX6_sheet_X6_failed : GoodIn wsX6_sheet wsX6_failed := goodIn_r _ [21, 17, 22, 23, 24, 25, 26, 27, 28, 29, 30, 31, 32, 33, 34, 35, 36, 37, 38, 39, 40, 41, 42, 43, 44] (by decide +kernel) (by decide +kernel)
set_option maxRecDepth 20000 in
theorem gX6_sheet_X6_failed : GoodIn wsX6_sheet (wsV RX6 201 RX6 yX6_failed wsX6_failed) := goodIn_app (goodIn_of _ (by decide +kernel)) ggX6_sheet_X6_failed
theorem dX6_sheet_0 : decode cX6_sheet 0 = .ok (.iload_n 1, 1) := by decide +kernel
theorem dX6_sheet_1 : decode cX6_sheet 1 = .ok (.invokestatic 193, 3) := by decide +kernel
theorem dX6_sheet_4 : decode cX6_sheet 4 = .ok (.ifCond .eq 9, 3) := by decide +kernel
theorem dX6_sheet_7 : decode cX6_sheet 7 = .ok (.aload_n 0, 1) := by decide +kernel
theorem dX6_sheet_8 : decode cX6_sheet 8 = .ok (.iconst (-1), 1) := by decide +kernel
theorem dX6_sheet_9 : decode cX6_sheet 9 = .ok (.invokevirtual 196, 3) := by decide +kernel
theorem dX6_sheet_12 : decode cX6_sheet 12 = .ok (.ireturn, 1) := by decide +kernel
theorem dX6_sheet_13 : decode cX6_sheet 13 = .ok (.iload_n 2, 1) := by decide +kernel
theorem dX6_sheet_14 : decode cX6_sheet 14 = .ok (.i2l, 1) := by decide +kernel
theorem dX6_sheet_15 : decode cX6_sheet 15 = .ok (.lconst 0, 1) := by decide +kernel
theorem dX6_sheet_16 : decode cX6_sheet 16 = .ok (.ldc2_w 199, 3) := by decide +kernel
theorem dX6_sheet_19 : decode cX6_sheet 19 = .ok (.invokestatic 70, 3) := by decide +kernel
theorem dX6_sheet_22 : decode cX6_sheet 22 = .ok (.ifCond .eq 9, 3) := by decide +kernel
theorem dX6_sheet_25 : decode cX6_sheet 25 = .ok (.iload_n 3, 1) := by decide +kernel
theorem dX6_sheet_26 : decode cX6_sheet 26 = .ok (.bipush 50, 2) := by decide +kernel
theorem dX6_sheet_28 : decode cX6_sheet 28 = .ok (.if_icmp .le 10, 3) := by decide +kernel
theorem dX6_sheet_31 : decode cX6_sheet 31 = .ok (.aload_n 0, 1) := by decide +kernel
theorem dX6_sheet_32 : decode cX6_sheet 32 = .ok (.bipush (-2), 2) := by decide +kernel
theorem dX6_sheet_34 : decode cX6_sheet 34 = .ok (.invokevirtual 196, 3) := by decide +kernel
theorem dX6_sheet_37 : decode cX6_sheet 37 = .ok (.ireturn, 1) := by decide +kernel
theorem dX6_sheet_38 : decode cX6_sheet 38 = .ok (.iload_n 3, 1) := by decide +kernel
theorem dX6_sheet_39 : decode cX6_sheet 39 = .ok (.ifCond .ge 9, 3) := by decide +kernel
theorem dX6_sheet_42 : decode cX6_sheet 42 = .ok (.aload_n 0, 1) := by decide +kernel
theorem dX6_sheet_43 : decode cX6_sheet 43 = .ok (.iconst 4, 1) := by decide +kernel
theorem dX6_sheet_44 : decode cX6_sheet 44 = .ok (.invokevirtual 201, 3) := by decide +kernel
theorem dX6_sheet_47 : decode cX6_sheet 47 = .ok (.ireturn, 1) := by decide +kernel
theorem dX6_sheet_48 : decode cX6_sheet 48 = .ok (.aload_n 0, 1) := by decide +kernel
theorem dX6_sheet_49 : decode cX6_sheet 49 = .ok (.getfield 35, 3) := by decide +kernel
theorem dX6_sheet_52 : decode cX6_sheet 52 = .ok (.iload_n 1, 1) := by decide +kernel
theorem dX6_sheet_53 : decode cX6_sheet 53 = .ok (.iload_n 3, 1) := by decide +kernel
theorem dX6_sheet_54 : decode cX6_sheet 54 = .ok (.iastore, 1) := by decide +kernel
theorem dX6_sheet_55 : decode cX6_sheet 55 = .ok (.aload_n 0, 1) := by decide +kernel
theorem dX6_sheet_56 : decode cX6_sheet 56 = .ok (.getfield 38, 3) := by decide +kernel
theorem dX6_sheet_59 : decode cX6_sheet 59 = .ok (.iload_n 1, 1) := by decide +kernel
theorem dX6_sheet_60 : decode cX6_sheet 60 = .ok (.iload_n 2, 1) := by decide +kernel
theorem dX6_sheet_61 : decode cX6_sheet 61 = .ok (.iastore, 1) := by decide +kernel
theorem dX6_sheet_62 : decode cX6_sheet 62 = .ok (.iconst 0, 1) := by decide +kernel
theorem dX6_sheet_63 : decode cX6_sheet 63 = .ok (.istore 4, 2) := by decide +kernel
theorem dX6_sheet_65 : decode cX6_sheet 65 = .ok (.iload 4, 2) := by decide +kernel
theorem dX6_sheet_67 : decode cX6_sheet 67 = .ok (.iload_n 3, 1) := by decide +kernel
theorem dX6_sheet_68 : decode cX6_sheet 68 = .ok (.if_icmp .ge 22, 3) := by decide +kernel
theorem dX6_sheet_71 : decode cX6_sheet 71 = .ok (.aload_n 0, 1) := by decide +kernel
theorem dX6_sheet_72 : decode cX6_sheet 72 = .ok (.getfield 41, 3) := by decide +kernel
theorem dX6_sheet_75 : decode cX6_sheet 75 = .ok (.bipush 50, 2) := by decide +kernel
theorem dX6_sheet_77 : decode cX6_sheet 77 = .ok (.iload_n 1, 1) := by decide +kernel
theorem dX6_sheet_78 : decode cX6_sheet 78 = .ok (.imul, 1) := by decide +kernel
theorem dX6_sheet_79 : decode cX6_sheet 79 = .ok (.iload 4, 2) := by decide +kernel
theorem dX6_sheet_81 : decode cX6_sheet 81 = .ok (.iadd, 1) := by decide +kernel
theorem dX6_sheet_82 : decode cX6_sheet 82 = .ok (.iconst 0, 1) := by decide +kernel
theorem dX6_sheet_83 : decode cX6_sheet 83 = .ok (.iastore, 1) := by decide +kernel
theorem dX6_sheet_84 : decode cX6_sheet 84 = .ok (.iinc 4 1, 3) := by decide +kernel
theorem dX6_sheet_87 : decode cX6_sheet 87 = .ok (.goto (-22), 3) := by decide +kernel
theorem dX6_sheet_90 : decode cX6_sheet 90 = .ok (.aload_n 0, 1) := by decide +kernel
theorem dX6_sheet_91 : decode cX6_sheet 91 = .ok (.iconst 1, 1) := by decide +kernel
theorem dX6_sheet_92 : decode cX6_sheet 92 = .ok (.invokevirtual 196, 3) := by decide +kernel
theorem dX6_sheet_95 : decode cX6_sheet 95 = .ok (.ireturn, 1) := by decide +kernel
set_option maxRecDepth 20000 in
theorem ggX6_lose_X6_noSheet : GoodIn wsX6_lose wsX6_noSheet := goodIn_r _ [5, 6, 7, 8, 4, 9] (by decide +kernel) (by decide +kernel)
set_option maxRecDepth 20000 in
theorem gX6_lose_X6_noSheet : GoodIn wsX6_lose (va_wsS RX6 193 yX6_noSheet wsX6_noSheet) := goodIn_app (goodIn_of _ (by decide +kernel)) ggX6_lose_X6_noSheet
theorem dX6_lose_0 : decode cX6_lose 0 = .ok (.iload_n 1, 1) := by decide +kernel
theorem dX6_lose_1 : decode cX6_lose 1 = .ok (.invokestatic 193, 3) := by decide +kernel
theorem dX6_lose_4 : decode cX6_lose 4 = .ok (.ifCond .eq 5, 3) := by decide +kernel
theorem dX6_lose_7 : decode cX6_lose 7 = .ok (.iconst (-1), 1) := by decide +kernel
theorem dX6_lose_8 : decode cX6_lose 8 = .ok (.ireturn, 1) := by decide +kernel
theorem dX6_lose_9 : decode cX6_lose 9 = .ok (.aload_n 0, 1) := by decide +kernel
theorem dX6_lose_10 : decode cX6_lose 10 = .ok (.getfield 35, 3) := by decide +kernel
theorem dX6_lose_13 : decode cX6_lose 13 = .ok (.iload_n 1, 1) := by decide +kernel
theorem dX6_lose_14 : decode cX6_lose 14 = .ok (.iaload, 1) := by decide +kernel
theorem dX6_lose_15 : decode cX6_lose 15 = .ok (.ifCond .ge 7, 3) := by decide +kernel
theorem dX6_lose_18 : decode cX6_lose 18 = .ok (.iconst 0, 1) := by decide +kernel
theorem dX6_lose_19 : decode cX6_lose 19 = .ok (.goto 4, 3) := by decide +kernel
theorem dX6_lose_22 : decode cX6_lose 22 = .ok (.iconst 1, 1) := by decide +kernel
theorem dX6_lose_23 : decode cX6_lose 23 = .ok (.istore_n 2, 1) := by decide +kernel
theorem dX6_lose_24 : decode cX6_lose 24 = .ok (.aload_n 0, 1) := by decide +kernel
theorem dX6_lose_25 : decode cX6_lose 25 = .ok (.getfield 35, 3) := by decide +kernel
theorem dX6_lose_28 : decode cX6_lose 28 = .ok (.iload_n 1, 1) := by decide +kernel
theorem dX6_lose_29 : decode cX6_lose 29 = .ok (.iconst (-1), 1) := by decide +kernel
theorem dX6_lose_30 : decode cX6_lose 30 = .ok (.iastore, 1) := by decide +kernel
theorem dX6_lose_31 : decode cX6_lose 31 = .ok (.iload_n 2, 1) := by decide +kernel
theorem dX6_lose_32 : decode cX6_lose 32 = .ok (.ireturn, 1) := by decide +kernel
set_option maxRecDepth 20000 in
theorem ggX6_noCell_X6_in : GoodIn wsX6_noCell wsX6_in := goodIn_r _ [5] (by decide +kernel) (by decide +kernel)
set_option maxRecDepth 20000 in
theorem gX6_noCell_X6_in : GoodIn wsX6_noCell (va_wsS RX6 70 yX6_in wsX6_in) := goodIn_app (goodIn_of _ (by decide +kernel)) ggX6_noCell_X6_in
theorem dX6_noCell_0 : decode cX6_noCell 0 = .ok (.aload_n 0, 1) := by decide +kernel
theorem dX6_noCell_1 : decode cX6_noCell 1 = .ok (.getfield 35, 3) := by decide +kernel
theorem dX6_noCell_4 : decode cX6_noCell 4 = .ok (.iload_n 1, 1) := by decide +kernel
theorem dX6_noCell_5 : decode cX6_noCell 5 = .ok (.iaload, 1) := by decide +kernel
theorem dX6_noCell_6 : decode cX6_noCell 6 = .ok (.ifCond .ge 7, 3) := by decide +kernel
theorem dX6_noCell_9 : decode cX6_noCell 9 = .ok (.iconst 1, 1) := by decide +kernel
theorem dX6_noCell_10 : decode cX6_noCell 10 = .ok (.goto 26, 3) := by decide +kernel
theorem dX6_noCell_13 : decode cX6_noCell 13 = .ok (.iload_n 2, 1) := by decide +kernel
theorem dX6_noCell_14 : decode cX6_noCell 14 = .ok (.i2l, 1) := by decide +kernel
theorem dX6_noCell_15 : decode cX6_noCell 15 = .ok (.lconst 0, 1) := by decide +kernel
theorem dX6_noCell_16 : decode cX6_noCell 16 = .ok (.aload_n 0, 1) := by decide +kernel
theorem dX6_noCell_17 : decode cX6_noCell 17 = .ok (.getfield 35, 3) := by decide +kernel
theorem dX6_noCell_20 : decode cX6_noCell 20 = .ok (.iload_n 1, 1) := by decide +kernel
theorem dX6_noCell_21 : decode cX6_noCell 21 = .ok (.iaload, 1) := by decide +kernel
theorem dX6_noCell_22 : decode cX6_noCell 22 = .ok (.i2l, 1) := by decide +kernel
theorem dX6_noCell_23 : decode cX6_noCell 23 = .ok (.lconst 1, 1) := by decide +kernel
theorem dX6_noCell_24 : decode cX6_noCell 24 = .ok (.lsub, 1) := by decide +kernel
theorem dX6_noCell_25 : decode cX6_noCell 25 = .ok (.invokestatic 70, 3) := by decide +kernel
theorem dX6_noCell_28 : decode cX6_noCell 28 = .ok (.ifCond .eq 7, 3) := by decide +kernel
theorem dX6_noCell_31 : decode cX6_noCell 31 = .ok (.iconst 0, 1) := by decide +kernel
theorem dX6_noCell_32 : decode cX6_noCell 32 = .ok (.goto 4, 3) := by decide +kernel
theorem dX6_noCell_35 : decode cX6_noCell 35 = .ok (.iconst 3, 1) := by decide +kernel
theorem dX6_noCell_36 : decode cX6_noCell 36 = .ok (.ireturn, 1) := by decide +kernel
set_option maxRecDepth 20000 in
theorem ggX6_put_X6_noSheet : GoodIn wsX6_put wsX6_noSheet := goodIn_r _ [6, 7, 8, 9, 5, 10] (by decide +kernel) (by decide +kernel)
set_option maxRecDepth 20000 in
theorem gX6_put_X6_noSheet : GoodIn wsX6_put (va_wsS RX6 193 yX6_noSheet wsX6_noSheet) := goodIn_app (goodIn_of _ (by decide +kernel)) ggX6_put_X6_noSheet
set_option maxRecDepth 20000 in
theorem ggX6_put_X6_refused : GoodIn wsX6_put wsX6_refused := goodIn_r _ [14, 15, 25, 26, 27, 28, 29, 30, 31, 32, 33, 34, 35, 36, 37, 38, 39, 40, 41, 42, 43, 44, 45, 46, 47] (by decide +kernel) (by decide +kernel)
set_option maxRecDepth 20000 in
theorem gX6_put_X6_refused : GoodIn wsX6_put (wsV RX6 196 RX6 yX6_refused wsX6_refused) := goodIn_app (goodIn_of _ (by decide +kernel)) ggX6_put_X6_refused
set_option maxRecDepth 20000 in
theorem ggX6_put_X6_noCell : GoodIn wsX6_put wsX6_noCell := goodIn_r _ [19, 20, 8, 9, 5, 10, 25, 26, 27, 28, 29, 30, 31, 32, 33, 34, 35, 36, 37, 38, 39, 40, 41, 42, 43, 44, 45, 46, 47] (by decide +kernel) (by decide +kernel)
set_option maxRecDepth 20000 in
theorem gX6_put_X6_noCell : GoodIn wsX6_put (wsV RX6 204 RX6 yX6_noCell wsX6_noCell) := goodIn_app (goodIn_of _ (by decide +kernel)) ggX6_put_X6_noCell
set_option maxRecDepth 20000 in
theorem ggX6_put_X6_failed : GoodIn wsX6_put wsX6_failed := goodIn_r _ [24, 15, 25, 26, 27, 28, 29, 30, 31, 32, 33, 34, 35, 36, 37, 38, 39, 40, 41, 42, 43, 44, 45, 46, 47] (by decide +kernel) (by decide +kernel)
set_option maxRecDepth 20000 in
theorem gX6_put_X6_failed : GoodIn wsX6_put (wsV RX6 201 RX6 yX6_failed wsX6_failed) := goodIn_app (goodIn_of _ (by decide +kernel)) ggX6_put_X6_failed
theorem dX6_put_0 : decode cX6_put 0 = .ok (.iload_n 1, 1) := by decide +kernel
theorem dX6_put_1 : decode cX6_put 1 = .ok (.invokestatic 193, 3) := by decide +kernel
theorem dX6_put_4 : decode cX6_put 4 = .ok (.ifCond .eq 9, 3) := by decide +kernel
theorem dX6_put_7 : decode cX6_put 7 = .ok (.aload_n 0, 1) := by decide +kernel
theorem dX6_put_8 : decode cX6_put 8 = .ok (.iconst (-1), 1) := by decide +kernel
theorem dX6_put_9 : decode cX6_put 9 = .ok (.invokevirtual 196, 3) := by decide +kernel
theorem dX6_put_12 : decode cX6_put 12 = .ok (.ireturn, 1) := by decide +kernel
theorem dX6_put_13 : decode cX6_put 13 = .ok (.aload_n 0, 1) := by decide +kernel
theorem dX6_put_14 : decode cX6_put 14 = .ok (.iload_n 1, 1) := by decide +kernel
theorem dX6_put_15 : decode cX6_put 15 = .ok (.iload_n 2, 1) := by decide +kernel
theorem dX6_put_16 : decode cX6_put 16 = .ok (.invokevirtual 204, 3) := by decide +kernel
theorem dX6_put_19 : decode cX6_put 19 = .ok (.ifCond .le 14, 3) := by decide +kernel
theorem dX6_put_22 : decode cX6_put 22 = .ok (.aload_n 0, 1) := by decide +kernel
theorem dX6_put_23 : decode cX6_put 23 = .ok (.aload_n 0, 1) := by decide +kernel
theorem dX6_put_24 : decode cX6_put 24 = .ok (.iload_n 1, 1) := by decide +kernel
theorem dX6_put_25 : decode cX6_put 25 = .ok (.iload_n 2, 1) := by decide +kernel
theorem dX6_put_26 : decode cX6_put 26 = .ok (.invokevirtual 204, 3) := by decide +kernel
theorem dX6_put_29 : decode cX6_put 29 = .ok (.invokevirtual 201, 3) := by decide +kernel
theorem dX6_put_32 : decode cX6_put 32 = .ok (.ireturn, 1) := by decide +kernel
theorem dX6_put_33 : decode cX6_put 33 = .ok (.aload_n 0, 1) := by decide +kernel
theorem dX6_put_34 : decode cX6_put 34 = .ok (.getfield 41, 3) := by decide +kernel
theorem dX6_put_37 : decode cX6_put 37 = .ok (.bipush 50, 2) := by decide +kernel
theorem dX6_put_39 : decode cX6_put 39 = .ok (.iload_n 1, 1) := by decide +kernel
theorem dX6_put_40 : decode cX6_put 40 = .ok (.imul, 1) := by decide +kernel
theorem dX6_put_41 : decode cX6_put 41 = .ok (.iload_n 2, 1) := by decide +kernel
theorem dX6_put_42 : decode cX6_put 42 = .ok (.iadd, 1) := by decide +kernel
theorem dX6_put_43 : decode cX6_put 43 = .ok (.aload_n 0, 1) := by decide +kernel
theorem dX6_put_44 : decode cX6_put 44 = .ok (.getfield 38, 3) := by decide +kernel
theorem dX6_put_47 : decode cX6_put 47 = .ok (.iload_n 1, 1) := by decide +kernel
theorem dX6_put_48 : decode cX6_put 48 = .ok (.iaload, 1) := by decide +kernel
theorem dX6_put_49 : decode cX6_put 49 = .ok (.ifCond .ne 8, 3) := by decide +kernel
theorem dX6_put_52 : decode cX6_put 52 = .ok (.iload_n 3, 1) := by decide +kernel
theorem dX6_put_53 : decode cX6_put 53 = .ok (.i2b, 1) := by decide +kernel
theorem dX6_put_54 : decode cX6_put 54 = .ok (.goto 19, 3) := by decide +kernel
theorem dX6_put_57 : decode cX6_put 57 = .ok (.aload_n 0, 1) := by decide +kernel
theorem dX6_put_58 : decode cX6_put 58 = .ok (.getfield 38, 3) := by decide +kernel
theorem dX6_put_61 : decode cX6_put 61 = .ok (.iload_n 1, 1) := by decide +kernel
theorem dX6_put_62 : decode cX6_put 62 = .ok (.iaload, 1) := by decide +kernel
theorem dX6_put_63 : decode cX6_put 63 = .ok (.iconst 1, 1) := by decide +kernel
theorem dX6_put_64 : decode cX6_put 64 = .ok (.if_icmp .ne 8, 3) := by decide +kernel
theorem dX6_put_67 : decode cX6_put 67 = .ok (.iload_n 3, 1) := by decide +kernel
theorem dX6_put_68 : decode cX6_put 68 = .ok (.i2s, 1) := by decide +kernel
theorem dX6_put_69 : decode cX6_put 69 = .ok (.goto 4, 3) := by decide +kernel
theorem dX6_put_72 : decode cX6_put 72 = .ok (.iload_n 3, 1) := by decide +kernel
theorem dX6_put_73 : decode cX6_put 73 = .ok (.iastore, 1) := by decide +kernel
theorem dX6_put_74 : decode cX6_put 74 = .ok (.aload_n 0, 1) := by decide +kernel
theorem dX6_put_75 : decode cX6_put 75 = .ok (.iconst 1, 1) := by decide +kernel
theorem dX6_put_76 : decode cX6_put 76 = .ok (.invokevirtual 196, 3) := by decide +kernel
theorem dX6_put_79 : decode cX6_put 79 = .ok (.ireturn, 1) := by decide +kernel
set_option maxRecDepth 20000 in
theorem ggX6_cell_X6_noSheet : GoodIn wsX6_cell wsX6_noSheet := goodIn_r _ [9, 10, 11, 12, 8, 13] (by decide +kernel) (by decide +kernel)
set_option maxRecDepth 20000 in
theorem gX6_cell_X6_noSheet : GoodIn wsX6_cell (va_wsS RX6 193 yX6_noSheet wsX6_noSheet) := goodIn_app (goodIn_of _ (by decide +kernel)) ggX6_cell_X6_noSheet
set_option maxRecDepth 20000 in
theorem ggX6_cell_X6_in : GoodIn wsX6_cell wsX6_in := goodIn_r _ [13] (by decide +kernel) (by decide +kernel)
set_option maxRecDepth 20000 in
theorem gX6_cell_X6_in : GoodIn wsX6_cell (va_wsS RX6 70 yX6_in wsX6_in) := goodIn_app (goodIn_of _ (by decide +kernel)) ggX6_cell_X6_in
set_option maxRecDepth 20000 in
theorem ggX6_cell_X6_lost : GoodIn wsX6_cell wsX6_lost := goodIn_r _ [16, 17] (by decide +kernel) (by decide +kernel)
set_option maxRecDepth 20000 in
theorem gX6_cell_X6_lost : GoodIn wsX6_cell (va_wsS RX6 59 yX6_lost wsX6_lost) := goodIn_app (goodIn_of _ (by decide +kernel)) ggX6_cell_X6_lost
set_option maxRecDepth 20000 in
theorem ggX6_cell_X6_failedLong : GoodIn wsX6_cell wsX6_failedLong := goodIn_r _ [21, 1, 14, 15, 8, 16, 17, 26, 27, 28, 29, 30, 31, 32, 33, 34, 35, 36, 37, 38, 39, 40, 41, 42, 43, 44, 45, 46, 47, 48] (by decide +kernel) (by decide +kernel)
set_option maxRecDepth 20000 in
theorem gX6_cell_X6_failedLong : GoodIn wsX6_cell (wsV RX6 207 RX6 yX6_failedLong wsX6_failedLong) := goodIn_app (goodIn_of _ (by decide +kernel)) ggX6_cell_X6_failedLong
set_option maxRecDepth 20000 in
theorem ggX6_cell_X6_noCell : GoodIn wsX6_cell wsX6_noCell := goodIn_r _ [25, 3, 11, 12, 8, 13, 26, 27, 28, 29, 30, 31, 32, 33, 34, 35, 36, 37, 38, 39, 40, 41, 42, 43, 44, 45, 46, 47, 48] (by decide +kernel) (by decide +kernel)
set_option maxRecDepth 20000 in
theorem gX6_cell_X6_noCell : GoodIn wsX6_cell (wsV RX6 204 RX6 yX6_noCell wsX6_noCell) := goodIn_app (goodIn_of _ (by decide +kernel)) ggX6_cell_X6_noCell
theorem dX6_cell_0 : decode cX6_cell 0 = .ok (.aload_n 0, 1) := by decide +kernel
theorem dX6_cell_1 : decode cX6_cell 1 = .ok (.iconst 0, 1) := by decide +kernel
theorem dX6_cell_2 : decode cX6_cell 2 = .ok (.putfield 56, 3) := by decide +kernel
theorem dX6_cell_5 : decode cX6_cell 5 = .ok (.iload_n 1, 1) := by decide +kernel
theorem dX6_cell_6 : decode cX6_cell 6 = .ok (.invokestatic 193, 3) := by decide +kernel
theorem dX6_cell_9 : decode cX6_cell 9 = .ok (.ifCond .ne 15, 3) := by decide +kernel
theorem dX6_cell_12 : decode cX6_cell 12 = .ok (.iload_n 3, 1) := by decide +kernel
theorem dX6_cell_13 : decode cX6_cell 13 = .ok (.i2l, 1) := by decide +kernel
theorem dX6_cell_14 : decode cX6_cell 14 = .ok (.lconst 0, 1) := by decide +kernel
theorem dX6_cell_15 : decode cX6_cell 15 = .ok (.ldc2_w 199, 3) := by decide +kernel
theorem dX6_cell_18 : decode cX6_cell 18 = .ok (.invokestatic 70, 3) := by decide +kernel
theorem dX6_cell_21 : decode cX6_cell 21 = .ok (.ifCond .ne 7, 3) := by decide +kernel
theorem dX6_cell_24 : decode cX6_cell 24 = .ok (.invokestatic 59, 3) := by decide +kernel
theorem dX6_cell_27 : decode cX6_cell 27 = .ok (.lreturn, 1) := by decide +kernel
theorem dX6_cell_28 : decode cX6_cell 28 = .ok (.aload_n 0, 1) := by decide +kernel
theorem dX6_cell_29 : decode cX6_cell 29 = .ok (.getfield 35, 3) := by decide +kernel
theorem dX6_cell_32 : decode cX6_cell 32 = .ok (.iload_n 1, 1) := by decide +kernel
theorem dX6_cell_33 : decode cX6_cell 33 = .ok (.iaload, 1) := by decide +kernel
theorem dX6_cell_34 : decode cX6_cell 34 = .ok (.ifCond .lt 19, 3) := by decide +kernel
theorem dX6_cell_37 : decode cX6_cell 37 = .ok (.aload_n 0, 1) := by decide +kernel
theorem dX6_cell_38 : decode cX6_cell 38 = .ok (.getfield 38, 3) := by decide +kernel
theorem dX6_cell_41 : decode cX6_cell 41 = .ok (.iload_n 1, 1) := by decide +kernel
theorem dX6_cell_42 : decode cX6_cell 42 = .ok (.iaload, 1) := by decide +kernel
theorem dX6_cell_43 : decode cX6_cell 43 = .ok (.iload_n 3, 1) := by decide +kernel
theorem dX6_cell_44 : decode cX6_cell 44 = .ok (.if_icmp .eq 9, 3) := by decide +kernel
theorem dX6_cell_47 : decode cX6_cell 47 = .ok (.aload_n 0, 1) := by decide +kernel
theorem dX6_cell_48 : decode cX6_cell 48 = .ok (.iconst 2, 1) := by decide +kernel
theorem dX6_cell_49 : decode cX6_cell 49 = .ok (.invokevirtual 207, 3) := by decide +kernel
theorem dX6_cell_52 : decode cX6_cell 52 = .ok (.lreturn, 1) := by decide +kernel
theorem dX6_cell_53 : decode cX6_cell 53 = .ok (.aload_n 0, 1) := by decide +kernel
theorem dX6_cell_54 : decode cX6_cell 54 = .ok (.iload_n 1, 1) := by decide +kernel
theorem dX6_cell_55 : decode cX6_cell 55 = .ok (.iload_n 2, 1) := by decide +kernel
theorem dX6_cell_56 : decode cX6_cell 56 = .ok (.invokevirtual 204, 3) := by decide +kernel
theorem dX6_cell_59 : decode cX6_cell 59 = .ok (.ifCond .le 16, 3) := by decide +kernel
theorem dX6_cell_62 : decode cX6_cell 62 = .ok (.aload_n 0, 1) := by decide +kernel
theorem dX6_cell_63 : decode cX6_cell 63 = .ok (.aload_n 0, 1) := by decide +kernel
theorem dX6_cell_64 : decode cX6_cell 64 = .ok (.iload_n 1, 1) := by decide +kernel
theorem dX6_cell_65 : decode cX6_cell 65 = .ok (.iload_n 2, 1) := by decide +kernel
theorem dX6_cell_66 : decode cX6_cell 66 = .ok (.invokevirtual 204, 3) := by decide +kernel
theorem dX6_cell_69 : decode cX6_cell 69 = .ok (.invokevirtual 207, 3) := by decide +kernel
theorem dX6_cell_72 : decode cX6_cell 72 = .ok (.goto 15, 3) := by decide +kernel
theorem dX6_cell_75 : decode cX6_cell 75 = .ok (.aload_n 0, 1) := by decide +kernel
theorem dX6_cell_76 : decode cX6_cell 76 = .ok (.getfield 41, 3) := by decide +kernel
theorem dX6_cell_79 : decode cX6_cell 79 = .ok (.bipush 50, 2) := by decide +kernel
theorem dX6_cell_81 : decode cX6_cell 81 = .ok (.iload_n 1, 1) := by decide +kernel
theorem dX6_cell_82 : decode cX6_cell 82 = .ok (.imul, 1) := by decide +kernel
theorem dX6_cell_83 : decode cX6_cell 83 = .ok (.iload_n 2, 1) := by decide +kernel
theorem dX6_cell_84 : decode cX6_cell 84 = .ok (.iadd, 1) := by decide +kernel
theorem dX6_cell_85 : decode cX6_cell 85 = .ok (.iaload, 1) := by decide +kernel
theorem dX6_cell_86 : decode cX6_cell 86 = .ok (.i2l, 1) := by decide +kernel
theorem dX6_cell_87 : decode cX6_cell 87 = .ok (.lreturn, 1) := by decide +kernel
theorem dX6_isBeyond_0 : decode cX6_isBeyond 0 = .ok (.iload_n 0, 1) := by decide +kernel
theorem dX6_isBeyond_1 : decode cX6_isBeyond 1 = .ok (.ifCond .lt 19, 3) := by decide +kernel
theorem dX6_isBeyond_4 : decode cX6_isBeyond 4 = .ok (.lload_n 1, 1) := by decide +kernel
theorem dX6_isBeyond_5 : decode cX6_isBeyond 5 = .ok (.lconst 0, 1) := by decide +kernel
theorem dX6_isBeyond_6 : decode cX6_isBeyond 6 = .ok (.lcmp, 1) := by decide +kernel
theorem dX6_isBeyond_7 : decode cX6_isBeyond 7 = .ok (.ifCond .lt 13, 3) := by decide +kernel
theorem dX6_isBeyond_10 : decode cX6_isBeyond 10 = .ok (.iload_n 0, 1) := by decide +kernel
theorem dX6_isBeyond_11 : decode cX6_isBeyond 11 = .ok (.i2l, 1) := by decide +kernel
theorem dX6_isBeyond_12 : decode cX6_isBeyond 12 = .ok (.lload_n 1, 1) := by decide +kernel
theorem dX6_isBeyond_13 : decode cX6_isBeyond 13 = .ok (.ladd, 1) := by decide +kernel
theorem dX6_isBeyond_14 : decode cX6_isBeyond 14 = .ok (.iload_n 3, 1) := by decide +kernel
theorem dX6_isBeyond_15 : decode cX6_isBeyond 15 = .ok (.i2l, 1) := by decide +kernel
theorem dX6_isBeyond_16 : decode cX6_isBeyond 16 = .ok (.lcmp, 1) := by decide +kernel
theorem dX6_isBeyond_17 : decode cX6_isBeyond 17 = .ok (.ifCond .le 7, 3) := by decide +kernel
theorem dX6_isBeyond_20 : decode cX6_isBeyond 20 = .ok (.iconst 1, 1) := by decide +kernel
theorem dX6_isBeyond_21 : decode cX6_isBeyond 21 = .ok (.goto 4, 3) := by decide +kernel
theorem dX6_isBeyond_24 : decode cX6_isBeyond 24 = .ok (.iconst 0, 1) := by decide +kernel
theorem dX6_isBeyond_25 : decode cX6_isBeyond 25 = .ok (.ireturn, 1) := by decide +kernel
set_option maxRecDepth 20000 in
theorem ggX6_copy_X6_noSheet : GoodIn wsX6_copy wsX6_noSheet := goodIn_r _ [8, 9, 10, 11, 7, 12] (by decide +kernel) (by decide +kernel)
set_option maxRecDepth 20000 in
theorem gX6_copy_X6_noSheet : GoodIn wsX6_copy (va_wsS RX6 193 yX6_noSheet wsX6_noSheet) := goodIn_app (goodIn_of _ (by decide +kernel)) ggX6_copy_X6_noSheet
set_option maxRecDepth 20000 in
theorem ggX6_copy_X6_refused : GoodIn wsX6_copy wsX6_refused := goodIn_r _ [16, 17, 25, 26, 27, 28, 29, 30, 31, 32, 33, 34, 35, 36, 37, 38, 39, 40, 41, 42, 43, 44, 45, 46, 47] (by decide +kernel) (by decide +kernel)
set_option maxRecDepth 20000 in
theorem gX6_copy_X6_refused : GoodIn wsX6_copy (wsV RX6 196 RX6 yX6_refused wsX6_refused) := goodIn_app (goodIn_of _ (by decide +kernel)) ggX6_copy_X6_refused
set_option maxRecDepth 20000 in
theorem ggX6_copy_X6_failed : GoodIn wsX6_copy wsX6_failed := goodIn_r _ [21, 17, 25, 26, 27, 28, 29, 30, 31, 32, 33, 34, 35, 36, 37, 38, 39, 40, 41, 42, 43, 44, 45, 46, 47] (by decide +kernel) (by decide +kernel)
set_option maxRecDepth 20000 in
theorem gX6_copy_X6_failed : GoodIn wsX6_copy (wsV RX6 201 RX6 yX6_failed wsX6_failed) := goodIn_app (goodIn_of _ (by decide +kernel)) ggX6_copy_X6_failed
set_option maxRecDepth 20000 in
theorem ggX6_copy_X6_isBeyond : GoodIn wsX6_copy wsX6_isBeyond := goodIn_r _ [24] (by decide +kernel) (by decide +kernel)
set_option maxRecDepth 20000 in
theorem gX6_copy_X6_isBeyond : GoodIn wsX6_copy (va_wsS RX6 211 yX6_isBeyond wsX6_isBeyond) := goodIn_app (goodIn_of _ (by decide +kernel)) ggX6_copy_X6_isBeyond
theorem dX6_copy_0 : decode cX6_copy 0 = .ok (.iload_n 1, 1) := by decide +kernel
theorem dX6_copy_1 : decode cX6_copy 1 = .ok (.invokestatic 193, 3) := by decide +kernel
theorem dX6_copy_4 : decode cX6_copy 4 = .ok (.ifCond .ne 10, 3) := by decide +kernel
theorem dX6_copy_7 : decode cX6_copy 7 = .ok (.iload_n 3, 1) := by decide +kernel
theorem dX6_copy_8 : decode cX6_copy 8 = .ok (.invokestatic 193, 3) := by decide +kernel
theorem dX6_copy_11 : decode cX6_copy 11 = .ok (.ifCond .eq 9, 3) := by decide +kernel
theorem dX6_copy_14 : decode cX6_copy 14 = .ok (.aload_n 0, 1) := by decide +kernel
theorem dX6_copy_15 : decode cX6_copy 15 = .ok (.iconst (-1), 1) := by decide +kernel
theorem dX6_copy_16 : decode cX6_copy 16 = .ok (.invokevirtual 196, 3) := by decide +kernel
theorem dX6_copy_19 : decode cX6_copy 19 = .ok (.ireturn, 1) := by decide +kernel
theorem dX6_copy_20 : decode cX6_copy 20 = .ok (.aload_n 0, 1) := by decide +kernel
theorem dX6_copy_21 : decode cX6_copy 21 = .ok (.getfield 35, 3) := by decide +kernel
theorem dX6_copy_24 : decode cX6_copy 24 = .ok (.iload_n 1, 1) := by decide +kernel
theorem dX6_copy_25 : decode cX6_copy 25 = .ok (.iaload, 1) := by decide +kernel
theorem dX6_copy_26 : decode cX6_copy 26 = .ok (.ifCond .lt 12, 3) := by decide +kernel
theorem dX6_copy_29 : decode cX6_copy 29 = .ok (.aload_n 0, 1) := by decide +kernel
theorem dX6_copy_30 : decode cX6_copy 30 = .ok (.getfield 35, 3) := by decide +kernel
theorem dX6_copy_33 : decode cX6_copy 33 = .ok (.iload_n 3, 1) := by decide +kernel
theorem dX6_copy_34 : decode cX6_copy 34 = .ok (.iaload, 1) := by decide +kernel
theorem dX6_copy_35 : decode cX6_copy 35 = .ok (.ifCond .ge 9, 3) := by decide +kernel
theorem dX6_copy_38 : decode cX6_copy 38 = .ok (.aload_n 0, 1) := by decide +kernel
theorem dX6_copy_39 : decode cX6_copy 39 = .ok (.iconst 1, 1) := by decide +kernel
theorem dX6_copy_40 : decode cX6_copy 40 = .ok (.invokevirtual 201, 3) := by decide +kernel
theorem dX6_copy_43 : decode cX6_copy 43 = .ok (.ireturn, 1) := by decide +kernel
theorem dX6_copy_44 : decode cX6_copy 44 = .ok (.aload_n 0, 1) := by decide +kernel
theorem dX6_copy_45 : decode cX6_copy 45 = .ok (.getfield 38, 3) := by decide +kernel
theorem dX6_copy_48 : decode cX6_copy 48 = .ok (.iload_n 1, 1) := by decide +kernel
theorem dX6_copy_49 : decode cX6_copy 49 = .ok (.iaload, 1) := by decide +kernel
theorem dX6_copy_50 : decode cX6_copy 50 = .ok (.aload_n 0, 1) := by decide +kernel
theorem dX6_copy_51 : decode cX6_copy 51 = .ok (.getfield 38, 3) := by decide +kernel
theorem dX6_copy_54 : decode cX6_copy 54 = .ok (.iload_n 3, 1) := by decide +kernel
theorem dX6_copy_55 : decode cX6_copy 55 = .ok (.iaload, 1) := by decide +kernel
theorem dX6_copy_56 : decode cX6_copy 56 = .ok (.if_icmp .eq 9, 3) := by decide +kernel
theorem dX6_copy_59 : decode cX6_copy 59 = .ok (.aload_n 0, 1) := by decide +kernel
theorem dX6_copy_60 : decode cX6_copy 60 = .ok (.iconst 2, 1) := by decide +kernel
theorem dX6_copy_61 : decode cX6_copy 61 = .ok (.invokevirtual 201, 3) := by decide +kernel
theorem dX6_copy_64 : decode cX6_copy 64 = .ok (.ireturn, 1) := by decide +kernel
theorem dX6_copy_65 : decode cX6_copy 65 = .ok (.iload_n 2, 1) := by decide +kernel
theorem dX6_copy_66 : decode cX6_copy 66 = .ok (.iload 5, 2) := by decide +kernel
theorem dX6_copy_68 : decode cX6_copy 68 = .ok (.i2l, 1) := by decide +kernel
theorem dX6_copy_69 : decode cX6_copy 69 = .ok (.aload_n 0, 1) := by decide +kernel
theorem dX6_copy_70 : decode cX6_copy 70 = .ok (.getfield 35, 3) := by decide +kernel
theorem dX6_copy_73 : decode cX6_copy 73 = .ok (.iload_n 1, 1) := by decide +kernel
theorem dX6_copy_74 : decode cX6_copy 74 = .ok (.iaload, 1) := by decide +kernel
theorem dX6_copy_75 : decode cX6_copy 75 = .ok (.invokestatic 211, 3) := by decide +kernel
theorem dX6_copy_78 : decode cX6_copy 78 = .ok (.ifCond .ne 20, 3) := by decide +kernel
theorem dX6_copy_81 : decode cX6_copy 81 = .ok (.iload 4, 2) := by decide +kernel
theorem dX6_copy_83 : decode cX6_copy 83 = .ok (.iload 5, 2) := by decide +kernel
theorem dX6_copy_85 : decode cX6_copy 85 = .ok (.i2l, 1) := by decide +kernel
theorem dX6_copy_86 : decode cX6_copy 86 = .ok (.aload_n 0, 1) := by decide +kernel
theorem dX6_copy_87 : decode cX6_copy 87 = .ok (.getfield 35, 3) := by decide +kernel
theorem dX6_copy_90 : decode cX6_copy 90 = .ok (.iload_n 3, 1) := by decide +kernel
theorem dX6_copy_91 : decode cX6_copy 91 = .ok (.iaload, 1) := by decide +kernel
theorem dX6_copy_92 : decode cX6_copy 92 = .ok (.invokestatic 211, 3) := by decide +kernel
theorem dX6_copy_95 : decode cX6_copy 95 = .ok (.ifCond .eq 9, 3) := by decide +kernel
theorem dX6_copy_98 : decode cX6_copy 98 = .ok (.aload_n 0, 1) := by decide +kernel
theorem dX6_copy_99 : decode cX6_copy 99 = .ok (.iconst 3, 1) := by decide +kernel
theorem dX6_copy_100 : decode cX6_copy 100 = .ok (.invokevirtual 201, 3) := by decide +kernel
theorem dX6_copy_103 : decode cX6_copy 103 = .ok (.ireturn, 1) := by decide +kernel
theorem dX6_copy_104 : decode cX6_copy 104 = .ok (.iconst 0, 1) := by decide +kernel
theorem dX6_copy_105 : decode cX6_copy 105 = .ok (.istore 6, 2) := by decide +kernel
theorem dX6_copy_107 : decode cX6_copy 107 = .ok (.iload 6, 2) := by decide +kernel
theorem dX6_copy_109 : decode cX6_copy 109 = .ok (.iload 5, 2) := by decide +kernel
theorem dX6_copy_111 : decode cX6_copy 111 = .ok (.if_icmp .ge 30, 3) := by decide +kernel
theorem dX6_copy_114 : decode cX6_copy 114 = .ok (.aload_n 0, 1) := by decide +kernel
theorem dX6_copy_115 : decode cX6_copy 115 = .ok (.getfield 44, 3) := by decide +kernel
theorem dX6_copy_118 : decode cX6_copy 118 = .ok (.iload 6, 2) := by decide +kernel
theorem dX6_copy_120 : decode cX6_copy 120 = .ok (.aload_n 0, 1) := by decide +kernel
theorem dX6_copy_121 : decode cX6_copy 121 = .ok (.getfield 41, 3) := by decide +kernel
theorem dX6_copy_124 : decode cX6_copy 124 = .ok (.bipush 50, 2) := by decide +kernel
theorem dX6_copy_126 : decode cX6_copy 126 = .ok (.iload_n 1, 1) := by decide +kernel
theorem dX6_copy_127 : decode cX6_copy 127 = .ok (.imul, 1) := by decide +kernel
theorem dX6_copy_128 : decode cX6_copy 128 = .ok (.iload_n 2, 1) := by decide +kernel
theorem dX6_copy_129 : decode cX6_copy 129 = .ok (.iadd, 1) := by decide +kernel
theorem dX6_copy_130 : decode cX6_copy 130 = .ok (.iload 6, 2) := by decide +kernel
theorem dX6_copy_132 : decode cX6_copy 132 = .ok (.iadd, 1) := by decide +kernel
theorem dX6_copy_133 : decode cX6_copy 133 = .ok (.iaload, 1) := by decide +kernel
theorem dX6_copy_134 : decode cX6_copy 134 = .ok (.iastore, 1) := by decide +kernel
theorem dX6_copy_135 : decode cX6_copy 135 = .ok (.iinc 6 1, 3) := by decide +kernel
theorem dX6_copy_138 : decode cX6_copy 138 = .ok (.goto (-31), 3) := by decide +kernel
theorem dX6_copy_141 : decode cX6_copy 141 = .ok (.iconst 0, 1) := by decide +kernel
theorem dX6_copy_142 : decode cX6_copy 142 = .ok (.istore 6, 2) := by decide +kernel
theorem dX6_copy_144 : decode cX6_copy 144 = .ok (.iload 6, 2) := by decide +kernel
theorem dX6_copy_146 : decode cX6_copy 146 = .ok (.iload 5, 2) := by decide +kernel
theorem dX6_copy_148 : decode cX6_copy 148 = .ok (.if_icmp .ge 31, 3) := by decide +kernel
theorem dX6_copy_151 : decode cX6_copy 151 = .ok (.aload_n 0, 1) := by decide +kernel
theorem dX6_copy_152 : decode cX6_copy 152 = .ok (.getfield 41, 3) := by decide +kernel
theorem dX6_copy_155 : decode cX6_copy 155 = .ok (.bipush 50, 2) := by decide +kernel
theorem dX6_copy_157 : decode cX6_copy 157 = .ok (.iload_n 3, 1) := by decide +kernel
theorem dX6_copy_158 : decode cX6_copy 158 = .ok (.imul, 1) := by decide +kernel
theorem dX6_copy_159 : decode cX6_copy 159 = .ok (.iload 4, 2) := by decide +kernel
theorem dX6_copy_161 : decode cX6_copy 161 = .ok (.iadd, 1) := by decide +kernel
theorem dX6_copy_162 : decode cX6_copy 162 = .ok (.iload 6, 2) := by decide +kernel
theorem dX6_copy_164 : decode cX6_copy 164 = .ok (.iadd, 1) := by decide +kernel
theorem dX6_copy_165 : decode cX6_copy 165 = .ok (.aload_n 0, 1) := by decide +kernel
theorem dX6_copy_166 : decode cX6_copy 166 = .ok (.getfield 44, 3) := by decide +kernel
theorem dX6_copy_169 : decode cX6_copy 169 = .ok (.iload 6, 2) := by decide +kernel
theorem dX6_copy_171 : decode cX6_copy 171 = .ok (.iaload, 1) := by decide +kernel
theorem dX6_copy_172 : decode cX6_copy 172 = .ok (.iastore, 1) := by decide +kernel
theorem dX6_copy_173 : decode cX6_copy 173 = .ok (.iinc 6 1, 3) := by decide +kernel
theorem dX6_copy_176 : decode cX6_copy 176 = .ok (.goto (-32), 3) := by decide +kernel
theorem dX6_copy_179 : decode cX6_copy 179 = .ok (.aload_n 0, 1) := by decide +kernel
theorem dX6_copy_180 : decode cX6_copy 180 = .ok (.iload 5, 2) := by decide +kernel
theorem dX6_copy_182 : decode cX6_copy 182 = .ok (.invokevirtual 196, 3) := by decide +kernel
theorem dX6_copy_185 : decode cX6_copy 185 = .ok (.ireturn, 1) := by decide +kernel
set_option maxRecDepth 20000 in
theorem ggX6_shape_X6_noSheet : GoodIn wsX6_shape wsX6_noSheet := goodIn_r _ [12, 13, 14, 15, 11, 16] (by decide +kernel) (by decide +kernel)
set_option maxRecDepth 20000 in
theorem gX6_shape_X6_noSheet : GoodIn wsX6_shape (va_wsS RX6 193 yX6_noSheet wsX6_noSheet) := goodIn_app (goodIn_of _ (by decide +kernel)) ggX6_shape_X6_noSheet
set_option maxRecDepth 20000 in
theorem ggX6_shape_X6_noSide : GoodIn wsX6_shape wsX6_noSide := goodIn_r _ [20, 21, 22, 23, 11, 24, 25, 26, 27, 28, 29, 30, 14, 15, 16, 48, 49, 50, 51, 52, 53, 54, 55, 56, 57, 58, 59, 60, 61, 62, 63, 64, 65, 66, 67, 68, 69, 70] (by decide +kernel) (by decide +kernel)
set_option maxRecDepth 20000 in
theorem gX6_shape_X6_noSide : GoodIn wsX6_shape (wsV RX6 105 RX6 yX6_noSide wsX6_noSide) := goodIn_app (goodIn_of _ (by decide +kernel)) ggX6_shape_X6_noSide
set_option maxRecDepth 20000 in
theorem ggX6_shape_X6_refused : GoodIn wsX6_shape wsX6_refused := goodIn_r _ [34, 35, 48, 49, 50, 51, 52, 53, 54, 55, 56, 57, 58, 59, 60, 61, 62, 63, 64, 65, 66, 67, 68, 69, 70] (by decide +kernel) (by decide +kernel)
set_option maxRecDepth 20000 in
theorem gX6_shape_X6_refused : GoodIn wsX6_shape (wsV RX6 196 RX6 yX6_refused wsX6_refused) := goodIn_app (goodIn_of _ (by decide +kernel)) ggX6_shape_X6_refused
set_option maxRecDepth 20000 in
theorem ggX6_shape_X6_in : GoodIn wsX6_shape wsX6_in := goodIn_r _ [16] (by decide +kernel) (by decide +kernel)
set_option maxRecDepth 20000 in
theorem gX6_shape_X6_in : GoodIn wsX6_shape (va_wsS RX6 70 yX6_in wsX6_in) := goodIn_app (goodIn_of _ (by decide +kernel)) ggX6_shape_X6_in
set_option maxRecDepth 20000 in
theorem ggX6_shape_X6_failed : GoodIn wsX6_shape wsX6_failed := goodIn_r _ [39, 35, 48, 49, 50, 51, 52, 53, 54, 55, 56, 57, 58, 59, 60, 61, 62, 63, 64, 65, 66, 67, 68, 69, 70] (by decide +kernel) (by decide +kernel)
set_option maxRecDepth 20000 in
theorem gX6_shape_X6_failed : GoodIn wsX6_shape (wsV RX6 201 RX6 yX6_failed wsX6_failed) := goodIn_app (goodIn_of _ (by decide +kernel)) ggX6_shape_X6_failed
set_option maxRecDepth 20000 in
theorem ggX6_shape_X6_isBeyond : GoodIn wsX6_shape wsX6_isBeyond := goodIn_r _ [42] (by decide +kernel) (by decide +kernel)
set_option maxRecDepth 20000 in
theorem gX6_shape_X6_isBeyond : GoodIn wsX6_shape (va_wsS RX6 211 yX6_isBeyond wsX6_isBeyond) := goodIn_app (goodIn_of _ (by decide +kernel)) ggX6_shape_X6_isBeyond
set_option maxRecDepth 20000 in
theorem ggX6_shape_X6_sides : GoodIn wsX6_shape wsX6_sides := goodIn_r _ [24, 25, 26, 27, 28, 29, 11, 30, 48, 49, 50, 51, 52, 53, 54, 55, 56, 57, 58, 59, 60, 61, 62, 63, 64, 65, 66, 67, 68, 69, 70] (by decide +kernel) (by decide +kernel)
set_option maxRecDepth 20000 in
theorem gX6_shape_X6_sides : GoodIn wsX6_shape (wsV RX6 67 RX6 yX6_sides wsX6_sides) := goodIn_app (goodIn_of _ (by decide +kernel)) ggX6_shape_X6_sides
set_option maxRecDepth 20000 in
theorem ggX6_shape_X6_changed : GoodIn wsX6_shape wsX6_changed := goodIn_r _ [46, 47, 48, 49, 50, 51, 52, 53, 54, 55, 56, 57, 58, 59, 60, 61, 62, 63, 64, 65, 66, 67, 68, 69, 70] (by decide +kernel) (by decide +kernel)
set_option maxRecDepth 20000 in
theorem gX6_shape_X6_changed : GoodIn wsX6_shape (wsV RX6 86 RX6 yX6_changed wsX6_changed) := goodIn_app (goodIn_of _ (by decide +kernel)) ggX6_shape_X6_changed
theorem dX6_shape_0 : decode cX6_shape 0 = .ok (.iload_n 1, 1) := by decide +kernel
theorem dX6_shape_1 : decode cX6_shape 1 = .ok (.invokestatic 193, 3) := by decide +kernel
theorem dX6_shape_4 : decode cX6_shape 4 = .ok (.ifCond .ne 12, 3) := by decide +kernel
theorem dX6_shape_7 : decode cX6_shape 7 = .ok (.aload_n 0, 1) := by decide +kernel
theorem dX6_shape_8 : decode cX6_shape 8 = .ok (.iload 5, 2) := by decide +kernel
theorem dX6_shape_10 : decode cX6_shape 10 = .ok (.invokevirtual 105, 3) := by decide +kernel
theorem dX6_shape_13 : decode cX6_shape 13 = .ok (.ifCond .eq 9, 3) := by decide +kernel
theorem dX6_shape_16 : decode cX6_shape 16 = .ok (.aload_n 0, 1) := by decide +kernel
theorem dX6_shape_17 : decode cX6_shape 17 = .ok (.iconst (-1), 1) := by decide +kernel
theorem dX6_shape_18 : decode cX6_shape 18 = .ok (.invokevirtual 196, 3) := by decide +kernel
theorem dX6_shape_21 : decode cX6_shape 21 = .ok (.ireturn, 1) := by decide +kernel
theorem dX6_shape_22 : decode cX6_shape 22 = .ok (.iload_n 2, 1) := by decide +kernel
theorem dX6_shape_23 : decode cX6_shape 23 = .ok (.i2l, 1) := by decide +kernel
theorem dX6_shape_24 : decode cX6_shape 24 = .ok (.lconst 0, 1) := by decide +kernel
theorem dX6_shape_25 : decode cX6_shape 25 = .ok (.ldc2_w 199, 3) := by decide +kernel
theorem dX6_shape_28 : decode cX6_shape 28 = .ok (.invokestatic 70, 3) := by decide +kernel
theorem dX6_shape_31 : decode cX6_shape 31 = .ok (.ifCond .ne 10, 3) := by decide +kernel
theorem dX6_shape_34 : decode cX6_shape 34 = .ok (.aload_n 0, 1) := by decide +kernel
theorem dX6_shape_35 : decode cX6_shape 35 = .ok (.bipush (-2), 2) := by decide +kernel
theorem dX6_shape_37 : decode cX6_shape 37 = .ok (.invokevirtual 196, 3) := by decide +kernel
theorem dX6_shape_40 : decode cX6_shape 40 = .ok (.ireturn, 1) := by decide +kernel
theorem dX6_shape_41 : decode cX6_shape 41 = .ok (.aload_n 0, 1) := by decide +kernel
theorem dX6_shape_42 : decode cX6_shape 42 = .ok (.getfield 35, 3) := by decide +kernel
theorem dX6_shape_45 : decode cX6_shape 45 = .ok (.iload_n 1, 1) := by decide +kernel
theorem dX6_shape_46 : decode cX6_shape 46 = .ok (.iaload, 1) := by decide +kernel
theorem dX6_shape_47 : decode cX6_shape 47 = .ok (.ifCond .lt 19, 3) := by decide +kernel
theorem dX6_shape_50 : decode cX6_shape 50 = .ok (.aload_n 0, 1) := by decide +kernel
theorem dX6_shape_51 : decode cX6_shape 51 = .ok (.getfield 38, 3) := by decide +kernel
theorem dX6_shape_54 : decode cX6_shape 54 = .ok (.iload_n 1, 1) := by decide +kernel
theorem dX6_shape_55 : decode cX6_shape 55 = .ok (.iaload, 1) := by decide +kernel
theorem dX6_shape_56 : decode cX6_shape 56 = .ok (.iload_n 2, 1) := by decide +kernel
theorem dX6_shape_57 : decode cX6_shape 57 = .ok (.if_icmp .eq 9, 3) := by decide +kernel
theorem dX6_shape_60 : decode cX6_shape 60 = .ok (.aload_n 0, 1) := by decide +kernel
theorem dX6_shape_61 : decode cX6_shape 61 = .ok (.iconst 2, 1) := by decide +kernel
theorem dX6_shape_62 : decode cX6_shape 62 = .ok (.invokevirtual 201, 3) := by decide +kernel
theorem dX6_shape_65 : decode cX6_shape 65 = .ok (.ireturn, 1) := by decide +kernel
theorem dX6_shape_66 : decode cX6_shape 66 = .ok (.aload_n 0, 1) := by decide +kernel
theorem dX6_shape_67 : decode cX6_shape 67 = .ok (.getfield 35, 3) := by decide +kernel
theorem dX6_shape_70 : decode cX6_shape 70 = .ok (.iload_n 1, 1) := by decide +kernel
theorem dX6_shape_71 : decode cX6_shape 71 = .ok (.iaload, 1) := by decide +kernel
theorem dX6_shape_72 : decode cX6_shape 72 = .ok (.ifCond .ge 9, 3) := by decide +kernel
theorem dX6_shape_75 : decode cX6_shape 75 = .ok (.aload_n 0, 1) := by decide +kernel
theorem dX6_shape_76 : decode cX6_shape 76 = .ok (.iconst 1, 1) := by decide +kernel
theorem dX6_shape_77 : decode cX6_shape 77 = .ok (.invokevirtual 201, 3) := by decide +kernel
theorem dX6_shape_80 : decode cX6_shape 80 = .ok (.ireturn, 1) := by decide +kernel
theorem dX6_shape_81 : decode cX6_shape 81 = .ok (.iload 4, 2) := by decide +kernel
theorem dX6_shape_83 : decode cX6_shape 83 = .ok (.ifCond .ge 9, 3) := by decide +kernel
theorem dX6_shape_86 : decode cX6_shape 86 = .ok (.aload_n 0, 1) := by decide +kernel
theorem dX6_shape_87 : decode cX6_shape 87 = .ok (.iconst 4, 1) := by decide +kernel
theorem dX6_shape_88 : decode cX6_shape 88 = .ok (.invokevirtual 201, 3) := by decide +kernel
theorem dX6_shape_91 : decode cX6_shape 91 = .ok (.ireturn, 1) := by decide +kernel
theorem dX6_shape_92 : decode cX6_shape 92 = .ok (.iload_n 3, 1) := by decide +kernel
theorem dX6_shape_93 : decode cX6_shape 93 = .ok (.ldc2_w 81, 3) := by decide +kernel
theorem dX6_shape_96 : decode cX6_shape 96 = .ok (.iload 4, 2) := by decide +kernel
theorem dX6_shape_98 : decode cX6_shape 98 = .ok (.i2l, 1) := by decide +kernel
theorem dX6_shape_99 : decode cX6_shape 99 = .ok (.lmul, 1) := by decide +kernel
theorem dX6_shape_100 : decode cX6_shape 100 = .ok (.aload_n 0, 1) := by decide +kernel
theorem dX6_shape_101 : decode cX6_shape 101 = .ok (.getfield 35, 3) := by decide +kernel
theorem dX6_shape_104 : decode cX6_shape 104 = .ok (.iload_n 1, 1) := by decide +kernel
theorem dX6_shape_105 : decode cX6_shape 105 = .ok (.iaload, 1) := by decide +kernel
theorem dX6_shape_106 : decode cX6_shape 106 = .ok (.invokestatic 211, 3) := by decide +kernel
theorem dX6_shape_109 : decode cX6_shape 109 = .ok (.ifCond .ne 18, 3) := by decide +kernel
theorem dX6_shape_112 : decode cX6_shape 112 = .ok (.iload 5, 2) := by decide +kernel
theorem dX6_shape_114 : decode cX6_shape 114 = .ok (.iload 4, 2) := by decide +kernel
theorem dX6_shape_116 : decode cX6_shape 116 = .ok (.i2l, 1) := by decide +kernel
theorem dX6_shape_117 : decode cX6_shape 117 = .ok (.aload_n 0, 1) := by decide +kernel
theorem dX6_shape_118 : decode cX6_shape 118 = .ok (.invokevirtual 67, 3) := by decide +kernel
theorem dX6_shape_121 : decode cX6_shape 121 = .ok (.invokestatic 211, 3) := by decide +kernel
theorem dX6_shape_124 : decode cX6_shape 124 = .ok (.ifCond .eq 9, 3) := by decide +kernel
theorem dX6_shape_127 : decode cX6_shape 127 = .ok (.aload_n 0, 1) := by decide +kernel
theorem dX6_shape_128 : decode cX6_shape 128 = .ok (.iconst 3, 1) := by decide +kernel
theorem dX6_shape_129 : decode cX6_shape 129 = .ok (.invokevirtual 201, 3) := by decide +kernel
theorem dX6_shape_132 : decode cX6_shape 132 = .ok (.ireturn, 1) := by decide +kernel
theorem dX6_shape_133 : decode cX6_shape 133 = .ok (.iconst 0, 1) := by decide +kernel
theorem dX6_shape_134 : decode cX6_shape 134 = .ok (.istore 6, 2) := by decide +kernel
theorem dX6_shape_136 : decode cX6_shape 136 = .ok (.iload 6, 2) := by decide +kernel
theorem dX6_shape_138 : decode cX6_shape 138 = .ok (.iconst 5, 1) := by decide +kernel
theorem dX6_shape_139 : decode cX6_shape 139 = .ok (.iload 4, 2) := by decide +kernel
theorem dX6_shape_141 : decode cX6_shape 141 = .ok (.imul, 1) := by decide +kernel
theorem dX6_shape_142 : decode cX6_shape 142 = .ok (.if_icmp .ge 43, 3) := by decide +kernel
theorem dX6_shape_145 : decode cX6_shape 145 = .ok (.aload_n 0, 1) := by decide +kernel
theorem dX6_shape_146 : decode cX6_shape 146 = .ok (.getfield 41, 3) := by decide +kernel
theorem dX6_shape_149 : decode cX6_shape 149 = .ok (.bipush 50, 2) := by decide +kernel
theorem dX6_shape_151 : decode cX6_shape 151 = .ok (.iload_n 1, 1) := by decide +kernel
theorem dX6_shape_152 : decode cX6_shape 152 = .ok (.imul, 1) := by decide +kernel
theorem dX6_shape_153 : decode cX6_shape 153 = .ok (.iload_n 3, 1) := by decide +kernel
theorem dX6_shape_154 : decode cX6_shape 154 = .ok (.iadd, 1) := by decide +kernel
theorem dX6_shape_155 : decode cX6_shape 155 = .ok (.iload 6, 2) := by decide +kernel
theorem dX6_shape_157 : decode cX6_shape 157 = .ok (.iadd, 1) := by decide +kernel
theorem dX6_shape_158 : decode cX6_shape 158 = .ok (.iaload, 1) := by decide +kernel
theorem dX6_shape_159 : decode cX6_shape 159 = .ok (.i2l, 1) := by decide +kernel
theorem dX6_shape_160 : decode cX6_shape 160 = .ok (.ldc2_w 111, 3) := by decide +kernel
theorem dX6_shape_163 : decode cX6_shape 163 = .ok (.ldc2_w 113, 3) := by decide +kernel
theorem dX6_shape_166 : decode cX6_shape 166 = .ok (.invokestatic 70, 3) := by decide +kernel
theorem dX6_shape_169 : decode cX6_shape 169 = .ok (.ifCond .ne 10, 3) := by decide +kernel
theorem dX6_shape_172 : decode cX6_shape 172 = .ok (.aload_n 0, 1) := by decide +kernel
theorem dX6_shape_173 : decode cX6_shape 173 = .ok (.bipush (-2), 2) := by decide +kernel
theorem dX6_shape_175 : decode cX6_shape 175 = .ok (.invokevirtual 196, 3) := by decide +kernel
theorem dX6_shape_178 : decode cX6_shape 178 = .ok (.ireturn, 1) := by decide +kernel
theorem dX6_shape_179 : decode cX6_shape 179 = .ok (.iinc 6 1, 3) := by decide +kernel
theorem dX6_shape_182 : decode cX6_shape 182 = .ok (.goto (-46), 3) := by decide +kernel
theorem dX6_shape_185 : decode cX6_shape 185 = .ok (.iconst 0, 1) := by decide +kernel
theorem dX6_shape_186 : decode cX6_shape 186 = .ok (.istore 6, 2) := by decide +kernel
theorem dX6_shape_188 : decode cX6_shape 188 = .ok (.iload 6, 2) := by decide +kernel
theorem dX6_shape_190 : decode cX6_shape 190 = .ok (.iconst 5, 1) := by decide +kernel
theorem dX6_shape_191 : decode cX6_shape 191 = .ok (.iload 4, 2) := by decide +kernel
theorem dX6_shape_193 : decode cX6_shape 193 = .ok (.imul, 1) := by decide +kernel
theorem dX6_shape_194 : decode cX6_shape 194 = .ok (.if_icmp .ge 35, 3) := by decide +kernel
theorem dX6_shape_197 : decode cX6_shape 197 = .ok (.aload_n 0, 1) := by decide +kernel
theorem dX6_shape_198 : decode cX6_shape 198 = .ok (.getfield 7, 3) := by decide +kernel
theorem dX6_shape_201 : decode cX6_shape 201 = .ok (.iconst 5, 1) := by decide +kernel
theorem dX6_shape_202 : decode cX6_shape 202 = .ok (.iload 5, 2) := by decide +kernel
theorem dX6_shape_204 : decode cX6_shape 204 = .ok (.imul, 1) := by decide +kernel
theorem dX6_shape_205 : decode cX6_shape 205 = .ok (.iload 6, 2) := by decide +kernel
theorem dX6_shape_207 : decode cX6_shape 207 = .ok (.iadd, 1) := by decide +kernel
theorem dX6_shape_208 : decode cX6_shape 208 = .ok (.aload_n 0, 1) := by decide +kernel
theorem dX6_shape_209 : decode cX6_shape 209 = .ok (.getfield 41, 3) := by decide +kernel
theorem dX6_shape_212 : decode cX6_shape 212 = .ok (.bipush 50, 2) := by decide +kernel
theorem dX6_shape_214 : decode cX6_shape 214 = .ok (.iload_n 1, 1) := by decide +kernel
theorem dX6_shape_215 : decode cX6_shape 215 = .ok (.imul, 1) := by decide +kernel
theorem dX6_shape_216 : decode cX6_shape 216 = .ok (.iload_n 3, 1) := by decide +kernel
theorem dX6_shape_217 : decode cX6_shape 217 = .ok (.iadd, 1) := by decide +kernel
theorem dX6_shape_218 : decode cX6_shape 218 = .ok (.iload 6, 2) := by decide +kernel
theorem dX6_shape_220 : decode cX6_shape 220 = .ok (.iadd, 1) := by decide +kernel
theorem dX6_shape_221 : decode cX6_shape 221 = .ok (.iaload, 1) := by decide +kernel
theorem dX6_shape_222 : decode cX6_shape 222 = .ok (.iastore, 1) := by decide +kernel
theorem dX6_shape_223 : decode cX6_shape 223 = .ok (.iinc 6 1, 3) := by decide +kernel
theorem dX6_shape_226 : decode cX6_shape 226 = .ok (.goto (-38), 3) := by decide +kernel
theorem dX6_shape_229 : decode cX6_shape 229 = .ok (.aload_n 0, 1) := by decide +kernel
theorem dX6_shape_230 : decode cX6_shape 230 = .ok (.invokevirtual 86, 3) := by decide +kernel
theorem dX6_shape_233 : decode cX6_shape 233 = .ok (.aload_n 0, 1) := by decide +kernel
theorem dX6_shape_234 : decode cX6_shape 234 = .ok (.iload 4, 2) := by decide +kernel
theorem dX6_shape_236 : decode cX6_shape 236 = .ok (.invokevirtual 196, 3) := by decide +kernel
theorem dX6_shape_239 : decode cX6_shape 239 = .ok (.ireturn, 1) := by decide +kernel
theorem dX6_traced_0 : decode cX6_traced 0 = .ok (.aload_n 0, 1) := by decide +kernel
theorem dX6_traced_1 : decode cX6_traced 1 = .ok (.bipush 31, 2) := by decide +kernel
theorem dX6_traced_3 : decode cX6_traced 3 = .ok (.aload_n 0, 1) := by decide +kernel
theorem dX6_traced_4 : decode cX6_traced 4 = .ok (.getfield 215, 3) := by decide +kernel
theorem dX6_traced_7 : decode cX6_traced 7 = .ok (.imul, 1) := by decide +kernel
theorem dX6_traced_8 : decode cX6_traced 8 = .ok (.iload_n 1, 1) := by decide +kernel
theorem dX6_traced_9 : decode cX6_traced 9 = .ok (.iadd, 1) := by decide +kernel
theorem dX6_traced_10 : decode cX6_traced 10 = .ok (.putfield 215, 3) := by decide +kernel
theorem dX6_traced_13 : decode cX6_traced 13 = .ok (.return_, 1) := by decide +kernel
set_option maxRecDepth 20000 in
theorem ggX6_tell_X6_noSide : GoodIn wsX6_tell wsX6_noSide := goodIn_r _ [6, 7, 8, 9, 5, 10, 11, 12, 13, 14, 15, 16, 17, 18, 19, 37, 38, 39, 40, 41, 42, 43, 44, 45, 46, 47, 48, 49, 50, 51, 52, 53, 54, 55, 56, 57, 58, 59] (by decide +kernel) (by decide +kernel)
set_option maxRecDepth 20000 in
theorem gX6_tell_X6_noSide : GoodIn wsX6_tell (wsV RX6 105 RX6 yX6_noSide wsX6_noSide) := goodIn_app (goodIn_of _ (by decide +kernel)) ggX6_tell_X6_noSide
set_option maxRecDepth 20000 in
theorem ggX6_tell_X6_kindOf : GoodIn wsX6_tell wsX6_kindOf := goodIn_r _ [23, 24, 25, 26, 5, 27, 1, 7, 8, 9, 10, 11, 12, 13, 14, 15, 16, 28, 29, 30, 31, 37, 38, 39, 40, 41, 42, 43, 44, 45, 46, 47, 48, 49, 50, 51, 52, 53, 54, 55, 56, 57, 58, 59] (by decide +kernel) (by decide +kernel)
set_option maxRecDepth 20000 in
theorem gX6_tell_X6_kindOf : GoodIn wsX6_tell (wsV RX6 142 RX6 yX6_kindOf wsX6_kindOf) := goodIn_app (goodIn_of _ (by decide +kernel)) ggX6_tell_X6_kindOf
set_option maxRecDepth 20000 in
theorem ggX6_tell_X6_traced : GoodIn wsX6_tell wsX6_traced := goodIn_r _ [35, 36, 37, 38, 39, 40, 41, 42, 43, 44, 45, 46, 47, 48, 49, 50, 51, 52, 53, 54, 55, 56, 57, 58, 59] (by decide +kernel) (by decide +kernel)
set_option maxRecDepth 20000 in
theorem gX6_tell_X6_traced : GoodIn wsX6_tell (wsV RX6 218 RX6 yX6_traced wsX6_traced) := goodIn_app (goodIn_of _ (by decide +kernel)) ggX6_tell_X6_traced
theorem dX6_tell_0 : decode cX6_tell 0 = .ok (.aload_n 0, 1) := by decide +kernel
theorem dX6_tell_1 : decode cX6_tell 1 = .ok (.iload_n 1, 1) := by decide +kernel
theorem dX6_tell_2 : decode cX6_tell 2 = .ok (.invokevirtual 105, 3) := by decide +kernel
theorem dX6_tell_5 : decode cX6_tell 5 = .ok (.ifCond .eq 5, 3) := by decide +kernel
theorem dX6_tell_8 : decode cX6_tell 8 = .ok (.iconst (-1), 1) := by decide +kernel
theorem dX6_tell_9 : decode cX6_tell 9 = .ok (.ireturn, 1) := by decide +kernel
theorem dX6_tell_10 : decode cX6_tell 10 = .ok (.aload_n 0, 1) := by decide +kernel
theorem dX6_tell_11 : decode cX6_tell 11 = .ok (.iload_n 1, 1) := by decide +kernel
theorem dX6_tell_12 : decode cX6_tell 12 = .ok (.invokevirtual 142, 3) := by decide +kernel
theorem dX6_tell_15 : decode cX6_tell 15 = .ok (.istore_n 2, 1) := by decide +kernel
theorem dX6_tell_16 : decode cX6_tell 16 = .ok (.iload_n 2, 1) := by decide +kernel
theorem dX6_tell_17 : decode cX6_tell 17 = .ok (.ifCond .le 10, 3) := by decide +kernel
theorem dX6_tell_20 : decode cX6_tell 20 = .ok (.aload_n 0, 1) := by decide +kernel
theorem dX6_tell_21 : decode cX6_tell 21 = .ok (.iload_n 2, 1) := by decide +kernel
theorem dX6_tell_22 : decode cX6_tell 22 = .ok (.iconst 1, 1) := by decide +kernel
theorem dX6_tell_23 : decode cX6_tell 23 = .ok (.iadd, 1) := by decide +kernel
theorem dX6_tell_24 : decode cX6_tell 24 = .ok (.invokevirtual 218, 3) := by decide +kernel
theorem dX6_tell_27 : decode cX6_tell 27 = .ok (.aload_n 0, 1) := by decide +kernel
theorem dX6_tell_28 : decode cX6_tell 28 = .ok (.iconst 1, 1) := by decide +kernel
theorem dX6_tell_29 : decode cX6_tell 29 = .ok (.invokevirtual 218, 3) := by decide +kernel
theorem dX6_tell_32 : decode cX6_tell 32 = .ok (.iconst 0, 1) := by decide +kernel
theorem dX6_tell_33 : decode cX6_tell 33 = .ok (.istore_n 3, 1) := by decide +kernel
theorem dX6_tell_34 : decode cX6_tell 34 = .ok (.iconst 0, 1) := by decide +kernel
theorem dX6_tell_35 : decode cX6_tell 35 = .ok (.istore 4, 2) := by decide +kernel
theorem dX6_tell_37 : decode cX6_tell 37 = .ok (.iload 4, 2) := by decide +kernel
theorem dX6_tell_39 : decode cX6_tell 39 = .ok (.iconst 5, 1) := by decide +kernel
theorem dX6_tell_40 : decode cX6_tell 40 = .ok (.if_icmp .ge 23, 3) := by decide +kernel
theorem dX6_tell_43 : decode cX6_tell 43 = .ok (.iload_n 3, 1) := by decide +kernel
theorem dX6_tell_44 : decode cX6_tell 44 = .ok (.aload_n 0, 1) := by decide +kernel
theorem dX6_tell_45 : decode cX6_tell 45 = .ok (.getfield 7, 3) := by decide +kernel
theorem dX6_tell_48 : decode cX6_tell 48 = .ok (.iconst 5, 1) := by decide +kernel
theorem dX6_tell_49 : decode cX6_tell 49 = .ok (.iload_n 1, 1) := by decide +kernel
theorem dX6_tell_50 : decode cX6_tell 50 = .ok (.imul, 1) := by decide +kernel
theorem dX6_tell_51 : decode cX6_tell 51 = .ok (.iload 4, 2) := by decide +kernel
theorem dX6_tell_53 : decode cX6_tell 53 = .ok (.iadd, 1) := by decide +kernel
theorem dX6_tell_54 : decode cX6_tell 54 = .ok (.iaload, 1) := by decide +kernel
theorem dX6_tell_55 : decode cX6_tell 55 = .ok (.iadd, 1) := by decide +kernel
theorem dX6_tell_56 : decode cX6_tell 56 = .ok (.istore_n 3, 1) := by decide +kernel
theorem dX6_tell_57 : decode cX6_tell 57 = .ok (.iinc 4 1, 3) := by decide +kernel
theorem dX6_tell_60 : decode cX6_tell 60 = .ok (.goto (-23), 3) := by decide +kernel
theorem dX6_tell_63 : decode cX6_tell 63 = .ok (.iload_n 2, 1) := by decide +kernel
theorem dX6_tell_64 : decode cX6_tell 64 = .ok (.ifCond .ne 7, 3) := by decide +kernel
theorem dX6_tell_67 : decode cX6_tell 67 = .ok (.iload_n 3, 1) := by decide +kernel
theorem dX6_tell_68 : decode cX6_tell 68 = .ok (.goto 17, 3) := by decide +kernel
theorem dX6_tell_71 : decode cX6_tell 71 = .ok (.iload_n 2, 1) := by decide +kernel
theorem dX6_tell_72 : decode cX6_tell 72 = .ok (.iconst 1, 1) := by decide +kernel
theorem dX6_tell_73 : decode cX6_tell 73 = .ok (.if_icmp .ne 10, 3) := by decide +kernel
theorem dX6_tell_76 : decode cX6_tell 76 = .ok (.iload_n 3, 1) := by decide +kernel
theorem dX6_tell_77 : decode cX6_tell 77 = .ok (.bipush 100, 2) := by decide +kernel
theorem dX6_tell_79 : decode cX6_tell 79 = .ok (.iadd, 1) := by decide +kernel
theorem dX6_tell_80 : decode cX6_tell 80 = .ok (.goto 5, 3) := by decide +kernel
theorem dX6_tell_83 : decode cX6_tell 83 = .ok (.iload_n 3, 1) := by decide +kernel
theorem dX6_tell_84 : decode cX6_tell 84 = .ok (.ineg, 1) := by decide +kernel
theorem dX6_tell_85 : decode cX6_tell 85 = .ok (.ireturn, 1) := by decide +kernel
set_option maxRecDepth 20000 in
theorem ggX6_mark_X6_noSide : GoodIn wsX6_mark wsX6_noSide := goodIn_r _ [5, 6, 7, 8, 4, 9, 10, 11, 12, 13, 14, 15, 16, 17, 18, 37, 38, 39, 40, 41, 42, 43, 44, 45, 46, 47, 48, 49, 50, 51, 52, 53, 54, 55, 56, 57, 58, 59] (by decide +kernel) (by decide +kernel)
set_option maxRecDepth 20000 in
theorem gX6_mark_X6_noSide : GoodIn wsX6_mark (wsV RX6 105 RX6 yX6_noSide wsX6_noSide) := goodIn_app (goodIn_of _ (by decide +kernel)) ggX6_mark_X6_noSide
set_option maxRecDepth 20000 in
theorem ggX6_mark_X6_kindOf : GoodIn wsX6_mark wsX6_kindOf := goodIn_r _ [22, 23, 24, 25, 4, 26, 27, 6, 7, 8, 9, 10, 11, 12, 13, 14, 15, 28, 29, 30, 31, 37, 38, 39, 40, 41, 42, 43, 44, 45, 46, 47, 48, 49, 50, 51, 52, 53, 54, 55, 56, 57, 58, 59] (by decide +kernel) (by decide +kernel)
set_option maxRecDepth 20000 in
theorem gX6_mark_X6_kindOf : GoodIn wsX6_mark (wsV RX6 142 RX6 yX6_kindOf wsX6_kindOf) := goodIn_app (goodIn_of _ (by decide +kernel)) ggX6_mark_X6_kindOf
set_option maxRecDepth 20000 in
theorem ggX6_mark_X6_traced : GoodIn wsX6_mark wsX6_traced := goodIn_r _ [35, 36, 37, 38, 39, 40, 41, 42, 43, 44, 45, 46, 47, 48, 49, 50, 51, 52, 53, 54, 55, 56, 57, 58, 59] (by decide +kernel) (by decide +kernel)
set_option maxRecDepth 20000 in
theorem gX6_mark_X6_traced : GoodIn wsX6_mark (wsV RX6 218 RX6 yX6_traced wsX6_traced) := goodIn_app (goodIn_of _ (by decide +kernel)) ggX6_mark_X6_traced
theorem dX6_mark_0 : decode cX6_mark 0 = .ok (.aload_n 0, 1) := by decide +kernel
theorem dX6_mark_1 : decode cX6_mark 1 = .ok (.iload_n 1, 1) := by decide +kernel
theorem dX6_mark_2 : decode cX6_mark 2 = .ok (.invokevirtual 105, 3) := by decide +kernel
theorem dX6_mark_5 : decode cX6_mark 5 = .ok (.ifCond .eq 5, 3) := by decide +kernel
theorem dX6_mark_8 : decode cX6_mark 8 = .ok (.iconst (-1), 1) := by decide +kernel
theorem dX6_mark_9 : decode cX6_mark 9 = .ok (.ireturn, 1) := by decide +kernel
theorem dX6_mark_10 : decode cX6_mark 10 = .ok (.aload_n 0, 1) := by decide +kernel
theorem dX6_mark_11 : decode cX6_mark 11 = .ok (.iload_n 1, 1) := by decide +kernel
theorem dX6_mark_12 : decode cX6_mark 12 = .ok (.invokevirtual 142, 3) := by decide +kernel
theorem dX6_mark_15 : decode cX6_mark 15 = .ok (.iconst 2, 1) := by decide +kernel
theorem dX6_mark_16 : decode cX6_mark 16 = .ok (.if_icmp .ne 7, 3) := by decide +kernel
theorem dX6_mark_19 : decode cX6_mark 19 = .ok (.iconst 1, 1) := by decide +kernel
theorem dX6_mark_20 : decode cX6_mark 20 = .ok (.goto 4, 3) := by decide +kernel
theorem dX6_mark_23 : decode cX6_mark 23 = .ok (.iconst 0, 1) := by decide +kernel
theorem dX6_mark_24 : decode cX6_mark 24 = .ok (.istore_n 2, 1) := by decide +kernel
theorem dX6_mark_25 : decode cX6_mark 25 = .ok (.aload_n 0, 1) := by decide +kernel
theorem dX6_mark_26 : decode cX6_mark 26 = .ok (.iload_n 2, 1) := by decide +kernel
theorem dX6_mark_27 : decode cX6_mark 27 = .ok (.ifCond .eq 7, 3) := by decide +kernel
theorem dX6_mark_30 : decode cX6_mark 30 = .ok (.iconst 5, 1) := by decide +kernel
theorem dX6_mark_31 : decode cX6_mark 31 = .ok (.goto 4, 3) := by decide +kernel
theorem dX6_mark_34 : decode cX6_mark 34 = .ok (.iconst 4, 1) := by decide +kernel
theorem dX6_mark_35 : decode cX6_mark 35 = .ok (.invokevirtual 218, 3) := by decide +kernel
theorem dX6_mark_38 : decode cX6_mark 38 = .ok (.iload_n 2, 1) := by decide +kernel
theorem dX6_mark_39 : decode cX6_mark 39 = .ok (.ifCond .eq 8, 3) := by decide +kernel
theorem dX6_mark_42 : decode cX6_mark 42 = .ok (.bipush 99, 2) := by decide +kernel
theorem dX6_mark_44 : decode cX6_mark 44 = .ok (.goto 4, 3) := by decide +kernel
theorem dX6_mark_47 : decode cX6_mark 47 = .ok (.iload_n 1, 1) := by decide +kernel
theorem dX6_mark_48 : decode cX6_mark 48 = .ok (.ireturn, 1) := by decide +kernel
set_option maxRecDepth 20000 in
theorem ggX6_as_X6_noSide : GoodIn wsX6_as wsX6_noSide := goodIn_r _ [6, 7, 8, 9, 5, 10, 11, 12, 13, 14, 15, 16, 17, 18, 19, 42, 43, 44, 45, 46, 47, 48, 49, 50, 51, 52, 53, 54, 55, 56, 57, 58, 59, 60, 61, 62, 63, 64] (by decide +kernel) (by decide +kernel)
set_option maxRecDepth 20000 in
theorem gX6_as_X6_noSide : GoodIn wsX6_as (wsV RX6 105 RX6 yX6_noSide wsX6_noSide) := goodIn_app (goodIn_of _ (by decide +kernel)) ggX6_as_X6_noSide
set_option maxRecDepth 20000 in
theorem ggX6_as_X6_refused : GoodIn wsX6_as wsX6_refused := goodIn_r _ [23, 24, 42, 43, 44, 45, 46, 47, 48, 49, 50, 51, 52, 53, 54, 55, 56, 57, 58, 59, 60, 61, 62, 63, 64] (by decide +kernel) (by decide +kernel)
set_option maxRecDepth 20000 in
theorem gX6_as_X6_refused : GoodIn wsX6_as (wsV RX6 196 RX6 yX6_refused wsX6_refused) := goodIn_app (goodIn_of _ (by decide +kernel)) ggX6_as_X6_refused
set_option maxRecDepth 20000 in
theorem ggX6_as_X6_in : GoodIn wsX6_as wsX6_in := goodIn_r _ [19] (by decide +kernel) (by decide +kernel)
set_option maxRecDepth 20000 in
theorem gX6_as_X6_in : GoodIn wsX6_as (va_wsS RX6 70 yX6_in wsX6_in) := goodIn_app (goodIn_of _ (by decide +kernel)) ggX6_as_X6_in
set_option maxRecDepth 20000 in
theorem ggX6_as_X6_kindOf : GoodIn wsX6_as wsX6_kindOf := goodIn_r _ [28, 29, 30, 31, 5, 32, 33, 7, 8, 9, 10, 11, 12, 13, 14, 15, 16, 34, 35, 36, 37, 42, 43, 44, 45, 46, 47, 48, 49, 50, 51, 52, 53, 54, 55, 56, 57, 58, 59, 60, 61, 62, 63, 64] (by decide +kernel) (by decide +kernel)
set_option maxRecDepth 20000 in
theorem gX6_as_X6_kindOf : GoodIn wsX6_as (wsV RX6 142 RX6 yX6_kindOf wsX6_kindOf) := goodIn_app (goodIn_of _ (by decide +kernel)) ggX6_as_X6_kindOf
set_option maxRecDepth 20000 in
theorem ggX6_as_X6_failed : GoodIn wsX6_as wsX6_failed := goodIn_r _ [41, 24, 42, 43, 44, 45, 46, 47, 48, 49, 50, 51, 52, 53, 54, 55, 56, 57, 58, 59, 60, 61, 62, 63, 64] (by decide +kernel) (by decide +kernel)
set_option maxRecDepth 20000 in
theorem gX6_as_X6_failed : GoodIn wsX6_as (wsV RX6 201 RX6 yX6_failed wsX6_failed) := goodIn_app (goodIn_of _ (by decide +kernel)) ggX6_as_X6_failed
theorem dX6_as_0 : decode cX6_as 0 = .ok (.aload_n 0, 1) := by decide +kernel
theorem dX6_as_1 : decode cX6_as 1 = .ok (.iload_n 1, 1) := by decide +kernel
theorem dX6_as_2 : decode cX6_as 2 = .ok (.invokevirtual 105, 3) := by decide +kernel
theorem dX6_as_5 : decode cX6_as 5 = .ok (.ifCond .eq 9, 3) := by decide +kernel
theorem dX6_as_8 : decode cX6_as 8 = .ok (.aload_n 0, 1) := by decide +kernel
theorem dX6_as_9 : decode cX6_as 9 = .ok (.iconst (-1), 1) := by decide +kernel
theorem dX6_as_10 : decode cX6_as 10 = .ok (.invokevirtual 196, 3) := by decide +kernel
theorem dX6_as_13 : decode cX6_as 13 = .ok (.ireturn, 1) := by decide +kernel
theorem dX6_as_14 : decode cX6_as 14 = .ok (.iload_n 2, 1) := by decide +kernel
theorem dX6_as_15 : decode cX6_as 15 = .ok (.i2l, 1) := by decide +kernel
theorem dX6_as_16 : decode cX6_as 16 = .ok (.lconst 0, 1) := by decide +kernel
theorem dX6_as_17 : decode cX6_as 17 = .ok (.ldc2_w 199, 3) := by decide +kernel
theorem dX6_as_20 : decode cX6_as 20 = .ok (.invokestatic 70, 3) := by decide +kernel
theorem dX6_as_23 : decode cX6_as 23 = .ok (.ifCond .ne 10, 3) := by decide +kernel
theorem dX6_as_26 : decode cX6_as 26 = .ok (.aload_n 0, 1) := by decide +kernel
theorem dX6_as_27 : decode cX6_as 27 = .ok (.bipush (-2), 2) := by decide +kernel
theorem dX6_as_29 : decode cX6_as 29 = .ok (.invokevirtual 196, 3) := by decide +kernel
theorem dX6_as_32 : decode cX6_as 32 = .ok (.ireturn, 1) := by decide +kernel
theorem dX6_as_33 : decode cX6_as 33 = .ok (.aload_n 0, 1) := by decide +kernel
theorem dX6_as_34 : decode cX6_as 34 = .ok (.iload_n 1, 1) := by decide +kernel
theorem dX6_as_35 : decode cX6_as 35 = .ok (.invokevirtual 142, 3) := by decide +kernel
theorem dX6_as_38 : decode cX6_as 38 = .ok (.iload_n 2, 1) := by decide +kernel
theorem dX6_as_39 : decode cX6_as 39 = .ok (.if_icmp .lt 11, 3) := by decide +kernel
theorem dX6_as_42 : decode cX6_as 42 = .ok (.aload_n 0, 1) := by decide +kernel
theorem dX6_as_43 : decode cX6_as 43 = .ok (.iconst 1, 1) := by decide +kernel
theorem dX6_as_44 : decode cX6_as 44 = .ok (.invokevirtual 196, 3) := by decide +kernel
theorem dX6_as_47 : decode cX6_as 47 = .ok (.goto 8, 3) := by decide +kernel
theorem dX6_as_50 : decode cX6_as 50 = .ok (.aload_n 0, 1) := by decide +kernel
theorem dX6_as_51 : decode cX6_as 51 = .ok (.iconst 2, 1) := by decide +kernel
theorem dX6_as_52 : decode cX6_as 52 = .ok (.invokevirtual 201, 3) := by decide +kernel
theorem dX6_as_55 : decode cX6_as 55 = .ok (.ireturn, 1) := by decide +kernel
theorem dX6_trace_0 : decode cX6_trace 0 = .ok (.aload_n 0, 1) := by decide +kernel
theorem dX6_trace_1 : decode cX6_trace 1 = .ok (.getfield 215, 3) := by decide +kernel
theorem dX6_trace_4 : decode cX6_trace 4 = .ok (.ireturn, 1) := by decide +kernel
theorem dX6_fault_0 : decode cX6_fault 0 = .ok (.aload_n 0, 1) := by decide +kernel
theorem dX6_fault_1 : decode cX6_fault 1 = .ok (.getfield 56, 3) := by decide +kernel
theorem dX6_fault_4 : decode cX6_fault 4 = .ok (.ireturn, 1) := by decide +kernel
set_option maxRecDepth 20000 in
theorem ggX6_told_X6_pieces : GoodIn wsX6_told wsX6_pieces := goodIn_r _ [8, 1, 2, 17, 18, 19, 20, 21, 22, 23, 24, 25, 26, 27, 28, 29, 30, 31, 32, 33, 34, 35, 36, 37, 38, 39] (by decide +kernel) (by decide +kernel)
set_option maxRecDepth 20000 in
theorem gX6_told_X6_pieces : GoodIn wsX6_told (wsV RX6 74 RX6 yX6_pieces wsX6_pieces) := goodIn_app (goodIn_of _ (by decide +kernel)) ggX6_told_X6_pieces
set_option maxRecDepth 20000 in
theorem ggX6_told_X6_sides : GoodIn wsX6_told wsX6_sides := goodIn_r _ [12, 1, 2, 13, 14, 15, 7, 16, 17, 18, 19, 20, 21, 22, 23, 24, 25, 26, 27, 28, 29, 30, 31, 32, 33, 34, 35, 36, 37, 38, 39] (by decide +kernel) (by decide +kernel)
set_option maxRecDepth 20000 in
theorem gX6_told_X6_sides : GoodIn wsX6_told (wsV RX6 67 RX6 yX6_sides wsX6_sides) := goodIn_app (goodIn_of _ (by decide +kernel)) ggX6_told_X6_sides
theorem dX6_told_0 : decode cX6_told 0 = .ok (.iload_n 1, 1) := by decide +kernel
theorem dX6_told_1 : decode cX6_told 1 = .ok (.tableswitch 60 0 4 #[35, 40, 45, 50, 55], 35) := by decide +kernel
theorem dX6_told_36 : decode cX6_told 36 = .ok (.aload_n 0, 1) := by decide +kernel
theorem dX6_told_37 : decode cX6_told 37 = .ok (.getfield 47, 3) := by decide +kernel
theorem dX6_told_40 : decode cX6_told 40 = .ok (.ireturn, 1) := by decide +kernel
theorem dX6_told_41 : decode cX6_told 41 = .ok (.aload_n 0, 1) := by decide +kernel
theorem dX6_told_42 : decode cX6_told 42 = .ok (.getfield 51, 3) := by decide +kernel
theorem dX6_told_45 : decode cX6_told 45 = .ok (.ireturn, 1) := by decide +kernel
theorem dX6_told_46 : decode cX6_told 46 = .ok (.aload_n 0, 1) := by decide +kernel
theorem dX6_told_47 : decode cX6_told 47 = .ok (.invokevirtual 74, 3) := by decide +kernel
theorem dX6_told_50 : decode cX6_told 50 = .ok (.ireturn, 1) := by decide +kernel
theorem dX6_told_51 : decode cX6_told 51 = .ok (.aload_n 0, 1) := by decide +kernel
theorem dX6_told_52 : decode cX6_told 52 = .ok (.invokevirtual 67, 3) := by decide +kernel
theorem dX6_told_55 : decode cX6_told 55 = .ok (.ireturn, 1) := by decide +kernel
theorem dX6_told_56 : decode cX6_told 56 = .ok (.aload_n 0, 1) := by decide +kernel
theorem dX6_told_57 : decode cX6_told 57 = .ok (.getfield 83, 3) := by decide +kernel
theorem dX6_told_60 : decode cX6_told 60 = .ok (.ireturn, 1) := by decide +kernel
theorem dX6_told_61 : decode cX6_told 61 = .ok (.bipush (-2), 2) := by decide +kernel
theorem dX6_told_63 : decode cX6_told 63 = .ok (.ireturn, 1) := by decide +kernel
theorem dJ9_abs_0f7a4_0 : decode cJ9_abs_0f7a4 0 = .ok (.iload_n 0, 1) := by decide +kernel
theorem dJ9_abs_0f7a4_1 : decode cJ9_abs_0f7a4 1 = .ok (.ifCond .ge 8, 3) := by decide +kernel
theorem dJ9_abs_0f7a4_4 : decode cJ9_abs_0f7a4 4 = .ok (.iload_n 0, 1) := by decide +kernel
theorem dJ9_abs_0f7a4_5 : decode cJ9_abs_0f7a4 5 = .ok (.ineg, 1) := by decide +kernel
theorem dJ9_abs_0f7a4_6 : decode cJ9_abs_0f7a4 6 = .ok (.goto 4, 3) := by decide +kernel
theorem dJ9_abs_0f7a4_9 : decode cJ9_abs_0f7a4 9 = .ok (.iload_n 0, 1) := by decide +kernel
theorem dJ9_abs_0f7a4_10 : decode cJ9_abs_0f7a4 10 = .ok (.ireturn, 1) := by decide +kernel
theorem dJ9_max_7cf53_0 : decode cJ9_max_7cf53 0 = .ok (.iload_n 0, 1) := by decide +kernel
theorem dJ9_max_7cf53_1 : decode cJ9_max_7cf53 1 = .ok (.iload_n 1, 1) := by decide +kernel
theorem dJ9_max_7cf53_2 : decode cJ9_max_7cf53 2 = .ok (.if_icmp .lt 7, 3) := by decide +kernel
theorem dJ9_max_7cf53_5 : decode cJ9_max_7cf53 5 = .ok (.iload_n 0, 1) := by decide +kernel
theorem dJ9_max_7cf53_6 : decode cJ9_max_7cf53 6 = .ok (.goto 4, 3) := by decide +kernel
theorem dJ9_max_7cf53_9 : decode cJ9_max_7cf53 9 = .ok (.iload_n 1, 1) := by decide +kernel
theorem dJ9_max_7cf53_10 : decode cJ9_max_7cf53 10 = .ok (.ireturn, 1) := by decide +kernel
theorem dJ9_min_7cf53_0 : decode cJ9_min_7cf53 0 = .ok (.iload_n 0, 1) := by decide +kernel
theorem dJ9_min_7cf53_1 : decode cJ9_min_7cf53 1 = .ok (.iload_n 1, 1) := by decide +kernel
theorem dJ9_min_7cf53_2 : decode cJ9_min_7cf53 2 = .ok (.if_icmp .gt 7, 3) := by decide +kernel
theorem dJ9_min_7cf53_5 : decode cJ9_min_7cf53 5 = .ok (.iload_n 0, 1) := by decide +kernel
theorem dJ9_min_7cf53_6 : decode cJ9_min_7cf53 6 = .ok (.goto 4, 3) := by decide +kernel
theorem dJ9_min_7cf53_9 : decode cJ9_min_7cf53 9 = .ok (.iload_n 1, 1) := by decide +kernel
theorem dJ9_min_7cf53_10 : decode cJ9_min_7cf53 10 = .ok (.ireturn, 1) := by decide +kernel
set_option maxRecDepth 20000 in
theorem ggL_law_X5_init : GoodIn wsL_law wsX5_init := goodIn_r _ [9, 10, 11, 12, 13, 14, 15, 16, 17, 18, 19, 20, 21, 22, 23, 24, 25, 26, 27, 28, 29, 30, 31, 32, 33, 34, 35, 36, 37, 38, 39, 40, 41, 42, 43, 44, 45, 46, 47, 48, 49, 50, 51, 52, 53, 54, 55, 56, 57, 58, 59, 60, 61, 62, 63, 64, 65, 66, 67, 68, 69, 70, 71, 72, 73, 74, 884, 885, 886, 887, 854, 855, 856, 857, 858, 859, 860, 888, 889, 890, 891, 892, 893, 894, 895, 896, 897, 898, 899, 900, 901, 902, 903, 904, 905, 906, 907, 908] (by decide +kernel) (by decide +kernel)
set_option maxRecDepth 20000 in
theorem gL_law_X5_init : GoodIn wsL_law (wsX5_init) := ggL_law_X5_init
set_option maxRecDepth 20000 in
theorem ggL_law_X6_init : GoodIn wsL_law wsX6_init := goodIn_r _ [77, 78, 11, 12, 37, 79, 80, 81, 82, 83, 62, 84, 85, 86, 87, 88, 89, 90, 91, 92, 861, 862, 863, 864, 865, 866, 867, 868, 869, 870, 871, 872, 873, 874, 875, 876, 877, 878, 879, 880, 881, 882, 883] (by decide +kernel) (by decide +kernel)
set_option maxRecDepth 20000 in
theorem gL_law_X6_init : GoodIn wsL_law (wsX6_init) := ggL_law_X6_init
set_option maxRecDepth 20000 in
theorem ggL_law_X5_picture : GoodIn wsL_law wsX5_picture := goodIn_r _ [96, 16, 20, 24, 97, 41, 42, 15, 43, 44, 45, 38, 46, 47, 48, 49, 39, 98, 99, 100, 19, 101, 102, 103, 104, 105, 23, 106, 107, 108, 109, 110, 111, 854, 855, 856, 857, 858, 859, 860, 884, 885, 886, 887, 888, 889, 890, 891, 892, 893, 894, 895, 896, 897, 898, 899, 900, 901, 902, 903] (by decide +kernel) (by decide +kernel)
set_option maxRecDepth 20000 in
theorem gL_law_X5_picture : GoodIn wsL_law (wsV RL 13 RX5 yX5_picture wsX5_picture) := goodIn_app (goodIn_of _ (by decide +kernel)) ggL_law_X5_picture
set_option maxRecDepth 20000 in
theorem ggL_law_X6_picture : GoodIn wsL_law wsX6_picture := goodIn_r _ [115, 116, 91, 92, 79, 117, 118, 119, 5, 120, 121, 122, 123, 124, 125, 126, 127, 128, 129, 130, 131, 132, 133, 861, 862, 863, 864, 865, 866, 867, 868, 869, 870, 871, 872, 873, 874, 875, 876, 877, 878, 879, 880, 881, 882, 883] (by decide +kernel) (by decide +kernel)
set_option maxRecDepth 20000 in
theorem gL_law_X6_picture : GoodIn wsL_law (wsV RL 17 RX6 yX6_picture wsX6_picture) := goodIn_app (goodIn_of _ (by decide +kernel)) ggL_law_X6_picture
set_option maxRecDepth 20000 in
theorem ggL_law_X5_make : GoodIn wsL_law wsX5_make := goodIn_r _ [137, 28, 16, 24, 138, 139, 140, 27, 141, 142, 108, 109, 110, 15, 111, 44, 45, 143, 144, 145, 146, 147, 148, 149, 150, 151, 152, 153, 154, 38, 103, 104, 105, 23, 106, 107, 854, 855, 856, 857, 858, 859, 860, 904, 884, 885, 886, 887, 891, 892, 893, 894, 895, 896, 897, 898, 899, 900, 901, 902, 903] (by decide +kernel) (by decide +kernel)
set_option maxRecDepth 20000 in
theorem gL_law_X5_make : GoodIn wsL_law (wsV RL 20 RX5 yX5_make wsX5_make) := goodIn_app (goodIn_of _ (by decide +kernel)) ggL_law_X5_make
set_option maxRecDepth 20000 in
theorem ggL_law_X6_make : GoodIn wsL_law wsX6_make := goodIn_r _ [158, 159, 79, 126, 127, 128, 5, 129, 91, 92, 130, 131, 132, 133, 160, 161, 162, 163, 164, 165, 166, 167, 121, 122, 123, 124, 125, 861, 862, 863, 864, 865, 866, 867, 868, 869, 870, 871, 872, 873, 874, 875, 876, 877, 878, 879, 880, 881, 882, 883] (by decide +kernel) (by decide +kernel)
set_option maxRecDepth 20000 in
theorem gL_law_X6_make : GoodIn wsL_law (wsV RL 24 RX6 yX6_make wsX6_make) := goodIn_app (goodIn_of _ (by decide +kernel)) ggL_law_X6_make
set_option maxRecDepth 20000 in
theorem ggL_law_X5_bend : GoodIn wsL_law wsX5_bend := goodIn_r _ [171, 16, 172, 24, 173, 174, 175, 15, 176, 177, 109, 110, 111, 44, 45, 178, 179, 2, 180, 181, 182, 183, 184, 185, 186, 187, 38, 151, 152, 153, 154, 103, 104, 105, 23, 106, 107, 854, 855, 856, 857, 858, 859, 860, 884, 885, 886, 887, 891, 892, 893, 894, 895, 896, 897, 898, 899, 900, 901, 902, 903] (by decide +kernel) (by decide +kernel)
set_option maxRecDepth 20000 in
theorem gL_law_X5_bend : GoodIn wsL_law (wsV RL 25 RX5 yX5_bend wsX5_bend) := goodIn_app (goodIn_of _ (by decide +kernel)) ggL_law_X5_bend
set_option maxRecDepth 20000 in
theorem ggL_law_X6_bend : GoodIn wsL_law wsX6_bend := goodIn_r _ [191, 192, 193, 194, 79, 195, 196, 197, 5, 198, 126, 127, 128, 129, 91, 92, 130, 131, 132, 133, 118, 119, 120, 199, 200, 201, 202, 121, 122, 123, 124, 125, 861, 862, 863, 864, 865, 866, 867, 868, 869, 870, 871, 872, 873, 874, 875, 876, 877, 878, 879, 880, 881, 882, 883] (by decide +kernel) (by decide +kernel)
set_option maxRecDepth 20000 in
theorem gL_law_X6_bend : GoodIn wsL_law (wsV RL 29 RX6 yX6_bend wsX6_bend) := goodIn_app (goodIn_of _ (by decide +kernel)) ggL_law_X6_bend
set_option maxRecDepth 20000 in
theorem ggL_law_X5_height : GoodIn wsL_law wsX5_height := goodIn_r _ [206, 16, 172, 173, 174, 175, 15, 176, 177, 109, 110, 111, 44, 45, 178, 179, 2, 180, 184, 185, 186, 187, 38, 854, 855, 856, 857, 858, 859, 860, 884, 885, 886, 887] (by decide +kernel) (by decide +kernel)
set_option maxRecDepth 20000 in
theorem gL_law_X5_height : GoodIn wsL_law (wsV RL 30 RX5 yX5_height wsX5_height) := goodIn_app (goodIn_of _ (by decide +kernel)) ggL_law_X5_height
set_option maxRecDepth 20000 in
theorem ggL_law_X6_height : GoodIn wsL_law wsX6_height := goodIn_r _ [210, 192, 79, 195, 196, 197, 5, 198, 126, 127, 128, 129, 91, 92, 130, 131, 132, 133, 118, 119, 120, 199, 200, 201, 202, 861, 862, 863, 864, 865, 866, 867, 868, 869, 870, 871, 872, 873, 874, 875, 876, 877, 878, 879, 880, 881, 882, 883] (by decide +kernel) (by decide +kernel)
set_option maxRecDepth 20000 in
theorem gL_law_X6_height : GoodIn wsL_law (wsV RL 34 RX6 yX6_height wsX6_height) := goodIn_app (goodIn_of _ (by decide +kernel)) ggL_law_X6_height
set_option maxRecDepth 20000 in
theorem ggL_law_X5_shape : GoodIn wsL_law wsX5_shape := goodIn_r _ [214, 215, 16, 30, 216, 24, 217, 218, 2, 219, 173, 174, 175, 15, 176, 177, 109, 110, 111, 44, 45, 220, 221, 222, 223, 224, 225, 32, 226, 227, 228, 229, 230, 231, 232, 233, 234, 235, 236, 237, 238, 239, 240, 241, 108, 242, 243, 244, 245, 246, 247, 248, 74, 249, 181, 182, 183, 250, 251, 252, 253, 151, 152, 153, 154, 38, 103, 104, 105, 23, 106, 107, 854, 855, 856, 857, 858, 859, 860, 884, 885, 886, 887, 905, 906, 907, 908, 891, 892, 893, 894, 895, 896, 897, 898, 899, 900, 901, 902, 903] (by decide +kernel) (by decide +kernel)
set_option maxRecDepth 20000 in
theorem gL_law_X5_shape : GoodIn wsL_law (wsV RL 35 RX5 yX5_shape wsX5_shape) := goodIn_app (goodIn_of _ (by decide +kernel)) ggL_law_X5_shape
set_option maxRecDepth 20000 in
theorem ggL_law_X6_shape : GoodIn wsL_law wsX6_shape := goodIn_r _ [257, 258, 87, 88, 116, 89, 193, 194, 79, 259, 260, 5, 261, 262, 118, 119, 120, 195, 196, 197, 198, 126, 127, 128, 129, 91, 92, 130, 131, 132, 133, 263, 264, 265, 266, 267, 268, 269, 270, 271, 272, 273, 274, 121, 122, 123, 124, 125, 861, 862, 863, 864, 865, 866, 867, 868, 869, 870, 871, 872, 873, 874, 875, 876, 877, 878, 879, 880, 881, 882, 883] (by decide +kernel) (by decide +kernel)
set_option maxRecDepth 20000 in
theorem gL_law_X6_shape : GoodIn wsL_law (wsV RL 39 RX6 yX6_shape wsX6_shape) := goodIn_app (goodIn_of _ (by decide +kernel)) ggL_law_X6_shape
set_option maxRecDepth 20000 in
theorem ggL_law_X5_sideOf : GoodIn wsL_law wsX5_sideOf := goodIn_r _ [278, 16, 279, 280, 281, 15, 282, 283, 284, 285, 286, 287, 288, 289, 290, 44, 45, 291, 292, 293, 294, 39, 854, 855, 856, 857, 858, 859, 860, 884, 885, 886, 887] (by decide +kernel) (by decide +kernel)
set_option maxRecDepth 20000 in
theorem gL_law_X5_sideOf : GoodIn wsL_law (wsV RL 40 RX5 yX5_sideOf wsX5_sideOf) := goodIn_app (goodIn_of _ (by decide +kernel)) ggL_law_X5_sideOf
set_option maxRecDepth 20000 in
theorem ggL_law_X6_sideOf : GoodIn wsL_law wsX6_sideOf := goodIn_r _ [298, 262, 299, 300, 301, 5, 302, 303, 304, 305, 306, 91, 92, 118, 119, 120, 307, 308, 309, 310, 130, 131, 132, 133, 861, 862, 863, 864, 865, 866, 867, 868, 869, 870, 871, 872, 873, 874, 875, 876, 877, 878, 879, 880, 881, 882, 883] (by decide +kernel) (by decide +kernel)
set_option maxRecDepth 20000 in
theorem gL_law_X6_sideOf : GoodIn wsL_law (wsV RL 43 RX6 yX6_sideOf wsX6_sideOf) := goodIn_app (goodIn_of _ (by decide +kernel)) ggL_law_X6_sideOf
set_option maxRecDepth 20000 in
theorem ggL_law_X5_edge : GoodIn wsL_law wsX5_edge := goodIn_r _ [314, 16, 172, 279, 280, 281, 15, 282, 283, 284, 285, 286, 287, 288, 289, 290, 44, 45, 178, 179, 2, 180, 315, 316, 317, 318, 319, 292, 293, 294, 39, 320, 321, 322, 323, 324, 185, 186, 187, 38, 854, 855, 856, 857, 858, 859, 860, 884, 885, 886, 887] (by decide +kernel) (by decide +kernel)
set_option maxRecDepth 20000 in
theorem gL_law_X5_edge : GoodIn wsL_law (wsV RL 44 RX5 yX5_edge wsX5_edge) := goodIn_app (goodIn_of _ (by decide +kernel)) ggL_law_X5_edge
set_option maxRecDepth 20000 in
theorem ggL_law_X6_edge : GoodIn wsL_law wsX6_edge := goodIn_r _ [328, 262, 192, 299, 300, 301, 5, 302, 303, 304, 305, 306, 91, 92, 118, 119, 120, 307, 308, 309, 310, 130, 131, 132, 133, 199, 200, 201, 202, 329, 330, 331, 332, 79, 861, 862, 863, 864, 865, 866, 867, 868, 869, 870, 871, 872, 873, 874, 875, 876, 877, 878, 879, 880, 881, 882, 883] (by decide +kernel) (by decide +kernel)
set_option maxRecDepth 20000 in
theorem gL_law_X6_edge : GoodIn wsL_law (wsV RL 47 RX6 yX6_edge wsX6_edge) := goodIn_app (goodIn_of _ (by decide +kernel)) ggL_law_X6_edge
set_option maxRecDepth 20000 in
theorem ggL_law_X5_far : GoodIn wsL_law wsX5_far := goodIn_r _ [336, 16, 279, 280, 281, 15, 282, 283, 284, 285, 286, 287, 288, 289, 290, 44, 45, 315, 316, 317, 318, 319, 292, 293, 294, 39, 337, 338, 339, 340, 341, 342, 343, 344, 345, 321, 322, 323, 324, 185, 186, 187, 38, 854, 855, 856, 857, 858, 859, 860, 884, 885, 886, 887] (by decide +kernel) (by decide +kernel)
set_option maxRecDepth 20000 in
theorem gL_law_X5_far : GoodIn wsL_law (wsV RL 48 RX5 yX5_far wsX5_far) := goodIn_app (goodIn_of _ (by decide +kernel)) ggL_law_X5_far
set_option maxRecDepth 20000 in
theorem ggL_law_X6_far : GoodIn wsL_law wsX6_far := goodIn_r _ [349, 262, 299, 300, 301, 5, 302, 303, 304, 305, 306, 91, 92, 118, 119, 120, 307, 308, 309, 310, 130, 131, 132, 133, 350, 351, 352, 353, 329, 330, 331, 332, 79, 354, 355, 356, 861, 862, 863, 864, 865, 866, 867, 868, 869, 870, 871, 872, 873, 874, 875, 876, 877, 878, 879, 880, 881, 882, 883] (by decide +kernel) (by decide +kernel)
set_option maxRecDepth 20000 in
theorem gL_law_X6_far : GoodIn wsL_law (wsV RL 52 RX6 yX6_far wsX6_far) := goodIn_app (goodIn_of _ (by decide +kernel)) ggL_law_X6_far
set_option maxRecDepth 20000 in
theorem ggL_law_X5_kind : GoodIn wsL_law wsX5_kind := goodIn_r _ [360, 16, 173, 174, 175, 15, 176, 177, 109, 110, 111, 44, 45, 361, 362, 363, 364, 365, 366, 367, 368, 324, 185, 186, 187, 38, 369, 370, 371, 372, 854, 855, 856, 857, 858, 859, 860, 884, 885, 886, 887] (by decide +kernel) (by decide +kernel)
set_option maxRecDepth 20000 in
theorem gL_law_X5_kind : GoodIn wsL_law (wsV RL 53 RX5 yX5_kind wsX5_kind) := goodIn_app (goodIn_of _ (by decide +kernel)) ggL_law_X5_kind
set_option maxRecDepth 20000 in
theorem ggL_law_X6_kind : GoodIn wsL_law wsX6_kind := goodIn_r _ [376, 195, 196, 197, 5, 198, 126, 127, 128, 129, 91, 92, 130, 131, 132, 133, 118, 119, 120, 377, 378, 379, 380, 381, 382, 383, 384, 79, 385, 386, 387, 388, 861, 862, 863, 864, 865, 866, 867, 868, 869, 870, 871, 872, 873, 874, 875, 876, 877, 878, 879, 880, 881, 882, 883] (by decide +kernel) (by decide +kernel)
set_option maxRecDepth 20000 in
theorem gL_law_X6_kind : GoodIn wsL_law (wsV RL 57 RX6 yX6_kind wsX6_kind) := goodIn_app (goodIn_of _ (by decide +kernel)) ggL_law_X6_kind
set_option maxRecDepth 20000 in
theorem ggL_law_X5_unlike : GoodIn wsL_law wsX5_unlike := goodIn_r _ [392, 16, 393, 394, 395, 15, 396, 287, 288, 289, 290, 44, 45, 397, 398, 399, 400, 401, 316, 317, 318, 319, 292, 293, 294, 39, 402, 338, 339, 340, 341, 342, 343, 344, 345, 321, 322, 323, 324, 185, 186, 187, 38, 854, 855, 856, 857, 858, 859, 860, 884, 885, 886, 887] (by decide +kernel) (by decide +kernel)
set_option maxRecDepth 20000 in
theorem gL_law_X5_unlike : GoodIn wsL_law (wsV RL 58 RX5 yX5_unlike wsX5_unlike) := goodIn_app (goodIn_of _ (by decide +kernel)) ggL_law_X5_unlike
set_option maxRecDepth 20000 in
theorem ggL_law_X6_unlike : GoodIn wsL_law wsX6_unlike := goodIn_r _ [406, 407, 408, 409, 410, 5, 411, 412, 303, 304, 305, 306, 91, 92, 307, 308, 309, 310, 130, 131, 132, 133, 350, 351, 352, 353, 329, 330, 331, 332, 79, 354, 355, 356, 861, 862, 863, 864, 865, 866, 867, 868, 869, 870, 871, 872, 873, 874, 875, 876, 877, 878, 879, 880, 881, 882, 883] (by decide +kernel) (by decide +kernel)
set_option maxRecDepth 20000 in
theorem gL_law_X6_unlike : GoodIn wsL_law (wsV RL 62 RX6 yX6_unlike wsX6_unlike) := goodIn_app (goodIn_of _ (by decide +kernel)) ggL_law_X6_unlike
set_option maxRecDepth 20000 in
theorem ggL_law_X5_traps : GoodIn wsL_law wsX5_traps := goodIn_r _ [416, 16, 417, 418, 419, 15, 420, 287, 288, 289, 290, 44, 45, 397, 398, 399, 400, 401, 316, 317, 318, 319, 292, 293, 294, 39, 402, 338, 339, 340, 341, 342, 343, 344, 345, 321, 322, 323, 324, 185, 186, 187, 38, 854, 855, 856, 857, 858, 859, 860, 884, 885, 886, 887] (by decide +kernel) (by decide +kernel)
set_option maxRecDepth 20000 in
theorem gL_law_X5_traps : GoodIn wsL_law (wsV RL 63 RX5 yX5_traps wsX5_traps) := goodIn_app (goodIn_of _ (by decide +kernel)) ggL_law_X5_traps
set_option maxRecDepth 20000 in
theorem ggL_law_X6_traps : GoodIn wsL_law wsX6_traps := goodIn_r _ [424, 412, 408, 409, 410, 5, 411, 407, 303, 304, 305, 306, 91, 92, 307, 308, 309, 310, 130, 131, 132, 133, 350, 351, 352, 353, 329, 330, 331, 332, 79, 354, 355, 356, 861, 862, 863, 864, 865, 866, 867, 868, 869, 870, 871, 872, 873, 874, 875, 876, 877, 878, 879, 880, 881, 882, 883] (by decide +kernel) (by decide +kernel)
set_option maxRecDepth 20000 in
theorem gL_law_X6_traps : GoodIn wsL_law (wsV RL 66 RX6 yX6_traps wsX6_traps) := goodIn_app (goodIn_of _ (by decide +kernel)) ggL_law_X6_traps
set_option maxRecDepth 20000 in
theorem ggL_law_X5_alike : GoodIn wsL_law wsX5_alike := goodIn_r _ [428, 16, 24, 173, 174, 175, 15, 176, 177, 109, 110, 111, 44, 45, 103, 104, 105, 23, 106, 107, 429, 430, 431, 432, 369, 370, 371, 372, 324, 185, 186, 187, 38, 433, 152, 153, 154, 854, 855, 856, 857, 858, 859, 860, 884, 885, 886, 887, 891, 892, 893, 894, 895, 896, 897, 898, 899, 900, 901, 902, 903] (by decide +kernel) (by decide +kernel)
set_option maxRecDepth 20000 in
theorem gL_law_X5_alike : GoodIn wsL_law (wsV RL 67 RX5 yX5_alike wsX5_alike) := goodIn_app (goodIn_of _ (by decide +kernel)) ggL_law_X5_alike
set_option maxRecDepth 20000 in
theorem ggL_law_X6_alike : GoodIn wsL_law wsX6_alike := goodIn_r _ [437, 79, 195, 196, 197, 5, 198, 126, 127, 128, 129, 91, 92, 130, 131, 132, 133, 118, 119, 120, 121, 122, 123, 124, 125, 861, 862, 863, 864, 865, 866, 867, 868, 869, 870, 871, 872, 873, 874, 875, 876, 877, 878, 879, 880, 881, 882, 883] (by decide +kernel) (by decide +kernel)
set_option maxRecDepth 20000 in
theorem gL_law_X6_alike : GoodIn wsL_law (wsV RL 71 RX6 yX6_alike wsX6_alike) := goodIn_app (goodIn_of _ (by decide +kernel)) ggL_law_X6_alike
set_option maxRecDepth 20000 in
theorem ggL_law_X5_lay : GoodIn wsL_law wsX5_lay := goodIn_r _ [441, 16, 20, 24, 442, 284, 285, 15, 286, 287, 288, 289, 290, 44, 45, 443, 444, 445, 19, 446, 102, 447, 448, 449, 450, 53, 54, 451, 103, 104, 105, 23, 106, 107, 452, 453, 454, 455, 854, 855, 856, 857, 858, 859, 860, 884, 885, 886, 887, 888, 889, 890, 891, 892, 893, 894, 895, 896, 897, 898, 899, 900, 901, 902, 903] (by decide +kernel) (by decide +kernel)
set_option maxRecDepth 20000 in
theorem gL_law_X5_lay : GoodIn wsL_law (wsV RL 72 RX5 yX5_lay wsX5_lay) := goodIn_app (goodIn_of _ (by decide +kernel)) ggL_law_X5_lay
set_option maxRecDepth 20000 in
theorem ggL_law_X6_lay : GoodIn wsL_law wsX6_lay := goodIn_r _ [459, 262, 117, 80, 81, 299, 300, 301, 5, 302, 303, 304, 305, 306, 91, 92, 118, 119, 120, 121, 122, 123, 124, 125, 861, 862, 863, 864, 865, 866, 867, 868, 869, 870, 871, 872, 873, 874, 875, 876, 877, 878, 879, 880, 881, 882, 883] (by decide +kernel) (by decide +kernel)
set_option maxRecDepth 20000 in
theorem gL_law_X6_lay : GoodIn wsL_law (wsV RL 75 RX6 yX6_lay wsX6_lay) := goodIn_app (goodIn_of _ (by decide +kernel)) ggL_law_X6_lay
set_option maxRecDepth 20000 in
theorem ggL_law_X5_heap : GoodIn wsL_law wsX5_heap := goodIn_r _ [463, 20, 16, 28, 24, 98, 99, 100, 19, 101, 102, 464, 288, 289, 15, 290, 44, 45, 447, 448, 449, 450, 53, 54, 451, 444, 445, 446, 138, 139, 140, 27, 141, 142, 452, 453, 454, 455, 143, 144, 145, 146, 147, 148, 149, 150, 465, 466, 467, 468, 469, 470, 471, 472, 473, 474, 475, 476, 103, 104, 105, 23, 106, 107, 854, 855, 856, 857, 858, 859, 860, 888, 889, 890, 884, 885, 886, 887, 904, 891, 892, 893, 894, 895, 896, 897, 898, 899, 900, 901, 902, 903] (by decide +kernel) (by decide +kernel)
set_option maxRecDepth 20000 in
theorem gL_law_X5_heap : GoodIn wsL_law (wsV RL 76 RX5 yX5_heap wsX5_heap) := goodIn_app (goodIn_of _ (by decide +kernel)) ggL_law_X5_heap
set_option maxRecDepth 20000 in
theorem ggL_law_X6_heap : GoodIn wsL_law wsX6_heap := goodIn_r _ [480, 159, 117, 80, 81, 303, 304, 305, 5, 306, 91, 92, 160, 161, 162, 163, 164, 165, 166, 167, 121, 122, 123, 124, 125, 861, 862, 863, 864, 865, 866, 867, 868, 869, 870, 871, 872, 873, 874, 875, 876, 877, 878, 879, 880, 881, 882, 883] (by decide +kernel) (by decide +kernel)
set_option maxRecDepth 20000 in
theorem gL_law_X6_heap : GoodIn wsL_law (wsV RL 79 RX6 yX6_heap wsX6_heap) := goodIn_app (goodIn_of _ (by decide +kernel)) ggL_law_X6_heap
set_option maxRecDepth 20000 in
theorem ggL_law_X5_take : GoodIn wsL_law wsX5_take := goodIn_r _ [484, 20, 24, 485, 470, 471, 19, 472, 102, 486, 487, 488, 489, 53, 469, 490, 491, 492, 493, 54, 103, 104, 105, 23, 106, 107, 854, 855, 856, 857, 858, 859, 860, 888, 889, 890, 891, 892, 893, 894, 895, 896, 897, 898, 899, 900, 901, 902, 903] (by decide +kernel) (by decide +kernel)
set_option maxRecDepth 20000 in
theorem gL_law_X5_take : GoodIn wsL_law (wsV RL 80 RX5 yX5_take wsX5_take) := goodIn_app (goodIn_of _ (by decide +kernel)) ggL_law_X5_take
set_option maxRecDepth 20000 in
theorem ggL_law_X6_take : GoodIn wsL_law wsX6_take := goodIn_r _ [497, 80, 117, 81, 498, 499, 500, 5, 501, 118, 119, 120, 121, 122, 123, 124, 125, 861, 862, 863, 864, 865, 866, 867, 868, 869, 870, 871, 872, 873, 874, 875, 876, 877, 878, 879, 880, 881, 882, 883] (by decide +kernel) (by decide +kernel)
set_option maxRecDepth 20000 in
theorem gL_law_X6_take : GoodIn wsL_law (wsV RL 83 RX6 yX6_take wsX6_take) := goodIn_app (goodIn_of _ (by decide +kernel)) ggL_law_X6_take
set_option maxRecDepth 20000 in
theorem ggL_law_X5_heaped : GoodIn wsL_law wsX5_heaped := goodIn_r _ [505, 20, 485, 470, 471, 19, 472, 102, 486, 487, 488, 489, 53, 469, 506, 507, 508, 509, 54, 854, 855, 856, 857, 858, 859, 860, 888, 889, 890] (by decide +kernel) (by decide +kernel)
set_option maxRecDepth 20000 in
theorem gL_law_X5_heaped : GoodIn wsL_law (wsV RL 84 RX5 yX5_heaped wsX5_heaped) := goodIn_app (goodIn_of _ (by decide +kernel)) ggL_law_X5_heaped
set_option maxRecDepth 20000 in
theorem ggL_law_X6_heaped : GoodIn wsL_law wsX6_heaped := goodIn_r _ [513, 80, 81, 498, 499, 500, 5, 501, 117, 118, 119, 120, 861, 862, 863, 864, 865, 866, 867, 868, 869, 870, 871, 872, 873, 874, 875, 876, 877, 878, 879, 880, 881, 882, 883] (by decide +kernel) (by decide +kernel)
set_option maxRecDepth 20000 in
theorem gL_law_X6_heaped : GoodIn wsL_law (wsV RL 87 RX6 yX6_heaped wsX6_heaped) := goodIn_app (goodIn_of _ (by decide +kernel)) ggL_law_X6_heaped
set_option maxRecDepth 20000 in
theorem ggL_law_X5_missing : GoodIn wsL_law wsX5_missing := goodIn_r _ [517, 518, 519, 2, 520, 521, 522, 523, 524, 16, 464, 288, 289, 15, 290, 44, 45, 525, 526, 527, 528, 20, 529, 530, 531, 19, 532, 102, 53, 854, 855, 856, 857, 858, 859, 860, 884, 885, 886, 887, 888, 889, 890] (by decide +kernel) (by decide +kernel)
set_option maxRecDepth 20000 in
theorem gL_law_X5_missing : GoodIn wsL_law (wsV RL 88 RX5 yX5_missing wsX5_missing) := goodIn_app (goodIn_of _ (by decide +kernel)) ggL_law_X5_missing
set_option maxRecDepth 20000 in
theorem ggL_law_X6_missing : GoodIn wsL_law wsX6_missing := goodIn_r _ [536, 118, 119, 5, 120, 303, 304, 305, 306, 91, 92, 537, 538, 539, 540, 541, 542, 543, 544, 117, 80, 861, 862, 863, 864, 865, 866, 867, 868, 869, 870, 871, 872, 873, 874, 875, 876, 877, 878, 879, 880, 881, 882, 883] (by decide +kernel) (by decide +kernel)
set_option maxRecDepth 20000 in
theorem gL_law_X6_missing : GoodIn wsL_law (wsV RL 91 RX6 yX6_missing wsX6_missing) := goodIn_app (goodIn_of _ (by decide +kernel)) ggL_law_X6_missing
set_option maxRecDepth 20000 in
theorem ggL_law_X5_missed : GoodIn wsL_law wsX5_missed := goodIn_r _ [548, 518, 519, 2, 520, 549, 550, 551, 552, 16, 464, 288, 289, 15, 290, 44, 45, 525, 526, 527, 528, 20, 529, 530, 531, 19, 532, 102, 53, 854, 855, 856, 857, 858, 859, 860, 884, 885, 886, 887, 888, 889, 890] (by decide +kernel) (by decide +kernel)
set_option maxRecDepth 20000 in
theorem gL_law_X5_missed : GoodIn wsL_law (wsV RL 92 RX5 yX5_missed wsX5_missed) := goodIn_app (goodIn_of _ (by decide +kernel)) ggL_law_X5_missed
set_option maxRecDepth 20000 in
theorem ggL_law_X6_missed : GoodIn wsL_law wsX6_missed := goodIn_r _ [556, 118, 119, 5, 120, 557, 534, 535, 536, 303, 304, 305, 306, 91, 92, 537, 538, 539, 540, 541, 542, 543, 544, 117, 80, 861, 862, 863, 864, 865, 866, 867, 868, 869, 870, 871, 872, 873, 874, 875, 876, 877, 878, 879, 880, 881, 882, 883] (by decide +kernel) (by decide +kernel)
set_option maxRecDepth 20000 in
theorem gL_law_X6_missed : GoodIn wsL_law (wsV RL 95 RX6 yX6_missed wsX6_missed) := goodIn_app (goodIn_of _ (by decide +kernel)) ggL_law_X6_missed
set_option maxRecDepth 20000 in
theorem ggL_law_X5_ways : GoodIn wsL_law wsX5_ways := goodIn_r _ [561, 24, 562, 563, 564, 23, 565, 566, 567, 568, 569, 570, 571, 67, 63, 572, 573, 574, 453, 454, 19, 455, 102, 575, 576, 577, 578, 66, 59, 60, 579, 487, 488, 489, 53, 469, 470, 471, 472, 580, 316, 317, 15, 318, 319, 292, 293, 294, 39, 581, 582, 583, 584, 585, 321, 322, 323, 324, 185, 186, 187, 38, 586, 587, 588, 589, 590, 507, 508, 509, 54, 591, 592, 593, 594, 595, 64, 596, 288, 289, 290, 44, 45, 597, 598, 599, 600, 61, 601, 602, 603, 604, 605, 606, 607, 608, 854, 855, 856, 857, 858, 859, 860, 891, 892, 893, 894, 895, 896, 897, 898, 899, 900, 901, 902, 903, 888, 889, 890, 884, 885, 886, 887] (by decide +kernel) (by decide +kernel)
set_option maxRecDepth 20000 in
theorem gL_law_X5_ways : GoodIn wsL_law (wsV RL 96 RX5 yX5_ways wsX5_ways) := goodIn_app (goodIn_of _ (by decide +kernel)) ggL_law_X5_ways
set_option maxRecDepth 20000 in
theorem ggL_law_X6_ways : GoodIn wsL_law wsX6_ways := goodIn_r _ [612, 613, 614, 615, 616, 5, 617, 618, 84, 82, 83, 117, 619, 620, 621, 622, 623, 91, 92, 624, 625, 626, 627, 80, 628, 629, 630, 631, 81, 307, 308, 309, 310, 130, 131, 132, 133, 632, 633, 634, 635, 350, 351, 352, 353, 329, 330, 331, 332, 79, 354, 355, 356, 303, 304, 305, 306, 861, 862, 863, 864, 865, 866, 867, 868, 869, 870, 871, 872, 873, 874, 875, 876, 877, 878, 879, 880, 881, 882, 883] (by decide +kernel) (by decide +kernel)
set_option maxRecDepth 20000 in
theorem gL_law_X6_ways : GoodIn wsL_law (wsV RL 99 RX6 yX6_ways wsX6_ways) := goodIn_app (goodIn_of _ (by decide +kernel)) ggL_law_X6_ways
set_option maxRecDepth 20000 in
theorem ggL_law_X5_join : GoodIn wsL_law wsX5_join := goodIn_r _ [639, 24, 640, 641, 642, 23, 643, 566, 567, 107, 66, 65, 64, 568, 569, 570, 571, 67, 63, 572, 573, 574, 453, 454, 19, 455, 102, 575, 576, 577, 578, 59, 60, 579, 487, 488, 489, 53, 469, 470, 471, 472, 580, 316, 317, 15, 318, 319, 292, 293, 294, 39, 581, 582, 583, 584, 585, 321, 322, 323, 324, 185, 186, 187, 38, 586, 587, 588, 589, 590, 507, 508, 509, 54, 591, 592, 593, 594, 595, 596, 288, 289, 290, 44, 45, 597, 598, 599, 600, 61, 601, 602, 603, 604, 605, 606, 607, 608, 854, 855, 856, 857, 858, 859, 860, 891, 892, 893, 894, 895, 896, 897, 898, 899, 900, 901, 902, 903, 888, 889, 890, 884, 885, 886, 887] (by decide +kernel) (by decide +kernel)
set_option maxRecDepth 20000 in
theorem gL_law_X5_join : GoodIn wsL_law (wsV RL 100 RX5 yX5_join wsX5_join) := goodIn_app (goodIn_of _ (by decide +kernel)) ggL_law_X5_join
set_option maxRecDepth 20000 in
theorem ggL_law_X6_join : GoodIn wsL_law wsX6_join := goodIn_r _ [647, 613, 125, 85, 82, 86, 83, 614, 615, 616, 5, 617, 618, 84, 117, 619, 620, 621, 622, 623, 91, 92, 624, 625, 626, 627, 80, 628, 629, 630, 631, 81, 307, 308, 309, 310, 130, 131, 132, 133, 632, 633, 634, 635, 350, 351, 352, 353, 329, 330, 331, 332, 79, 354, 355, 356, 303, 304, 305, 306, 861, 862, 863, 864, 865, 866, 867, 868, 869, 870, 871, 872, 873, 874, 875, 876, 877, 878, 879, 880, 881, 882, 883] (by decide +kernel) (by decide +kernel)
set_option maxRecDepth 20000 in
theorem gL_law_X6_join : GoodIn wsL_law (wsV RL 103 RX6 yX6_join wsX6_join) := goodIn_app (goodIn_of _ (by decide +kernel)) ggL_law_X6_join
set_option maxRecDepth 20000 in
theorem ggL_law_X5_joined : GoodIn wsL_law wsX5_joined := goodIn_r _ [651, 24, 16, 652, 653, 654, 23, 655, 107, 442, 284, 285, 15, 286, 287, 288, 289, 290, 44, 45, 656, 657, 658, 659, 66, 65, 660, 661, 662, 663, 664, 854, 855, 856, 857, 858, 859, 860, 891, 892, 893, 894, 895, 896, 897, 898, 899, 900, 901, 902, 903, 884, 885, 886, 887] (by decide +kernel) (by decide +kernel)
set_option maxRecDepth 20000 in
theorem gL_law_X5_joined : GoodIn wsL_law (wsV RL 104 RX5 yX5_joined wsX5_joined) := goodIn_app (goodIn_of _ (by decide +kernel)) ggL_law_X5_joined
set_option maxRecDepth 20000 in
theorem ggL_law_X6_joined : GoodIn wsL_law wsX6_joined := goodIn_r _ [668, 125, 85, 86, 299, 300, 301, 5, 302, 303, 304, 305, 306, 91, 92, 118, 119, 120, 861, 862, 863, 864, 865, 866, 867, 868, 869, 870, 871, 872, 873, 874, 875, 876, 877, 878, 879, 880, 881, 882, 883] (by decide +kernel) (by decide +kernel)
set_option maxRecDepth 20000 in
theorem gL_law_X6_joined : GoodIn wsL_law (wsV RL 107 RX6 yX6_joined wsX6_joined) := goodIn_app (goodIn_of _ (by decide +kernel)) ggL_law_X6_joined
set_option maxRecDepth 20000 in
theorem ggL_law_X5_trials : GoodIn wsL_law wsX5_trials := goodIn_r _ [672, 24, 673, 674, 675, 23, 676, 573, 854, 855, 856, 857, 858, 859, 860, 891, 892, 893, 894, 895, 896, 897, 898, 899, 900, 901, 902, 903] (by decide +kernel) (by decide +kernel)
set_option maxRecDepth 20000 in
theorem gL_law_X5_trials : GoodIn wsL_law (wsV RL 108 RX5 yX5_trials wsX5_trials) := goodIn_app (goodIn_of _ (by decide +kernel)) ggL_law_X5_trials
set_option maxRecDepth 20000 in
theorem ggL_law_X6_trials : GoodIn wsL_law wsX6_trials := goodIn_r _ [680, 618, 861, 862, 863, 864, 865, 866, 867, 868, 869, 870, 871, 872, 873, 874, 875, 876, 877, 878, 879, 880, 881, 882, 883] (by decide +kernel) (by decide +kernel)
set_option maxRecDepth 20000 in
theorem gL_law_X6_trials : GoodIn wsL_law (wsV RL 111 RX6 yX6_trials wsX6_trials) := goodIn_app (goodIn_of _ (by decide +kernel)) ggL_law_X6_trials
set_option maxRecDepth 20000 in
theorem ggL_law_X5_known : GoodIn wsL_law wsX5_known := goodIn_r _ [684, 16, 20, 442, 284, 285, 15, 286, 287, 288, 289, 290, 44, 45, 529, 530, 531, 19, 532, 102, 53, 315, 316, 317, 318, 319, 292, 293, 294, 39, 685, 602, 603, 604, 854, 855, 856, 857, 858, 859, 860, 884, 885, 886, 887, 888, 889, 890] (by decide +kernel) (by decide +kernel)
set_option maxRecDepth 20000 in
theorem gL_law_X5_known : GoodIn wsL_law (wsV RL 112 RX5 yX5_known wsX5_known) := goodIn_app (goodIn_of _ (by decide +kernel)) ggL_law_X5_known
set_option maxRecDepth 20000 in
theorem ggL_law_X6_known : GoodIn wsL_law wsX6_known := goodIn_r _ [689, 299, 300, 301, 5, 302, 303, 304, 305, 306, 91, 92, 118, 119, 120, 541, 542, 543, 544, 117, 80, 307, 308, 309, 310, 130, 131, 132, 133, 690, 691, 692, 693, 861, 862, 863, 864, 865, 866, 867, 868, 869, 870, 871, 872, 873, 874, 875, 876, 877, 878, 879, 880, 881, 882, 883] (by decide +kernel) (by decide +kernel)
set_option maxRecDepth 20000 in
theorem gL_law_X6_known : GoodIn wsL_law (wsV RL 115 RX6 yX6_known wsX6_known) := goodIn_app (goodIn_of _ (by decide +kernel)) ggL_law_X6_known
set_option maxRecDepth 20000 in
theorem ggL_law_X5_sheet : GoodIn wsL_law wsX5_sheet := goodIn_r _ [697, 215, 30, 217, 218, 2, 219, 220, 221, 222, 229, 230, 231, 232, 698, 699, 700, 32, 701, 227, 228, 702, 703, 343, 704, 705, 706, 707, 241, 74, 854, 855, 856, 857, 858, 859, 860, 905, 906, 907, 908] (by decide +kernel) (by decide +kernel)
set_option maxRecDepth 20000 in
theorem gL_law_X5_sheet : GoodIn wsL_law (wsV RL 116 RX5 yX5_sheet wsX5_sheet) := goodIn_app (goodIn_of _ (by decide +kernel)) ggL_law_X5_sheet
set_option maxRecDepth 20000 in
theorem ggL_law_X6_sheet : GoodIn wsL_law wsX6_sheet := goodIn_r _ [711, 258, 87, 88, 89, 259, 260, 5, 261, 262, 118, 119, 120, 263, 264, 265, 266, 267, 268, 269, 270, 271, 861, 862, 863, 864, 865, 866, 867, 868, 869, 870, 871, 872, 873, 874, 875, 876, 877, 878, 879, 880, 881, 882, 883] (by decide +kernel) (by decide +kernel)
set_option maxRecDepth 20000 in
theorem gL_law_X6_sheet : GoodIn wsL_law (wsV RL 119 RX6 yX6_sheet wsX6_sheet) := goodIn_app (goodIn_of _ (by decide +kernel)) ggL_law_X6_sheet
set_option maxRecDepth 20000 in
theorem ggL_law_X5_lose : GoodIn wsL_law wsX5_lose := goodIn_r _ [715, 30, 217, 218, 2, 219, 233, 234, 235, 32, 236, 227, 716, 717, 718, 719, 241, 854, 855, 856, 857, 858, 859, 860, 905, 906, 907, 908] (by decide +kernel) (by decide +kernel)
set_option maxRecDepth 20000 in
theorem gL_law_X5_lose : GoodIn wsL_law (wsV RL 120 RX5 yX5_lose wsX5_lose) := goodIn_app (goodIn_of _ (by decide +kernel)) ggL_law_X5_lose
set_option maxRecDepth 20000 in
theorem ggL_law_X6_lose : GoodIn wsL_law wsX6_lose := goodIn_r _ [723, 87, 259, 260, 5, 261, 262, 118, 119, 120, 861, 862, 863, 864, 865, 866, 867, 868, 869, 870, 871, 872, 873, 874, 875, 876, 877, 878, 879, 880, 881, 882, 883] (by decide +kernel) (by decide +kernel)
set_option maxRecDepth 20000 in
theorem gL_law_X6_lose : GoodIn wsL_law (wsV RL 123 RX6 yX6_lose wsX6_lose) := goodIn_app (goodIn_of _ (by decide +kernel)) ggL_law_X6_lose
set_option maxRecDepth 20000 in
theorem ggL_law_X5_put : GoodIn wsL_law wsX5_put := goodIn_r _ [727, 215, 30, 217, 218, 2, 219, 233, 234, 235, 32, 236, 227, 229, 230, 231, 232, 237, 238, 239, 240, 241, 728, 729, 730, 731, 74, 249, 732, 733, 734, 735, 228, 854, 855, 856, 857, 858, 859, 860, 905, 906, 907, 908] (by decide +kernel) (by decide +kernel)
set_option maxRecDepth 20000 in
theorem gL_law_X5_put : GoodIn wsL_law (wsV RL 124 RX5 yX5_put wsX5_put) := goodIn_app (goodIn_of _ (by decide +kernel)) ggL_law_X5_put
set_option maxRecDepth 20000 in
theorem ggL_law_X6_put : GoodIn wsL_law wsX6_put := goodIn_r _ [739, 89, 88, 259, 260, 5, 261, 262, 118, 119, 120, 263, 264, 265, 266, 267, 740, 741, 742, 743, 87, 268, 269, 270, 271, 861, 862, 863, 864, 865, 866, 867, 868, 869, 870, 871, 872, 873, 874, 875, 876, 877, 878, 879, 880, 881, 882, 883] (by decide +kernel) (by decide +kernel)
set_option maxRecDepth 20000 in
theorem gL_law_X6_put : GoodIn wsL_law (wsV RL 127 RX6 yX6_put wsX6_put) := goodIn_app (goodIn_of _ (by decide +kernel)) ggL_law_X6_put
set_option maxRecDepth 20000 in
theorem ggL_law_X5_cell : GoodIn wsL_law wsX5_cell := goodIn_r _ [747, 215, 172, 30, 217, 218, 2, 219, 220, 221, 222, 223, 224, 225, 32, 226, 227, 228, 748, 749, 750, 751, 233, 234, 235, 236, 237, 238, 239, 240, 241, 245, 246, 247, 248, 74, 249, 854, 855, 856, 857, 858, 859, 860, 905, 906, 907, 908] (by decide +kernel) (by decide +kernel)
set_option maxRecDepth 20000 in
theorem gL_law_X5_cell : GoodIn wsL_law (wsV RL 128 RX5 yX5_cell wsX5_cell) := goodIn_app (goodIn_of _ (by decide +kernel)) ggL_law_X5_cell
set_option maxRecDepth 20000 in
theorem ggL_law_X6_cell : GoodIn wsL_law wsX6_cell := goodIn_r _ [755, 267, 258, 87, 88, 89, 259, 260, 5, 261, 262, 118, 119, 120, 199, 200, 201, 202, 756, 757, 758, 759, 740, 741, 742, 743, 861, 862, 863, 864, 865, 866, 867, 868, 869, 870, 871, 872, 873, 874, 875, 876, 877, 878, 879, 880, 881, 882, 883] (by decide +kernel) (by decide +kernel)
set_option maxRecDepth 20000 in
theorem gL_law_X6_cell : GoodIn wsL_law (wsV RL 131 RX6 yX6_cell wsX6_cell) := goodIn_app (goodIn_of _ (by decide +kernel)) ggL_law_X6_cell
set_option maxRecDepth 20000 in
theorem ggL_law_X5_copy : GoodIn wsL_law wsX5_copy := goodIn_r _ [763, 215, 30, 217, 218, 2, 219, 233, 234, 235, 32, 236, 227, 229, 230, 231, 232, 764, 765, 766, 767, 228, 223, 224, 225, 226, 237, 238, 239, 240, 241, 768, 769, 770, 771, 74, 772, 773, 774, 775, 249, 854, 855, 856, 857, 858, 859, 860, 905, 906, 907, 908] (by decide +kernel) (by decide +kernel)
set_option maxRecDepth 20000 in
theorem gL_law_X5_copy : GoodIn wsL_law (wsV RL 132 RX5 yX5_copy wsX5_copy) := goodIn_app (goodIn_of _ (by decide +kernel)) ggL_law_X5_copy
set_option maxRecDepth 20000 in
theorem ggL_law_X6_copy : GoodIn wsL_law wsX6_copy := goodIn_r _ [779, 87, 88, 90, 89, 259, 260, 5, 261, 262, 118, 119, 120, 263, 264, 265, 266, 267, 268, 269, 270, 271, 272, 273, 274, 861, 862, 863, 864, 865, 866, 867, 868, 869, 870, 871, 872, 873, 874, 875, 876, 877, 878, 879, 880, 881, 882, 883] (by decide +kernel) (by decide +kernel)
set_option maxRecDepth 20000 in
theorem gL_law_X6_copy : GoodIn wsL_law (wsV RL 135 RX6 yX6_copy wsX6_copy) := goodIn_app (goodIn_of _ (by decide +kernel)) ggL_law_X6_copy
set_option maxRecDepth 20000 in
theorem ggL_law_X5_tell : GoodIn wsL_law wsX5_tell := goodIn_r _ [783, 16, 173, 174, 175, 15, 176, 177, 109, 110, 111, 44, 45, 361, 362, 363, 364, 365, 366, 367, 368, 324, 185, 186, 187, 38, 369, 370, 371, 372, 784, 785, 786, 2, 787, 788, 789, 790, 791, 792, 793, 794, 795, 796, 854, 855, 856, 857, 858, 859, 860, 884, 885, 886, 887] (by decide +kernel) (by decide +kernel)
set_option maxRecDepth 20000 in
theorem gL_law_X5_tell : GoodIn wsL_law (wsV RL 136 RX5 yX5_tell wsX5_tell) := goodIn_app (goodIn_of _ (by decide +kernel)) ggL_law_X5_tell
set_option maxRecDepth 20000 in
theorem ggL_law_X6_tell : GoodIn wsL_law wsX6_tell := goodIn_r _ [800, 79, 195, 196, 197, 5, 198, 126, 127, 128, 129, 91, 92, 130, 131, 132, 133, 118, 119, 120, 377, 378, 379, 380, 381, 382, 383, 384, 385, 386, 387, 388, 801, 802, 803, 804, 805, 861, 862, 863, 864, 865, 866, 867, 868, 869, 870, 871, 872, 873, 874, 875, 876, 877, 878, 879, 880, 881, 882, 883] (by decide +kernel) (by decide +kernel)
set_option maxRecDepth 20000 in
theorem gL_law_X6_tell : GoodIn wsL_law (wsV RL 139 RX6 yX6_tell wsX6_tell) := goodIn_app (goodIn_of _ (by decide +kernel)) ggL_law_X6_tell
set_option maxRecDepth 20000 in
theorem ggL_law_X5_mark : GoodIn wsL_law wsX5_mark := goodIn_r _ [809, 16, 173, 174, 175, 15, 176, 177, 109, 110, 111, 44, 45, 361, 362, 363, 364, 365, 366, 367, 368, 324, 185, 186, 187, 38, 369, 370, 371, 372, 784, 785, 786, 2, 787, 788, 854, 855, 856, 857, 858, 859, 860, 884, 885, 886, 887] (by decide +kernel) (by decide +kernel)
set_option maxRecDepth 20000 in
theorem gL_law_X5_mark : GoodIn wsL_law (wsV RL 140 RX5 yX5_mark wsX5_mark) := goodIn_app (goodIn_of _ (by decide +kernel)) ggL_law_X5_mark
set_option maxRecDepth 20000 in
theorem ggL_law_X6_mark : GoodIn wsL_law wsX6_mark := goodIn_r _ [813, 195, 196, 197, 5, 198, 126, 127, 128, 129, 91, 92, 130, 131, 132, 133, 118, 119, 120, 377, 378, 379, 380, 381, 382, 383, 384, 79, 385, 386, 387, 388, 801, 802, 803, 804, 805, 861, 862, 863, 864, 865, 866, 867, 868, 869, 870, 871, 872, 873, 874, 875, 876, 877, 878, 879, 880, 881, 882, 883] (by decide +kernel) (by decide +kernel)
set_option maxRecDepth 20000 in
theorem gL_law_X6_mark : GoodIn wsL_law (wsV RL 143 RX6 yX6_mark wsX6_mark) := goodIn_app (goodIn_of _ (by decide +kernel)) ggL_law_X6_mark
set_option maxRecDepth 20000 in
theorem ggL_law_X5_as : GoodIn wsL_law wsX5_as := goodIn_r _ [817, 215, 16, 173, 174, 175, 15, 176, 177, 109, 110, 111, 44, 45, 361, 362, 363, 364, 365, 366, 367, 368, 324, 185, 186, 187, 38, 369, 370, 371, 372, 229, 230, 231, 2, 232, 854, 855, 856, 857, 858, 859, 860, 884, 885, 886, 887] (by decide +kernel) (by decide +kernel)
set_option maxRecDepth 20000 in
theorem gL_law_X5_as : GoodIn wsL_law (wsV RL 144 RX5 yX5_as wsX5_as) := goodIn_app (goodIn_of _ (by decide +kernel)) ggL_law_X5_as
set_option maxRecDepth 20000 in
theorem ggL_law_X6_as : GoodIn wsL_law wsX6_as := goodIn_r _ [821, 258, 195, 196, 197, 5, 198, 126, 127, 128, 129, 91, 92, 130, 131, 132, 133, 118, 119, 120, 263, 264, 265, 266, 267, 377, 378, 379, 380, 381, 382, 383, 384, 79, 385, 386, 387, 388, 268, 269, 270, 271, 861, 862, 863, 864, 865, 866, 867, 868, 869, 870, 871, 872, 873, 874, 875, 876, 877, 878, 879, 880, 881, 882, 883] (by decide +kernel) (by decide +kernel)
set_option maxRecDepth 20000 in
theorem gL_law_X6_as : GoodIn wsL_law (wsV RL 147 RX6 yX6_as wsX6_as) := goodIn_app (goodIn_of _ (by decide +kernel)) ggL_law_X6_as
set_option maxRecDepth 20000 in
theorem ggL_law_X5_trace : GoodIn wsL_law wsX5_trace := goodIn_r _ [825, 788, 854, 855, 856, 857, 858, 859, 860] (by decide +kernel) (by decide +kernel)
set_option maxRecDepth 20000 in
theorem gL_law_X5_trace : GoodIn wsL_law (wsV RL 148 RX5 yX5_trace wsX5_trace) := goodIn_app (goodIn_of _ (by decide +kernel)) ggL_law_X5_trace
set_option maxRecDepth 20000 in
theorem ggL_law_X6_trace : GoodIn wsL_law wsX6_trace := goodIn_r _ [829, 805, 861, 862, 863, 864, 865, 866, 867, 868, 869, 870, 871, 872, 873, 874, 875, 876, 877, 878, 879, 880, 881, 882, 883] (by decide +kernel) (by decide +kernel)
set_option maxRecDepth 20000 in
theorem gL_law_X6_trace : GoodIn wsL_law (wsV RL 151 RX6 yX6_trace wsX6_trace) := goodIn_app (goodIn_of _ (by decide +kernel)) ggL_law_X6_trace
set_option maxRecDepth 20000 in
theorem ggL_law_X5_fault : GoodIn wsL_law wsX5_fault := goodIn_r _ [833, 215, 854, 855, 856, 857, 858, 859, 860] (by decide +kernel) (by decide +kernel)
set_option maxRecDepth 20000 in
theorem gL_law_X5_fault : GoodIn wsL_law (wsV RL 152 RX5 yX5_fault wsX5_fault) := goodIn_app (goodIn_of _ (by decide +kernel)) ggL_law_X5_fault
set_option maxRecDepth 20000 in
theorem ggL_law_X6_fault : GoodIn wsL_law wsX6_fault := goodIn_r _ [837, 267, 861, 862, 863, 864, 865, 866, 867, 868, 869, 870, 871, 872, 873, 874, 875, 876, 877, 878, 879, 880, 881, 882, 883] (by decide +kernel) (by decide +kernel)
set_option maxRecDepth 20000 in
theorem gL_law_X6_fault : GoodIn wsL_law (wsV RL 155 RX6 yX6_fault wsX6_fault) := goodIn_app (goodIn_of _ (by decide +kernel)) ggL_law_X6_fault
set_option maxRecDepth 20000 in
theorem ggL_law_X5_told : GoodIn wsL_law wsX5_told := goodIn_r _ [841, 16, 20, 842, 843, 844, 15, 845, 44, 846, 847, 848, 849, 45, 464, 288, 289, 290, 108, 109, 110, 111, 452, 453, 454, 19, 455, 102, 854, 855, 856, 857, 858, 859, 860, 884, 885, 886, 887, 888, 889, 890] (by decide +kernel) (by decide +kernel)
set_option maxRecDepth 20000 in
theorem gL_law_X5_told : GoodIn wsL_law (wsV RL 156 RX5 yX5_told wsX5_told) := goodIn_app (goodIn_of _ (by decide +kernel)) ggL_law_X5_told
set_option maxRecDepth 20000 in
theorem ggL_law_X6_told : GoodIn wsL_law wsX6_told := goodIn_r _ [853, 91, 92, 117, 303, 304, 305, 5, 306, 126, 127, 128, 129, 130, 131, 132, 133, 861, 862, 863, 864, 865, 866, 867, 868, 869, 870, 871, 872, 873, 874, 875, 876, 877, 878, 879, 880, 881, 882, 883] (by decide +kernel) (by decide +kernel)
set_option maxRecDepth 20000 in
theorem gL_law_X6_told : GoodIn wsL_law (wsV RL 159 RX6 yX6_told wsX6_told) := goodIn_app (goodIn_of _ (by decide +kernel)) ggL_law_X6_told
theorem dL_law_0 : decode cL_law 0 = .ok (.new 7, 3) := by decide +kernel
theorem dL_law_3 : decode cL_law 3 = .ok (.dup, 1) := by decide +kernel
theorem dL_law_4 : decode cL_law 4 = .ok (.invokespecial 9, 3) := by decide +kernel
theorem dL_law_7 : decode cL_law 7 = .ok (.astore_n 1, 1) := by decide +kernel
theorem dL_law_8 : decode cL_law 8 = .ok (.new 10, 3) := by decide +kernel
theorem dL_law_11 : decode cL_law 11 = .ok (.dup, 1) := by decide +kernel
theorem dL_law_12 : decode cL_law 12 = .ok (.invokespecial 12, 3) := by decide +kernel
theorem dL_law_15 : decode cL_law 15 = .ok (.astore_n 2, 1) := by decide +kernel
theorem dL_law_16 : decode cL_law 16 = .ok (.iconst 0, 1) := by decide +kernel
theorem dL_law_17 : decode cL_law 17 = .ok (.istore_n 3, 1) := by decide +kernel
theorem dL_law_18 : decode cL_law 18 = .ok (.iload_n 3, 1) := by decide +kernel
theorem dL_law_19 : decode cL_law 19 = .ok (.aload_n 0, 1) := by decide +kernel
theorem dL_law_20 : decode cL_law 20 = .ok (.arraylength, 1) := by decide +kernel
theorem dL_law_21 : decode cL_law 21 = .ok (.bipush 6, 2) := by decide +kernel
theorem dL_law_23 : decode cL_law 23 = .ok (.isub, 1) := by decide +kernel
theorem dL_law_24 : decode cL_law 24 = .ok (.if_icmp .gt 1262, 3) := by decide +kernel
theorem dL_law_27 : decode cL_law 27 = .ok (.aload_n 0, 1) := by decide +kernel
theorem dL_law_28 : decode cL_law 28 = .ok (.iload_n 3, 1) := by decide +kernel
theorem dL_law_29 : decode cL_law 29 = .ok (.iaload, 1) := by decide +kernel
theorem dL_law_30 : decode cL_law 30 = .ok (.bipush 63, 2) := by decide +kernel
theorem dL_law_32 : decode cL_law 32 = .ok (.iand, 1) := by decide +kernel
theorem dL_law_33 : decode cL_law 33 = .ok (.tableswitch 1247 0 33 #[151, 184, 237, 281, 315, 378, 411, 455, 508, 531, 544, 567, 610, 643, 696, 719, 752, 775, 808, 821, 834, 867, 880, 903, 946, 969, 1012, 1056, 1119, 1142, 1165, 1198, 1211, 1224], 151) := by decide +kernel
theorem dL_law_184 : decode cL_law 184 = .ok (.aload_n 1, 1) := by decide +kernel
theorem dL_law_185 : decode cL_law 185 = .ok (.aload_n 0, 1) := by decide +kernel
theorem dL_law_186 : decode cL_law 186 = .ok (.iload_n 3, 1) := by decide +kernel
theorem dL_law_187 : decode cL_law 187 = .ok (.iconst 1, 1) := by decide +kernel
theorem dL_law_188 : decode cL_law 188 = .ok (.iadd, 1) := by decide +kernel
theorem dL_law_189 : decode cL_law 189 = .ok (.iaload, 1) := by decide +kernel
theorem dL_law_190 : decode cL_law 190 = .ok (.aload_n 0, 1) := by decide +kernel
theorem dL_law_191 : decode cL_law 191 = .ok (.iload_n 3, 1) := by decide +kernel
theorem dL_law_192 : decode cL_law 192 = .ok (.iconst 2, 1) := by decide +kernel
theorem dL_law_193 : decode cL_law 193 = .ok (.iadd, 1) := by decide +kernel
theorem dL_law_194 : decode cL_law 194 = .ok (.iaload, 1) := by decide +kernel
theorem dL_law_195 : decode cL_law 195 = .ok (.invokevirtual 13, 3) := by decide +kernel
theorem dL_law_198 : decode cL_law 198 = .ok (.aload_n 2, 1) := by decide +kernel
theorem dL_law_199 : decode cL_law 199 = .ok (.aload_n 0, 1) := by decide +kernel
theorem dL_law_200 : decode cL_law 200 = .ok (.iload_n 3, 1) := by decide +kernel
theorem dL_law_201 : decode cL_law 201 = .ok (.iconst 1, 1) := by decide +kernel
theorem dL_law_202 : decode cL_law 202 = .ok (.iadd, 1) := by decide +kernel
theorem dL_law_203 : decode cL_law 203 = .ok (.iaload, 1) := by decide +kernel
theorem dL_law_204 : decode cL_law 204 = .ok (.aload_n 0, 1) := by decide +kernel
theorem dL_law_205 : decode cL_law 205 = .ok (.iload_n 3, 1) := by decide +kernel
theorem dL_law_206 : decode cL_law 206 = .ok (.iconst 2, 1) := by decide +kernel
theorem dL_law_207 : decode cL_law 207 = .ok (.iadd, 1) := by decide +kernel
theorem dL_law_208 : decode cL_law 208 = .ok (.iaload, 1) := by decide +kernel
theorem dL_law_209 : decode cL_law 209 = .ok (.invokevirtual 17, 3) := by decide +kernel
theorem dL_law_212 : decode cL_law 212 = .ok (.if_icmp .eq 1068, 3) := by decide +kernel
theorem dL_law_215 : decode cL_law 215 = .ok (.iconst 0, 1) := by decide +kernel
theorem dL_law_216 : decode cL_law 216 = .ok (.ireturn, 1) := by decide +kernel
theorem dL_law_217 : decode cL_law 217 = .ok (.aload_n 1, 1) := by decide +kernel
theorem dL_law_218 : decode cL_law 218 = .ok (.aload_n 0, 1) := by decide +kernel
theorem dL_law_219 : decode cL_law 219 = .ok (.iload_n 3, 1) := by decide +kernel
theorem dL_law_220 : decode cL_law 220 = .ok (.iconst 1, 1) := by decide +kernel
theorem dL_law_221 : decode cL_law 221 = .ok (.iadd, 1) := by decide +kernel
theorem dL_law_222 : decode cL_law 222 = .ok (.iaload, 1) := by decide +kernel
theorem dL_law_223 : decode cL_law 223 = .ok (.i2l, 1) := by decide +kernel
theorem dL_law_224 : decode cL_law 224 = .ok (.bipush 32, 2) := by decide +kernel
theorem dL_law_226 : decode cL_law 226 = .ok (.lshl, 1) := by decide +kernel
theorem dL_law_227 : decode cL_law 227 = .ok (.aload_n 0, 1) := by decide +kernel
theorem dL_law_228 : decode cL_law 228 = .ok (.iload_n 3, 1) := by decide +kernel
theorem dL_law_229 : decode cL_law 229 = .ok (.iconst 2, 1) := by decide +kernel
theorem dL_law_230 : decode cL_law 230 = .ok (.iadd, 1) := by decide +kernel
theorem dL_law_231 : decode cL_law 231 = .ok (.iaload, 1) := by decide +kernel
theorem dL_law_232 : decode cL_law 232 = .ok (.i2l, 1) := by decide +kernel
theorem dL_law_233 : decode cL_law 233 = .ok (.ldc2_w 18, 3) := by decide +kernel
theorem dL_law_236 : decode cL_law 236 = .ok (.land, 1) := by decide +kernel
theorem dL_law_237 : decode cL_law 237 = .ok (.lor, 1) := by decide +kernel
theorem dL_law_238 : decode cL_law 238 = .ok (.invokevirtual 20, 3) := by decide +kernel
theorem dL_law_241 : decode cL_law 241 = .ok (.aload_n 2, 1) := by decide +kernel
theorem dL_law_242 : decode cL_law 242 = .ok (.aload_n 0, 1) := by decide +kernel
theorem dL_law_243 : decode cL_law 243 = .ok (.iload_n 3, 1) := by decide +kernel
theorem dL_law_244 : decode cL_law 244 = .ok (.iconst 1, 1) := by decide +kernel
theorem dL_law_245 : decode cL_law 245 = .ok (.iadd, 1) := by decide +kernel
theorem dL_law_246 : decode cL_law 246 = .ok (.iaload, 1) := by decide +kernel
theorem dL_law_247 : decode cL_law 247 = .ok (.i2l, 1) := by decide +kernel
theorem dL_law_248 : decode cL_law 248 = .ok (.bipush 32, 2) := by decide +kernel
theorem dL_law_250 : decode cL_law 250 = .ok (.lshl, 1) := by decide +kernel
theorem dL_law_251 : decode cL_law 251 = .ok (.aload_n 0, 1) := by decide +kernel
theorem dL_law_252 : decode cL_law 252 = .ok (.iload_n 3, 1) := by decide +kernel
theorem dL_law_253 : decode cL_law 253 = .ok (.iconst 2, 1) := by decide +kernel
theorem dL_law_254 : decode cL_law 254 = .ok (.iadd, 1) := by decide +kernel
theorem dL_law_255 : decode cL_law 255 = .ok (.iaload, 1) := by decide +kernel
theorem dL_law_256 : decode cL_law 256 = .ok (.i2l, 1) := by decide +kernel
theorem dL_law_257 : decode cL_law 257 = .ok (.ldc2_w 18, 3) := by decide +kernel
theorem dL_law_260 : decode cL_law 260 = .ok (.land, 1) := by decide +kernel
theorem dL_law_261 : decode cL_law 261 = .ok (.lor, 1) := by decide +kernel
theorem dL_law_262 : decode cL_law 262 = .ok (.invokevirtual 24, 3) := by decide +kernel
theorem dL_law_265 : decode cL_law 265 = .ok (.if_icmp .eq 1015, 3) := by decide +kernel
theorem dL_law_268 : decode cL_law 268 = .ok (.iconst 0, 1) := by decide +kernel
theorem dL_law_269 : decode cL_law 269 = .ok (.ireturn, 1) := by decide +kernel
theorem dL_law_270 : decode cL_law 270 = .ok (.aload_n 1, 1) := by decide +kernel
theorem dL_law_271 : decode cL_law 271 = .ok (.aload_n 0, 1) := by decide +kernel
theorem dL_law_272 : decode cL_law 272 = .ok (.iload_n 3, 1) := by decide +kernel
theorem dL_law_273 : decode cL_law 273 = .ok (.iconst 1, 1) := by decide +kernel
theorem dL_law_274 : decode cL_law 274 = .ok (.iadd, 1) := by decide +kernel
theorem dL_law_275 : decode cL_law 275 = .ok (.iaload, 1) := by decide +kernel
theorem dL_law_276 : decode cL_law 276 = .ok (.aload_n 0, 1) := by decide +kernel
theorem dL_law_277 : decode cL_law 277 = .ok (.iload_n 3, 1) := by decide +kernel
theorem dL_law_278 : decode cL_law 278 = .ok (.iconst 2, 1) := by decide +kernel
theorem dL_law_279 : decode cL_law 279 = .ok (.iadd, 1) := by decide +kernel
theorem dL_law_280 : decode cL_law 280 = .ok (.iaload, 1) := by decide +kernel
theorem dL_law_281 : decode cL_law 281 = .ok (.aload_n 0, 1) := by decide +kernel
theorem dL_law_282 : decode cL_law 282 = .ok (.iload_n 3, 1) := by decide +kernel
theorem dL_law_283 : decode cL_law 283 = .ok (.iconst 3, 1) := by decide +kernel
theorem dL_law_284 : decode cL_law 284 = .ok (.iadd, 1) := by decide +kernel
theorem dL_law_285 : decode cL_law 285 = .ok (.iaload, 1) := by decide +kernel
theorem dL_law_286 : decode cL_law 286 = .ok (.invokevirtual 25, 3) := by decide +kernel
theorem dL_law_289 : decode cL_law 289 = .ok (.aload_n 2, 1) := by decide +kernel
theorem dL_law_290 : decode cL_law 290 = .ok (.aload_n 0, 1) := by decide +kernel
theorem dL_law_291 : decode cL_law 291 = .ok (.iload_n 3, 1) := by decide +kernel
theorem dL_law_292 : decode cL_law 292 = .ok (.iconst 1, 1) := by decide +kernel
theorem dL_law_293 : decode cL_law 293 = .ok (.iadd, 1) := by decide +kernel
theorem dL_law_294 : decode cL_law 294 = .ok (.iaload, 1) := by decide +kernel
theorem dL_law_295 : decode cL_law 295 = .ok (.aload_n 0, 1) := by decide +kernel
theorem dL_law_296 : decode cL_law 296 = .ok (.iload_n 3, 1) := by decide +kernel
theorem dL_law_297 : decode cL_law 297 = .ok (.iconst 2, 1) := by decide +kernel
theorem dL_law_298 : decode cL_law 298 = .ok (.iadd, 1) := by decide +kernel
theorem dL_law_299 : decode cL_law 299 = .ok (.iaload, 1) := by decide +kernel
theorem dL_law_300 : decode cL_law 300 = .ok (.aload_n 0, 1) := by decide +kernel
theorem dL_law_301 : decode cL_law 301 = .ok (.iload_n 3, 1) := by decide +kernel
theorem dL_law_302 : decode cL_law 302 = .ok (.iconst 3, 1) := by decide +kernel
theorem dL_law_303 : decode cL_law 303 = .ok (.iadd, 1) := by decide +kernel
theorem dL_law_304 : decode cL_law 304 = .ok (.iaload, 1) := by decide +kernel
theorem dL_law_305 : decode cL_law 305 = .ok (.invokevirtual 29, 3) := by decide +kernel
theorem dL_law_308 : decode cL_law 308 = .ok (.lcmp, 1) := by decide +kernel
theorem dL_law_309 : decode cL_law 309 = .ok (.ifCond .eq 971, 3) := by decide +kernel
theorem dL_law_312 : decode cL_law 312 = .ok (.iconst 0, 1) := by decide +kernel
theorem dL_law_313 : decode cL_law 313 = .ok (.ireturn, 1) := by decide +kernel
theorem dL_law_314 : decode cL_law 314 = .ok (.aload_n 1, 1) := by decide +kernel
theorem dL_law_315 : decode cL_law 315 = .ok (.aload_n 0, 1) := by decide +kernel
theorem dL_law_316 : decode cL_law 316 = .ok (.iload_n 3, 1) := by decide +kernel
theorem dL_law_317 : decode cL_law 317 = .ok (.iconst 1, 1) := by decide +kernel
theorem dL_law_318 : decode cL_law 318 = .ok (.iadd, 1) := by decide +kernel
theorem dL_law_319 : decode cL_law 319 = .ok (.iaload, 1) := by decide +kernel
theorem dL_law_320 : decode cL_law 320 = .ok (.aload_n 0, 1) := by decide +kernel
theorem dL_law_321 : decode cL_law 321 = .ok (.iload_n 3, 1) := by decide +kernel
theorem dL_law_322 : decode cL_law 322 = .ok (.iconst 2, 1) := by decide +kernel
theorem dL_law_323 : decode cL_law 323 = .ok (.iadd, 1) := by decide +kernel
theorem dL_law_324 : decode cL_law 324 = .ok (.iaload, 1) := by decide +kernel
theorem dL_law_325 : decode cL_law 325 = .ok (.invokevirtual 30, 3) := by decide +kernel
theorem dL_law_328 : decode cL_law 328 = .ok (.aload_n 2, 1) := by decide +kernel
theorem dL_law_329 : decode cL_law 329 = .ok (.aload_n 0, 1) := by decide +kernel
theorem dL_law_330 : decode cL_law 330 = .ok (.iload_n 3, 1) := by decide +kernel
theorem dL_law_331 : decode cL_law 331 = .ok (.iconst 1, 1) := by decide +kernel
theorem dL_law_332 : decode cL_law 332 = .ok (.iadd, 1) := by decide +kernel
theorem dL_law_333 : decode cL_law 333 = .ok (.iaload, 1) := by decide +kernel
theorem dL_law_334 : decode cL_law 334 = .ok (.aload_n 0, 1) := by decide +kernel
theorem dL_law_335 : decode cL_law 335 = .ok (.iload_n 3, 1) := by decide +kernel
theorem dL_law_336 : decode cL_law 336 = .ok (.iconst 2, 1) := by decide +kernel
theorem dL_law_337 : decode cL_law 337 = .ok (.iadd, 1) := by decide +kernel
theorem dL_law_338 : decode cL_law 338 = .ok (.iaload, 1) := by decide +kernel
theorem dL_law_339 : decode cL_law 339 = .ok (.invokevirtual 34, 3) := by decide +kernel
theorem dL_law_342 : decode cL_law 342 = .ok (.lcmp, 1) := by decide +kernel
theorem dL_law_343 : decode cL_law 343 = .ok (.ifCond .eq 937, 3) := by decide +kernel
theorem dL_law_346 : decode cL_law 346 = .ok (.iconst 0, 1) := by decide +kernel
theorem dL_law_347 : decode cL_law 347 = .ok (.ireturn, 1) := by decide +kernel
theorem dL_law_348 : decode cL_law 348 = .ok (.aload_n 1, 1) := by decide +kernel
theorem dL_law_349 : decode cL_law 349 = .ok (.aload_n 0, 1) := by decide +kernel
theorem dL_law_350 : decode cL_law 350 = .ok (.iload_n 3, 1) := by decide +kernel
theorem dL_law_351 : decode cL_law 351 = .ok (.iconst 1, 1) := by decide +kernel
theorem dL_law_352 : decode cL_law 352 = .ok (.iadd, 1) := by decide +kernel
theorem dL_law_353 : decode cL_law 353 = .ok (.iaload, 1) := by decide +kernel
theorem dL_law_354 : decode cL_law 354 = .ok (.aload_n 0, 1) := by decide +kernel
theorem dL_law_355 : decode cL_law 355 = .ok (.iload_n 3, 1) := by decide +kernel
theorem dL_law_356 : decode cL_law 356 = .ok (.iconst 2, 1) := by decide +kernel
theorem dL_law_357 : decode cL_law 357 = .ok (.iadd, 1) := by decide +kernel
theorem dL_law_358 : decode cL_law 358 = .ok (.iaload, 1) := by decide +kernel
theorem dL_law_359 : decode cL_law 359 = .ok (.aload_n 0, 1) := by decide +kernel
theorem dL_law_360 : decode cL_law 360 = .ok (.iload_n 3, 1) := by decide +kernel
theorem dL_law_361 : decode cL_law 361 = .ok (.iconst 3, 1) := by decide +kernel
theorem dL_law_362 : decode cL_law 362 = .ok (.iadd, 1) := by decide +kernel
theorem dL_law_363 : decode cL_law 363 = .ok (.iaload, 1) := by decide +kernel
theorem dL_law_364 : decode cL_law 364 = .ok (.aload_n 0, 1) := by decide +kernel
theorem dL_law_365 : decode cL_law 365 = .ok (.iload_n 3, 1) := by decide +kernel
theorem dL_law_366 : decode cL_law 366 = .ok (.iconst 4, 1) := by decide +kernel
theorem dL_law_367 : decode cL_law 367 = .ok (.iadd, 1) := by decide +kernel
theorem dL_law_368 : decode cL_law 368 = .ok (.iaload, 1) := by decide +kernel
theorem dL_law_369 : decode cL_law 369 = .ok (.aload_n 0, 1) := by decide +kernel
theorem dL_law_370 : decode cL_law 370 = .ok (.iload_n 3, 1) := by decide +kernel
theorem dL_law_371 : decode cL_law 371 = .ok (.iconst 5, 1) := by decide +kernel
theorem dL_law_372 : decode cL_law 372 = .ok (.iadd, 1) := by decide +kernel
theorem dL_law_373 : decode cL_law 373 = .ok (.iaload, 1) := by decide +kernel
theorem dL_law_374 : decode cL_law 374 = .ok (.invokevirtual 35, 3) := by decide +kernel
theorem dL_law_377 : decode cL_law 377 = .ok (.aload_n 2, 1) := by decide +kernel
theorem dL_law_378 : decode cL_law 378 = .ok (.aload_n 0, 1) := by decide +kernel
theorem dL_law_379 : decode cL_law 379 = .ok (.iload_n 3, 1) := by decide +kernel
theorem dL_law_380 : decode cL_law 380 = .ok (.iconst 1, 1) := by decide +kernel
theorem dL_law_381 : decode cL_law 381 = .ok (.iadd, 1) := by decide +kernel
theorem dL_law_382 : decode cL_law 382 = .ok (.iaload, 1) := by decide +kernel
theorem dL_law_383 : decode cL_law 383 = .ok (.aload_n 0, 1) := by decide +kernel
theorem dL_law_384 : decode cL_law 384 = .ok (.iload_n 3, 1) := by decide +kernel
theorem dL_law_385 : decode cL_law 385 = .ok (.iconst 2, 1) := by decide +kernel
theorem dL_law_386 : decode cL_law 386 = .ok (.iadd, 1) := by decide +kernel
theorem dL_law_387 : decode cL_law 387 = .ok (.iaload, 1) := by decide +kernel
theorem dL_law_388 : decode cL_law 388 = .ok (.aload_n 0, 1) := by decide +kernel
theorem dL_law_389 : decode cL_law 389 = .ok (.iload_n 3, 1) := by decide +kernel
theorem dL_law_390 : decode cL_law 390 = .ok (.iconst 3, 1) := by decide +kernel
theorem dL_law_391 : decode cL_law 391 = .ok (.iadd, 1) := by decide +kernel
theorem dL_law_392 : decode cL_law 392 = .ok (.iaload, 1) := by decide +kernel
theorem dL_law_393 : decode cL_law 393 = .ok (.aload_n 0, 1) := by decide +kernel
theorem dL_law_394 : decode cL_law 394 = .ok (.iload_n 3, 1) := by decide +kernel
theorem dL_law_395 : decode cL_law 395 = .ok (.iconst 4, 1) := by decide +kernel
theorem dL_law_396 : decode cL_law 396 = .ok (.iadd, 1) := by decide +kernel
theorem dL_law_397 : decode cL_law 397 = .ok (.iaload, 1) := by decide +kernel
theorem dL_law_398 : decode cL_law 398 = .ok (.aload_n 0, 1) := by decide +kernel
theorem dL_law_399 : decode cL_law 399 = .ok (.iload_n 3, 1) := by decide +kernel
theorem dL_law_400 : decode cL_law 400 = .ok (.iconst 5, 1) := by decide +kernel
theorem dL_law_401 : decode cL_law 401 = .ok (.iadd, 1) := by decide +kernel
theorem dL_law_402 : decode cL_law 402 = .ok (.iaload, 1) := by decide +kernel
theorem dL_law_403 : decode cL_law 403 = .ok (.invokevirtual 39, 3) := by decide +kernel
theorem dL_law_406 : decode cL_law 406 = .ok (.if_icmp .eq 874, 3) := by decide +kernel
theorem dL_law_409 : decode cL_law 409 = .ok (.iconst 0, 1) := by decide +kernel
theorem dL_law_410 : decode cL_law 410 = .ok (.ireturn, 1) := by decide +kernel
theorem dL_law_411 : decode cL_law 411 = .ok (.aload_n 1, 1) := by decide +kernel
theorem dL_law_412 : decode cL_law 412 = .ok (.aload_n 0, 1) := by decide +kernel
theorem dL_law_413 : decode cL_law 413 = .ok (.iload_n 3, 1) := by decide +kernel
theorem dL_law_414 : decode cL_law 414 = .ok (.iconst 1, 1) := by decide +kernel
theorem dL_law_415 : decode cL_law 415 = .ok (.iadd, 1) := by decide +kernel
theorem dL_law_416 : decode cL_law 416 = .ok (.iaload, 1) := by decide +kernel
theorem dL_law_417 : decode cL_law 417 = .ok (.aload_n 0, 1) := by decide +kernel
theorem dL_law_418 : decode cL_law 418 = .ok (.iload_n 3, 1) := by decide +kernel
theorem dL_law_419 : decode cL_law 419 = .ok (.iconst 2, 1) := by decide +kernel
theorem dL_law_420 : decode cL_law 420 = .ok (.iadd, 1) := by decide +kernel
theorem dL_law_421 : decode cL_law 421 = .ok (.iaload, 1) := by decide +kernel
theorem dL_law_422 : decode cL_law 422 = .ok (.invokevirtual 40, 3) := by decide +kernel
theorem dL_law_425 : decode cL_law 425 = .ok (.aload_n 2, 1) := by decide +kernel
theorem dL_law_426 : decode cL_law 426 = .ok (.aload_n 0, 1) := by decide +kernel
theorem dL_law_427 : decode cL_law 427 = .ok (.iload_n 3, 1) := by decide +kernel
theorem dL_law_428 : decode cL_law 428 = .ok (.iconst 1, 1) := by decide +kernel
theorem dL_law_429 : decode cL_law 429 = .ok (.iadd, 1) := by decide +kernel
theorem dL_law_430 : decode cL_law 430 = .ok (.iaload, 1) := by decide +kernel
theorem dL_law_431 : decode cL_law 431 = .ok (.aload_n 0, 1) := by decide +kernel
theorem dL_law_432 : decode cL_law 432 = .ok (.iload_n 3, 1) := by decide +kernel
theorem dL_law_433 : decode cL_law 433 = .ok (.iconst 2, 1) := by decide +kernel
theorem dL_law_434 : decode cL_law 434 = .ok (.iadd, 1) := by decide +kernel
theorem dL_law_435 : decode cL_law 435 = .ok (.iaload, 1) := by decide +kernel
theorem dL_law_436 : decode cL_law 436 = .ok (.invokevirtual 43, 3) := by decide +kernel
theorem dL_law_439 : decode cL_law 439 = .ok (.if_icmp .eq 841, 3) := by decide +kernel
theorem dL_law_442 : decode cL_law 442 = .ok (.iconst 0, 1) := by decide +kernel
theorem dL_law_443 : decode cL_law 443 = .ok (.ireturn, 1) := by decide +kernel
theorem dL_law_444 : decode cL_law 444 = .ok (.aload_n 1, 1) := by decide +kernel
theorem dL_law_445 : decode cL_law 445 = .ok (.aload_n 0, 1) := by decide +kernel
theorem dL_law_446 : decode cL_law 446 = .ok (.iload_n 3, 1) := by decide +kernel
theorem dL_law_447 : decode cL_law 447 = .ok (.iconst 1, 1) := by decide +kernel
theorem dL_law_448 : decode cL_law 448 = .ok (.iadd, 1) := by decide +kernel
theorem dL_law_449 : decode cL_law 449 = .ok (.iaload, 1) := by decide +kernel
theorem dL_law_450 : decode cL_law 450 = .ok (.aload_n 0, 1) := by decide +kernel
theorem dL_law_451 : decode cL_law 451 = .ok (.iload_n 3, 1) := by decide +kernel
theorem dL_law_452 : decode cL_law 452 = .ok (.iconst 2, 1) := by decide +kernel
theorem dL_law_453 : decode cL_law 453 = .ok (.iadd, 1) := by decide +kernel
theorem dL_law_454 : decode cL_law 454 = .ok (.iaload, 1) := by decide +kernel
theorem dL_law_455 : decode cL_law 455 = .ok (.aload_n 0, 1) := by decide +kernel
theorem dL_law_456 : decode cL_law 456 = .ok (.iload_n 3, 1) := by decide +kernel
theorem dL_law_457 : decode cL_law 457 = .ok (.iconst 3, 1) := by decide +kernel
theorem dL_law_458 : decode cL_law 458 = .ok (.iadd, 1) := by decide +kernel
theorem dL_law_459 : decode cL_law 459 = .ok (.iaload, 1) := by decide +kernel
theorem dL_law_460 : decode cL_law 460 = .ok (.invokevirtual 44, 3) := by decide +kernel
theorem dL_law_463 : decode cL_law 463 = .ok (.aload_n 2, 1) := by decide +kernel
theorem dL_law_464 : decode cL_law 464 = .ok (.aload_n 0, 1) := by decide +kernel
theorem dL_law_465 : decode cL_law 465 = .ok (.iload_n 3, 1) := by decide +kernel
theorem dL_law_466 : decode cL_law 466 = .ok (.iconst 1, 1) := by decide +kernel
theorem dL_law_467 : decode cL_law 467 = .ok (.iadd, 1) := by decide +kernel
theorem dL_law_468 : decode cL_law 468 = .ok (.iaload, 1) := by decide +kernel
theorem dL_law_469 : decode cL_law 469 = .ok (.aload_n 0, 1) := by decide +kernel
theorem dL_law_470 : decode cL_law 470 = .ok (.iload_n 3, 1) := by decide +kernel
theorem dL_law_471 : decode cL_law 471 = .ok (.iconst 2, 1) := by decide +kernel
theorem dL_law_472 : decode cL_law 472 = .ok (.iadd, 1) := by decide +kernel
theorem dL_law_473 : decode cL_law 473 = .ok (.iaload, 1) := by decide +kernel
theorem dL_law_474 : decode cL_law 474 = .ok (.aload_n 0, 1) := by decide +kernel
theorem dL_law_475 : decode cL_law 475 = .ok (.iload_n 3, 1) := by decide +kernel
theorem dL_law_476 : decode cL_law 476 = .ok (.iconst 3, 1) := by decide +kernel
theorem dL_law_477 : decode cL_law 477 = .ok (.iadd, 1) := by decide +kernel
theorem dL_law_478 : decode cL_law 478 = .ok (.iaload, 1) := by decide +kernel
theorem dL_law_479 : decode cL_law 479 = .ok (.invokevirtual 47, 3) := by decide +kernel
theorem dL_law_482 : decode cL_law 482 = .ok (.lcmp, 1) := by decide +kernel
theorem dL_law_483 : decode cL_law 483 = .ok (.ifCond .eq 797, 3) := by decide +kernel
theorem dL_law_486 : decode cL_law 486 = .ok (.iconst 0, 1) := by decide +kernel
theorem dL_law_487 : decode cL_law 487 = .ok (.ireturn, 1) := by decide +kernel
theorem dL_law_488 : decode cL_law 488 = .ok (.aload_n 1, 1) := by decide +kernel
theorem dL_law_489 : decode cL_law 489 = .ok (.aload_n 0, 1) := by decide +kernel
theorem dL_law_490 : decode cL_law 490 = .ok (.iload_n 3, 1) := by decide +kernel
theorem dL_law_491 : decode cL_law 491 = .ok (.iconst 1, 1) := by decide +kernel
theorem dL_law_492 : decode cL_law 492 = .ok (.iadd, 1) := by decide +kernel
theorem dL_law_493 : decode cL_law 493 = .ok (.iaload, 1) := by decide +kernel
theorem dL_law_494 : decode cL_law 494 = .ok (.aload_n 0, 1) := by decide +kernel
theorem dL_law_495 : decode cL_law 495 = .ok (.iload_n 3, 1) := by decide +kernel
theorem dL_law_496 : decode cL_law 496 = .ok (.iconst 2, 1) := by decide +kernel
theorem dL_law_497 : decode cL_law 497 = .ok (.iadd, 1) := by decide +kernel
theorem dL_law_498 : decode cL_law 498 = .ok (.iaload, 1) := by decide +kernel
theorem dL_law_499 : decode cL_law 499 = .ok (.aload_n 0, 1) := by decide +kernel
theorem dL_law_500 : decode cL_law 500 = .ok (.iload_n 3, 1) := by decide +kernel
theorem dL_law_501 : decode cL_law 501 = .ok (.iconst 3, 1) := by decide +kernel
theorem dL_law_502 : decode cL_law 502 = .ok (.iadd, 1) := by decide +kernel
theorem dL_law_503 : decode cL_law 503 = .ok (.iaload, 1) := by decide +kernel
theorem dL_law_504 : decode cL_law 504 = .ok (.aload_n 0, 1) := by decide +kernel
theorem dL_law_505 : decode cL_law 505 = .ok (.iload_n 3, 1) := by decide +kernel
theorem dL_law_506 : decode cL_law 506 = .ok (.iconst 4, 1) := by decide +kernel
theorem dL_law_507 : decode cL_law 507 = .ok (.iadd, 1) := by decide +kernel
theorem dL_law_508 : decode cL_law 508 = .ok (.iaload, 1) := by decide +kernel
theorem dL_law_509 : decode cL_law 509 = .ok (.invokevirtual 48, 3) := by decide +kernel
theorem dL_law_512 : decode cL_law 512 = .ok (.aload_n 2, 1) := by decide +kernel
theorem dL_law_513 : decode cL_law 513 = .ok (.aload_n 0, 1) := by decide +kernel
theorem dL_law_514 : decode cL_law 514 = .ok (.iload_n 3, 1) := by decide +kernel
theorem dL_law_515 : decode cL_law 515 = .ok (.iconst 1, 1) := by decide +kernel
theorem dL_law_516 : decode cL_law 516 = .ok (.iadd, 1) := by decide +kernel
theorem dL_law_517 : decode cL_law 517 = .ok (.iaload, 1) := by decide +kernel
theorem dL_law_518 : decode cL_law 518 = .ok (.aload_n 0, 1) := by decide +kernel
theorem dL_law_519 : decode cL_law 519 = .ok (.iload_n 3, 1) := by decide +kernel
theorem dL_law_520 : decode cL_law 520 = .ok (.iconst 2, 1) := by decide +kernel
theorem dL_law_521 : decode cL_law 521 = .ok (.iadd, 1) := by decide +kernel
theorem dL_law_522 : decode cL_law 522 = .ok (.iaload, 1) := by decide +kernel
theorem dL_law_523 : decode cL_law 523 = .ok (.aload_n 0, 1) := by decide +kernel
theorem dL_law_524 : decode cL_law 524 = .ok (.iload_n 3, 1) := by decide +kernel
theorem dL_law_525 : decode cL_law 525 = .ok (.iconst 3, 1) := by decide +kernel
theorem dL_law_526 : decode cL_law 526 = .ok (.iadd, 1) := by decide +kernel
theorem dL_law_527 : decode cL_law 527 = .ok (.iaload, 1) := by decide +kernel
theorem dL_law_528 : decode cL_law 528 = .ok (.aload_n 0, 1) := by decide +kernel
theorem dL_law_529 : decode cL_law 529 = .ok (.iload_n 3, 1) := by decide +kernel
theorem dL_law_530 : decode cL_law 530 = .ok (.iconst 4, 1) := by decide +kernel
theorem dL_law_531 : decode cL_law 531 = .ok (.iadd, 1) := by decide +kernel
theorem dL_law_532 : decode cL_law 532 = .ok (.iaload, 1) := by decide +kernel
theorem dL_law_533 : decode cL_law 533 = .ok (.invokevirtual 52, 3) := by decide +kernel
theorem dL_law_536 : decode cL_law 536 = .ok (.if_icmp .eq 744, 3) := by decide +kernel
theorem dL_law_539 : decode cL_law 539 = .ok (.iconst 0, 1) := by decide +kernel
theorem dL_law_540 : decode cL_law 540 = .ok (.ireturn, 1) := by decide +kernel
theorem dL_law_541 : decode cL_law 541 = .ok (.aload_n 1, 1) := by decide +kernel
theorem dL_law_542 : decode cL_law 542 = .ok (.aload_n 0, 1) := by decide +kernel
theorem dL_law_543 : decode cL_law 543 = .ok (.iload_n 3, 1) := by decide +kernel
theorem dL_law_544 : decode cL_law 544 = .ok (.iconst 1, 1) := by decide +kernel
theorem dL_law_545 : decode cL_law 545 = .ok (.iadd, 1) := by decide +kernel
theorem dL_law_546 : decode cL_law 546 = .ok (.iaload, 1) := by decide +kernel
theorem dL_law_547 : decode cL_law 547 = .ok (.invokevirtual 53, 3) := by decide +kernel
theorem dL_law_550 : decode cL_law 550 = .ok (.aload_n 2, 1) := by decide +kernel
theorem dL_law_551 : decode cL_law 551 = .ok (.aload_n 0, 1) := by decide +kernel
theorem dL_law_552 : decode cL_law 552 = .ok (.iload_n 3, 1) := by decide +kernel
theorem dL_law_553 : decode cL_law 553 = .ok (.iconst 1, 1) := by decide +kernel
theorem dL_law_554 : decode cL_law 554 = .ok (.iadd, 1) := by decide +kernel
theorem dL_law_555 : decode cL_law 555 = .ok (.iaload, 1) := by decide +kernel
theorem dL_law_556 : decode cL_law 556 = .ok (.invokevirtual 57, 3) := by decide +kernel
theorem dL_law_559 : decode cL_law 559 = .ok (.if_icmp .eq 721, 3) := by decide +kernel
theorem dL_law_562 : decode cL_law 562 = .ok (.iconst 0, 1) := by decide +kernel
theorem dL_law_563 : decode cL_law 563 = .ok (.ireturn, 1) := by decide +kernel
theorem dL_law_564 : decode cL_law 564 = .ok (.aload_n 1, 1) := by decide +kernel
theorem dL_law_565 : decode cL_law 565 = .ok (.invokevirtual 58, 3) := by decide +kernel
theorem dL_law_568 : decode cL_law 568 = .ok (.aload_n 2, 1) := by decide +kernel
theorem dL_law_569 : decode cL_law 569 = .ok (.invokevirtual 62, 3) := by decide +kernel
theorem dL_law_572 : decode cL_law 572 = .ok (.if_icmp .eq 708, 3) := by decide +kernel
theorem dL_law_575 : decode cL_law 575 = .ok (.iconst 0, 1) := by decide +kernel
theorem dL_law_576 : decode cL_law 576 = .ok (.ireturn, 1) := by decide +kernel
theorem dL_law_577 : decode cL_law 577 = .ok (.aload_n 1, 1) := by decide +kernel
theorem dL_law_578 : decode cL_law 578 = .ok (.aload_n 0, 1) := by decide +kernel
theorem dL_law_579 : decode cL_law 579 = .ok (.iload_n 3, 1) := by decide +kernel
theorem dL_law_580 : decode cL_law 580 = .ok (.iconst 1, 1) := by decide +kernel
theorem dL_law_581 : decode cL_law 581 = .ok (.iadd, 1) := by decide +kernel
theorem dL_law_582 : decode cL_law 582 = .ok (.iaload, 1) := by decide +kernel
theorem dL_law_583 : decode cL_law 583 = .ok (.invokevirtual 63, 3) := by decide +kernel
theorem dL_law_586 : decode cL_law 586 = .ok (.aload_n 2, 1) := by decide +kernel
theorem dL_law_587 : decode cL_law 587 = .ok (.aload_n 0, 1) := by decide +kernel
theorem dL_law_588 : decode cL_law 588 = .ok (.iload_n 3, 1) := by decide +kernel
theorem dL_law_589 : decode cL_law 589 = .ok (.iconst 1, 1) := by decide +kernel
theorem dL_law_590 : decode cL_law 590 = .ok (.iadd, 1) := by decide +kernel
theorem dL_law_591 : decode cL_law 591 = .ok (.iaload, 1) := by decide +kernel
theorem dL_law_592 : decode cL_law 592 = .ok (.invokevirtual 66, 3) := by decide +kernel
theorem dL_law_595 : decode cL_law 595 = .ok (.if_icmp .eq 685, 3) := by decide +kernel
theorem dL_law_598 : decode cL_law 598 = .ok (.iconst 0, 1) := by decide +kernel
theorem dL_law_599 : decode cL_law 599 = .ok (.ireturn, 1) := by decide +kernel
theorem dL_law_600 : decode cL_law 600 = .ok (.aload_n 1, 1) := by decide +kernel
theorem dL_law_601 : decode cL_law 601 = .ok (.aload_n 0, 1) := by decide +kernel
theorem dL_law_602 : decode cL_law 602 = .ok (.iload_n 3, 1) := by decide +kernel
theorem dL_law_603 : decode cL_law 603 = .ok (.iconst 1, 1) := by decide +kernel
theorem dL_law_604 : decode cL_law 604 = .ok (.iadd, 1) := by decide +kernel
theorem dL_law_605 : decode cL_law 605 = .ok (.iaload, 1) := by decide +kernel
theorem dL_law_606 : decode cL_law 606 = .ok (.aload_n 0, 1) := by decide +kernel
theorem dL_law_607 : decode cL_law 607 = .ok (.iload_n 3, 1) := by decide +kernel
theorem dL_law_608 : decode cL_law 608 = .ok (.iconst 2, 1) := by decide +kernel
theorem dL_law_609 : decode cL_law 609 = .ok (.iadd, 1) := by decide +kernel
theorem dL_law_610 : decode cL_law 610 = .ok (.iaload, 1) := by decide +kernel
theorem dL_law_611 : decode cL_law 611 = .ok (.aload_n 0, 1) := by decide +kernel
theorem dL_law_612 : decode cL_law 612 = .ok (.iload_n 3, 1) := by decide +kernel
theorem dL_law_613 : decode cL_law 613 = .ok (.iconst 3, 1) := by decide +kernel
theorem dL_law_614 : decode cL_law 614 = .ok (.iadd, 1) := by decide +kernel
theorem dL_law_615 : decode cL_law 615 = .ok (.iaload, 1) := by decide +kernel
theorem dL_law_616 : decode cL_law 616 = .ok (.invokevirtual 67, 3) := by decide +kernel
theorem dL_law_619 : decode cL_law 619 = .ok (.aload_n 2, 1) := by decide +kernel
theorem dL_law_620 : decode cL_law 620 = .ok (.aload_n 0, 1) := by decide +kernel
theorem dL_law_621 : decode cL_law 621 = .ok (.iload_n 3, 1) := by decide +kernel
theorem dL_law_622 : decode cL_law 622 = .ok (.iconst 1, 1) := by decide +kernel
theorem dL_law_623 : decode cL_law 623 = .ok (.iadd, 1) := by decide +kernel
theorem dL_law_624 : decode cL_law 624 = .ok (.iaload, 1) := by decide +kernel
theorem dL_law_625 : decode cL_law 625 = .ok (.aload_n 0, 1) := by decide +kernel
theorem dL_law_626 : decode cL_law 626 = .ok (.iload_n 3, 1) := by decide +kernel
theorem dL_law_627 : decode cL_law 627 = .ok (.iconst 2, 1) := by decide +kernel
theorem dL_law_628 : decode cL_law 628 = .ok (.iadd, 1) := by decide +kernel
theorem dL_law_629 : decode cL_law 629 = .ok (.iaload, 1) := by decide +kernel
theorem dL_law_630 : decode cL_law 630 = .ok (.aload_n 0, 1) := by decide +kernel
theorem dL_law_631 : decode cL_law 631 = .ok (.iload_n 3, 1) := by decide +kernel
theorem dL_law_632 : decode cL_law 632 = .ok (.iconst 3, 1) := by decide +kernel
theorem dL_law_633 : decode cL_law 633 = .ok (.iadd, 1) := by decide +kernel
theorem dL_law_634 : decode cL_law 634 = .ok (.iaload, 1) := by decide +kernel
theorem dL_law_635 : decode cL_law 635 = .ok (.invokevirtual 71, 3) := by decide +kernel
theorem dL_law_638 : decode cL_law 638 = .ok (.if_icmp .eq 642, 3) := by decide +kernel
theorem dL_law_641 : decode cL_law 641 = .ok (.iconst 0, 1) := by decide +kernel
theorem dL_law_642 : decode cL_law 642 = .ok (.ireturn, 1) := by decide +kernel
theorem dL_law_643 : decode cL_law 643 = .ok (.aload_n 1, 1) := by decide +kernel
theorem dL_law_644 : decode cL_law 644 = .ok (.aload_n 0, 1) := by decide +kernel
theorem dL_law_645 : decode cL_law 645 = .ok (.iload_n 3, 1) := by decide +kernel
theorem dL_law_646 : decode cL_law 646 = .ok (.iconst 1, 1) := by decide +kernel
theorem dL_law_647 : decode cL_law 647 = .ok (.iadd, 1) := by decide +kernel
theorem dL_law_648 : decode cL_law 648 = .ok (.iaload, 1) := by decide +kernel
theorem dL_law_649 : decode cL_law 649 = .ok (.aload_n 0, 1) := by decide +kernel
theorem dL_law_650 : decode cL_law 650 = .ok (.iload_n 3, 1) := by decide +kernel
theorem dL_law_651 : decode cL_law 651 = .ok (.iconst 2, 1) := by decide +kernel
theorem dL_law_652 : decode cL_law 652 = .ok (.iadd, 1) := by decide +kernel
theorem dL_law_653 : decode cL_law 653 = .ok (.iaload, 1) := by decide +kernel
theorem dL_law_654 : decode cL_law 654 = .ok (.invokevirtual 72, 3) := by decide +kernel
theorem dL_law_657 : decode cL_law 657 = .ok (.aload_n 2, 1) := by decide +kernel
theorem dL_law_658 : decode cL_law 658 = .ok (.aload_n 0, 1) := by decide +kernel
theorem dL_law_659 : decode cL_law 659 = .ok (.iload_n 3, 1) := by decide +kernel
theorem dL_law_660 : decode cL_law 660 = .ok (.iconst 1, 1) := by decide +kernel
theorem dL_law_661 : decode cL_law 661 = .ok (.iadd, 1) := by decide +kernel
theorem dL_law_662 : decode cL_law 662 = .ok (.iaload, 1) := by decide +kernel
theorem dL_law_663 : decode cL_law 663 = .ok (.aload_n 0, 1) := by decide +kernel
theorem dL_law_664 : decode cL_law 664 = .ok (.iload_n 3, 1) := by decide +kernel
theorem dL_law_665 : decode cL_law 665 = .ok (.iconst 2, 1) := by decide +kernel
theorem dL_law_666 : decode cL_law 666 = .ok (.iadd, 1) := by decide +kernel
theorem dL_law_667 : decode cL_law 667 = .ok (.iaload, 1) := by decide +kernel
theorem dL_law_668 : decode cL_law 668 = .ok (.invokevirtual 75, 3) := by decide +kernel
theorem dL_law_671 : decode cL_law 671 = .ok (.if_icmp .eq 609, 3) := by decide +kernel
theorem dL_law_674 : decode cL_law 674 = .ok (.iconst 0, 1) := by decide +kernel
theorem dL_law_675 : decode cL_law 675 = .ok (.ireturn, 1) := by decide +kernel
theorem dL_law_676 : decode cL_law 676 = .ok (.aload_n 1, 1) := by decide +kernel
theorem dL_law_677 : decode cL_law 677 = .ok (.aload_n 0, 1) := by decide +kernel
theorem dL_law_678 : decode cL_law 678 = .ok (.iload_n 3, 1) := by decide +kernel
theorem dL_law_679 : decode cL_law 679 = .ok (.iconst 1, 1) := by decide +kernel
theorem dL_law_680 : decode cL_law 680 = .ok (.iadd, 1) := by decide +kernel
theorem dL_law_681 : decode cL_law 681 = .ok (.iaload, 1) := by decide +kernel
theorem dL_law_682 : decode cL_law 682 = .ok (.i2l, 1) := by decide +kernel
theorem dL_law_683 : decode cL_law 683 = .ok (.bipush 32, 2) := by decide +kernel
theorem dL_law_685 : decode cL_law 685 = .ok (.lshl, 1) := by decide +kernel
theorem dL_law_686 : decode cL_law 686 = .ok (.aload_n 0, 1) := by decide +kernel
theorem dL_law_687 : decode cL_law 687 = .ok (.iload_n 3, 1) := by decide +kernel
theorem dL_law_688 : decode cL_law 688 = .ok (.iconst 2, 1) := by decide +kernel
theorem dL_law_689 : decode cL_law 689 = .ok (.iadd, 1) := by decide +kernel
theorem dL_law_690 : decode cL_law 690 = .ok (.iaload, 1) := by decide +kernel
theorem dL_law_691 : decode cL_law 691 = .ok (.i2l, 1) := by decide +kernel
theorem dL_law_692 : decode cL_law 692 = .ok (.ldc2_w 18, 3) := by decide +kernel
theorem dL_law_695 : decode cL_law 695 = .ok (.land, 1) := by decide +kernel
theorem dL_law_696 : decode cL_law 696 = .ok (.lor, 1) := by decide +kernel
theorem dL_law_697 : decode cL_law 697 = .ok (.invokevirtual 76, 3) := by decide +kernel
theorem dL_law_700 : decode cL_law 700 = .ok (.aload_n 2, 1) := by decide +kernel
theorem dL_law_701 : decode cL_law 701 = .ok (.aload_n 0, 1) := by decide +kernel
theorem dL_law_702 : decode cL_law 702 = .ok (.iload_n 3, 1) := by decide +kernel
theorem dL_law_703 : decode cL_law 703 = .ok (.iconst 1, 1) := by decide +kernel
theorem dL_law_704 : decode cL_law 704 = .ok (.iadd, 1) := by decide +kernel
theorem dL_law_705 : decode cL_law 705 = .ok (.iaload, 1) := by decide +kernel
theorem dL_law_706 : decode cL_law 706 = .ok (.i2l, 1) := by decide +kernel
theorem dL_law_707 : decode cL_law 707 = .ok (.bipush 32, 2) := by decide +kernel
theorem dL_law_709 : decode cL_law 709 = .ok (.lshl, 1) := by decide +kernel
theorem dL_law_710 : decode cL_law 710 = .ok (.aload_n 0, 1) := by decide +kernel
theorem dL_law_711 : decode cL_law 711 = .ok (.iload_n 3, 1) := by decide +kernel
theorem dL_law_712 : decode cL_law 712 = .ok (.iconst 2, 1) := by decide +kernel
theorem dL_law_713 : decode cL_law 713 = .ok (.iadd, 1) := by decide +kernel
theorem dL_law_714 : decode cL_law 714 = .ok (.iaload, 1) := by decide +kernel
theorem dL_law_715 : decode cL_law 715 = .ok (.i2l, 1) := by decide +kernel
theorem dL_law_716 : decode cL_law 716 = .ok (.ldc2_w 18, 3) := by decide +kernel
theorem dL_law_719 : decode cL_law 719 = .ok (.land, 1) := by decide +kernel
theorem dL_law_720 : decode cL_law 720 = .ok (.lor, 1) := by decide +kernel
theorem dL_law_721 : decode cL_law 721 = .ok (.invokevirtual 79, 3) := by decide +kernel
theorem dL_law_724 : decode cL_law 724 = .ok (.if_icmp .eq 556, 3) := by decide +kernel
theorem dL_law_727 : decode cL_law 727 = .ok (.iconst 0, 1) := by decide +kernel
theorem dL_law_728 : decode cL_law 728 = .ok (.ireturn, 1) := by decide +kernel
theorem dL_law_729 : decode cL_law 729 = .ok (.aload_n 1, 1) := by decide +kernel
theorem dL_law_730 : decode cL_law 730 = .ok (.aload_n 0, 1) := by decide +kernel
theorem dL_law_731 : decode cL_law 731 = .ok (.iload_n 3, 1) := by decide +kernel
theorem dL_law_732 : decode cL_law 732 = .ok (.iconst 1, 1) := by decide +kernel
theorem dL_law_733 : decode cL_law 733 = .ok (.iadd, 1) := by decide +kernel
theorem dL_law_734 : decode cL_law 734 = .ok (.iaload, 1) := by decide +kernel
theorem dL_law_735 : decode cL_law 735 = .ok (.invokevirtual 80, 3) := by decide +kernel
theorem dL_law_738 : decode cL_law 738 = .ok (.aload_n 2, 1) := by decide +kernel
theorem dL_law_739 : decode cL_law 739 = .ok (.aload_n 0, 1) := by decide +kernel
theorem dL_law_740 : decode cL_law 740 = .ok (.iload_n 3, 1) := by decide +kernel
theorem dL_law_741 : decode cL_law 741 = .ok (.iconst 1, 1) := by decide +kernel
theorem dL_law_742 : decode cL_law 742 = .ok (.iadd, 1) := by decide +kernel
theorem dL_law_743 : decode cL_law 743 = .ok (.iaload, 1) := by decide +kernel
theorem dL_law_744 : decode cL_law 744 = .ok (.invokevirtual 83, 3) := by decide +kernel
theorem dL_law_747 : decode cL_law 747 = .ok (.if_icmp .eq 533, 3) := by decide +kernel
theorem dL_law_750 : decode cL_law 750 = .ok (.iconst 0, 1) := by decide +kernel
theorem dL_law_751 : decode cL_law 751 = .ok (.ireturn, 1) := by decide +kernel
theorem dL_law_752 : decode cL_law 752 = .ok (.aload_n 1, 1) := by decide +kernel
theorem dL_law_753 : decode cL_law 753 = .ok (.aload_n 0, 1) := by decide +kernel
theorem dL_law_754 : decode cL_law 754 = .ok (.iload_n 3, 1) := by decide +kernel
theorem dL_law_755 : decode cL_law 755 = .ok (.iconst 1, 1) := by decide +kernel
theorem dL_law_756 : decode cL_law 756 = .ok (.iadd, 1) := by decide +kernel
theorem dL_law_757 : decode cL_law 757 = .ok (.iaload, 1) := by decide +kernel
theorem dL_law_758 : decode cL_law 758 = .ok (.aload_n 0, 1) := by decide +kernel
theorem dL_law_759 : decode cL_law 759 = .ok (.iload_n 3, 1) := by decide +kernel
theorem dL_law_760 : decode cL_law 760 = .ok (.iconst 2, 1) := by decide +kernel
theorem dL_law_761 : decode cL_law 761 = .ok (.iadd, 1) := by decide +kernel
theorem dL_law_762 : decode cL_law 762 = .ok (.iaload, 1) := by decide +kernel
theorem dL_law_763 : decode cL_law 763 = .ok (.invokevirtual 84, 3) := by decide +kernel
theorem dL_law_766 : decode cL_law 766 = .ok (.aload_n 2, 1) := by decide +kernel
theorem dL_law_767 : decode cL_law 767 = .ok (.aload_n 0, 1) := by decide +kernel
theorem dL_law_768 : decode cL_law 768 = .ok (.iload_n 3, 1) := by decide +kernel
theorem dL_law_769 : decode cL_law 769 = .ok (.iconst 1, 1) := by decide +kernel
theorem dL_law_770 : decode cL_law 770 = .ok (.iadd, 1) := by decide +kernel
theorem dL_law_771 : decode cL_law 771 = .ok (.iaload, 1) := by decide +kernel
theorem dL_law_772 : decode cL_law 772 = .ok (.aload_n 0, 1) := by decide +kernel
theorem dL_law_773 : decode cL_law 773 = .ok (.iload_n 3, 1) := by decide +kernel
theorem dL_law_774 : decode cL_law 774 = .ok (.iconst 2, 1) := by decide +kernel
theorem dL_law_775 : decode cL_law 775 = .ok (.iadd, 1) := by decide +kernel
theorem dL_law_776 : decode cL_law 776 = .ok (.iaload, 1) := by decide +kernel
theorem dL_law_777 : decode cL_law 777 = .ok (.invokevirtual 87, 3) := by decide +kernel
theorem dL_law_780 : decode cL_law 780 = .ok (.if_icmp .eq 500, 3) := by decide +kernel
theorem dL_law_783 : decode cL_law 783 = .ok (.iconst 0, 1) := by decide +kernel
theorem dL_law_784 : decode cL_law 784 = .ok (.ireturn, 1) := by decide +kernel
theorem dL_law_785 : decode cL_law 785 = .ok (.aload_n 1, 1) := by decide +kernel
theorem dL_law_786 : decode cL_law 786 = .ok (.aload_n 0, 1) := by decide +kernel
theorem dL_law_787 : decode cL_law 787 = .ok (.iload_n 3, 1) := by decide +kernel
theorem dL_law_788 : decode cL_law 788 = .ok (.iconst 1, 1) := by decide +kernel
theorem dL_law_789 : decode cL_law 789 = .ok (.iadd, 1) := by decide +kernel
theorem dL_law_790 : decode cL_law 790 = .ok (.iaload, 1) := by decide +kernel
theorem dL_law_791 : decode cL_law 791 = .ok (.invokevirtual 88, 3) := by decide +kernel
theorem dL_law_794 : decode cL_law 794 = .ok (.aload_n 2, 1) := by decide +kernel
theorem dL_law_795 : decode cL_law 795 = .ok (.aload_n 0, 1) := by decide +kernel
theorem dL_law_796 : decode cL_law 796 = .ok (.iload_n 3, 1) := by decide +kernel
theorem dL_law_797 : decode cL_law 797 = .ok (.iconst 1, 1) := by decide +kernel
theorem dL_law_798 : decode cL_law 798 = .ok (.iadd, 1) := by decide +kernel
theorem dL_law_799 : decode cL_law 799 = .ok (.iaload, 1) := by decide +kernel
theorem dL_law_800 : decode cL_law 800 = .ok (.invokevirtual 91, 3) := by decide +kernel
theorem dL_law_803 : decode cL_law 803 = .ok (.if_icmp .eq 477, 3) := by decide +kernel
theorem dL_law_806 : decode cL_law 806 = .ok (.iconst 0, 1) := by decide +kernel
theorem dL_law_807 : decode cL_law 807 = .ok (.ireturn, 1) := by decide +kernel
theorem dL_law_808 : decode cL_law 808 = .ok (.aload_n 1, 1) := by decide +kernel
theorem dL_law_809 : decode cL_law 809 = .ok (.aload_n 0, 1) := by decide +kernel
theorem dL_law_810 : decode cL_law 810 = .ok (.iload_n 3, 1) := by decide +kernel
theorem dL_law_811 : decode cL_law 811 = .ok (.iconst 1, 1) := by decide +kernel
theorem dL_law_812 : decode cL_law 812 = .ok (.iadd, 1) := by decide +kernel
theorem dL_law_813 : decode cL_law 813 = .ok (.iaload, 1) := by decide +kernel
theorem dL_law_814 : decode cL_law 814 = .ok (.aload_n 0, 1) := by decide +kernel
theorem dL_law_815 : decode cL_law 815 = .ok (.iload_n 3, 1) := by decide +kernel
theorem dL_law_816 : decode cL_law 816 = .ok (.iconst 2, 1) := by decide +kernel
theorem dL_law_817 : decode cL_law 817 = .ok (.iadd, 1) := by decide +kernel
theorem dL_law_818 : decode cL_law 818 = .ok (.iaload, 1) := by decide +kernel
theorem dL_law_819 : decode cL_law 819 = .ok (.invokevirtual 92, 3) := by decide +kernel
theorem dL_law_822 : decode cL_law 822 = .ok (.aload_n 2, 1) := by decide +kernel
theorem dL_law_823 : decode cL_law 823 = .ok (.aload_n 0, 1) := by decide +kernel
theorem dL_law_824 : decode cL_law 824 = .ok (.iload_n 3, 1) := by decide +kernel
theorem dL_law_825 : decode cL_law 825 = .ok (.iconst 1, 1) := by decide +kernel
theorem dL_law_826 : decode cL_law 826 = .ok (.iadd, 1) := by decide +kernel
theorem dL_law_827 : decode cL_law 827 = .ok (.iaload, 1) := by decide +kernel
theorem dL_law_828 : decode cL_law 828 = .ok (.aload_n 0, 1) := by decide +kernel
theorem dL_law_829 : decode cL_law 829 = .ok (.iload_n 3, 1) := by decide +kernel
theorem dL_law_830 : decode cL_law 830 = .ok (.iconst 2, 1) := by decide +kernel
theorem dL_law_831 : decode cL_law 831 = .ok (.iadd, 1) := by decide +kernel
theorem dL_law_832 : decode cL_law 832 = .ok (.iaload, 1) := by decide +kernel
theorem dL_law_833 : decode cL_law 833 = .ok (.invokevirtual 95, 3) := by decide +kernel
theorem dL_law_836 : decode cL_law 836 = .ok (.if_icmp .eq 444, 3) := by decide +kernel
theorem dL_law_839 : decode cL_law 839 = .ok (.iconst 0, 1) := by decide +kernel
theorem dL_law_840 : decode cL_law 840 = .ok (.ireturn, 1) := by decide +kernel
theorem dL_law_841 : decode cL_law 841 = .ok (.aload_n 1, 1) := by decide +kernel
theorem dL_law_842 : decode cL_law 842 = .ok (.invokevirtual 96, 3) := by decide +kernel
theorem dL_law_845 : decode cL_law 845 = .ok (.aload_n 2, 1) := by decide +kernel
theorem dL_law_846 : decode cL_law 846 = .ok (.invokevirtual 99, 3) := by decide +kernel
theorem dL_law_849 : decode cL_law 849 = .ok (.if_icmp .eq 431, 3) := by decide +kernel
theorem dL_law_852 : decode cL_law 852 = .ok (.iconst 0, 1) := by decide +kernel
theorem dL_law_853 : decode cL_law 853 = .ok (.ireturn, 1) := by decide +kernel
theorem dL_law_854 : decode cL_law 854 = .ok (.aload_n 1, 1) := by decide +kernel
theorem dL_law_855 : decode cL_law 855 = .ok (.invokevirtual 100, 3) := by decide +kernel
theorem dL_law_858 : decode cL_law 858 = .ok (.aload_n 2, 1) := by decide +kernel
theorem dL_law_859 : decode cL_law 859 = .ok (.invokevirtual 103, 3) := by decide +kernel
theorem dL_law_862 : decode cL_law 862 = .ok (.if_icmp .eq 418, 3) := by decide +kernel
theorem dL_law_865 : decode cL_law 865 = .ok (.iconst 0, 1) := by decide +kernel
theorem dL_law_866 : decode cL_law 866 = .ok (.ireturn, 1) := by decide +kernel
theorem dL_law_867 : decode cL_law 867 = .ok (.aload_n 1, 1) := by decide +kernel
theorem dL_law_868 : decode cL_law 868 = .ok (.aload_n 0, 1) := by decide +kernel
theorem dL_law_869 : decode cL_law 869 = .ok (.iload_n 3, 1) := by decide +kernel
theorem dL_law_870 : decode cL_law 870 = .ok (.iconst 1, 1) := by decide +kernel
theorem dL_law_871 : decode cL_law 871 = .ok (.iadd, 1) := by decide +kernel
theorem dL_law_872 : decode cL_law 872 = .ok (.iaload, 1) := by decide +kernel
theorem dL_law_873 : decode cL_law 873 = .ok (.aload_n 0, 1) := by decide +kernel
theorem dL_law_874 : decode cL_law 874 = .ok (.iload_n 3, 1) := by decide +kernel
theorem dL_law_875 : decode cL_law 875 = .ok (.iconst 2, 1) := by decide +kernel
theorem dL_law_876 : decode cL_law 876 = .ok (.iadd, 1) := by decide +kernel
theorem dL_law_877 : decode cL_law 877 = .ok (.iaload, 1) := by decide +kernel
theorem dL_law_878 : decode cL_law 878 = .ok (.invokevirtual 104, 3) := by decide +kernel
theorem dL_law_881 : decode cL_law 881 = .ok (.aload_n 2, 1) := by decide +kernel
theorem dL_law_882 : decode cL_law 882 = .ok (.aload_n 0, 1) := by decide +kernel
theorem dL_law_883 : decode cL_law 883 = .ok (.iload_n 3, 1) := by decide +kernel
theorem dL_law_884 : decode cL_law 884 = .ok (.iconst 1, 1) := by decide +kernel
theorem dL_law_885 : decode cL_law 885 = .ok (.iadd, 1) := by decide +kernel
theorem dL_law_886 : decode cL_law 886 = .ok (.iaload, 1) := by decide +kernel
theorem dL_law_887 : decode cL_law 887 = .ok (.aload_n 0, 1) := by decide +kernel
theorem dL_law_888 : decode cL_law 888 = .ok (.iload_n 3, 1) := by decide +kernel
theorem dL_law_889 : decode cL_law 889 = .ok (.iconst 2, 1) := by decide +kernel
theorem dL_law_890 : decode cL_law 890 = .ok (.iadd, 1) := by decide +kernel
theorem dL_law_891 : decode cL_law 891 = .ok (.iaload, 1) := by decide +kernel
theorem dL_law_892 : decode cL_law 892 = .ok (.invokevirtual 107, 3) := by decide +kernel
theorem dL_law_895 : decode cL_law 895 = .ok (.if_icmp .eq 385, 3) := by decide +kernel
theorem dL_law_898 : decode cL_law 898 = .ok (.iconst 0, 1) := by decide +kernel
theorem dL_law_899 : decode cL_law 899 = .ok (.ireturn, 1) := by decide +kernel
theorem dL_law_900 : decode cL_law 900 = .ok (.aload_n 1, 1) := by decide +kernel
theorem dL_law_901 : decode cL_law 901 = .ok (.invokevirtual 108, 3) := by decide +kernel
theorem dL_law_904 : decode cL_law 904 = .ok (.aload_n 2, 1) := by decide +kernel
theorem dL_law_905 : decode cL_law 905 = .ok (.invokevirtual 111, 3) := by decide +kernel
theorem dL_law_908 : decode cL_law 908 = .ok (.if_icmp .eq 372, 3) := by decide +kernel
theorem dL_law_911 : decode cL_law 911 = .ok (.iconst 0, 1) := by decide +kernel
theorem dL_law_912 : decode cL_law 912 = .ok (.ireturn, 1) := by decide +kernel
theorem dL_law_913 : decode cL_law 913 = .ok (.aload_n 1, 1) := by decide +kernel
theorem dL_law_914 : decode cL_law 914 = .ok (.aload_n 0, 1) := by decide +kernel
theorem dL_law_915 : decode cL_law 915 = .ok (.iload_n 3, 1) := by decide +kernel
theorem dL_law_916 : decode cL_law 916 = .ok (.iconst 1, 1) := by decide +kernel
theorem dL_law_917 : decode cL_law 917 = .ok (.iadd, 1) := by decide +kernel
theorem dL_law_918 : decode cL_law 918 = .ok (.iaload, 1) := by decide +kernel
theorem dL_law_919 : decode cL_law 919 = .ok (.invokevirtual 112, 3) := by decide +kernel
theorem dL_law_922 : decode cL_law 922 = .ok (.aload_n 2, 1) := by decide +kernel
theorem dL_law_923 : decode cL_law 923 = .ok (.aload_n 0, 1) := by decide +kernel
theorem dL_law_924 : decode cL_law 924 = .ok (.iload_n 3, 1) := by decide +kernel
theorem dL_law_925 : decode cL_law 925 = .ok (.iconst 1, 1) := by decide +kernel
theorem dL_law_926 : decode cL_law 926 = .ok (.iadd, 1) := by decide +kernel
theorem dL_law_927 : decode cL_law 927 = .ok (.iaload, 1) := by decide +kernel
theorem dL_law_928 : decode cL_law 928 = .ok (.invokevirtual 115, 3) := by decide +kernel
theorem dL_law_931 : decode cL_law 931 = .ok (.if_icmp .eq 349, 3) := by decide +kernel
theorem dL_law_934 : decode cL_law 934 = .ok (.iconst 0, 1) := by decide +kernel
theorem dL_law_935 : decode cL_law 935 = .ok (.ireturn, 1) := by decide +kernel
theorem dL_law_936 : decode cL_law 936 = .ok (.aload_n 1, 1) := by decide +kernel
theorem dL_law_937 : decode cL_law 937 = .ok (.aload_n 0, 1) := by decide +kernel
theorem dL_law_938 : decode cL_law 938 = .ok (.iload_n 3, 1) := by decide +kernel
theorem dL_law_939 : decode cL_law 939 = .ok (.iconst 1, 1) := by decide +kernel
theorem dL_law_940 : decode cL_law 940 = .ok (.iadd, 1) := by decide +kernel
theorem dL_law_941 : decode cL_law 941 = .ok (.iaload, 1) := by decide +kernel
theorem dL_law_942 : decode cL_law 942 = .ok (.aload_n 0, 1) := by decide +kernel
theorem dL_law_943 : decode cL_law 943 = .ok (.iload_n 3, 1) := by decide +kernel
theorem dL_law_944 : decode cL_law 944 = .ok (.iconst 2, 1) := by decide +kernel
theorem dL_law_945 : decode cL_law 945 = .ok (.iadd, 1) := by decide +kernel
theorem dL_law_946 : decode cL_law 946 = .ok (.iaload, 1) := by decide +kernel
theorem dL_law_947 : decode cL_law 947 = .ok (.aload_n 0, 1) := by decide +kernel
theorem dL_law_948 : decode cL_law 948 = .ok (.iload_n 3, 1) := by decide +kernel
theorem dL_law_949 : decode cL_law 949 = .ok (.iconst 3, 1) := by decide +kernel
theorem dL_law_950 : decode cL_law 950 = .ok (.iadd, 1) := by decide +kernel
theorem dL_law_951 : decode cL_law 951 = .ok (.iaload, 1) := by decide +kernel
theorem dL_law_952 : decode cL_law 952 = .ok (.invokevirtual 116, 3) := by decide +kernel
theorem dL_law_955 : decode cL_law 955 = .ok (.aload_n 2, 1) := by decide +kernel
theorem dL_law_956 : decode cL_law 956 = .ok (.aload_n 0, 1) := by decide +kernel
theorem dL_law_957 : decode cL_law 957 = .ok (.iload_n 3, 1) := by decide +kernel
theorem dL_law_958 : decode cL_law 958 = .ok (.iconst 1, 1) := by decide +kernel
theorem dL_law_959 : decode cL_law 959 = .ok (.iadd, 1) := by decide +kernel
theorem dL_law_960 : decode cL_law 960 = .ok (.iaload, 1) := by decide +kernel
theorem dL_law_961 : decode cL_law 961 = .ok (.aload_n 0, 1) := by decide +kernel
theorem dL_law_962 : decode cL_law 962 = .ok (.iload_n 3, 1) := by decide +kernel
theorem dL_law_963 : decode cL_law 963 = .ok (.iconst 2, 1) := by decide +kernel
theorem dL_law_964 : decode cL_law 964 = .ok (.iadd, 1) := by decide +kernel
theorem dL_law_965 : decode cL_law 965 = .ok (.iaload, 1) := by decide +kernel
theorem dL_law_966 : decode cL_law 966 = .ok (.aload_n 0, 1) := by decide +kernel
theorem dL_law_967 : decode cL_law 967 = .ok (.iload_n 3, 1) := by decide +kernel
theorem dL_law_968 : decode cL_law 968 = .ok (.iconst 3, 1) := by decide +kernel
theorem dL_law_969 : decode cL_law 969 = .ok (.iadd, 1) := by decide +kernel
theorem dL_law_970 : decode cL_law 970 = .ok (.iaload, 1) := by decide +kernel
theorem dL_law_971 : decode cL_law 971 = .ok (.invokevirtual 119, 3) := by decide +kernel
theorem dL_law_974 : decode cL_law 974 = .ok (.if_icmp .eq 306, 3) := by decide +kernel
theorem dL_law_977 : decode cL_law 977 = .ok (.iconst 0, 1) := by decide +kernel
theorem dL_law_978 : decode cL_law 978 = .ok (.ireturn, 1) := by decide +kernel
theorem dL_law_979 : decode cL_law 979 = .ok (.aload_n 1, 1) := by decide +kernel
theorem dL_law_980 : decode cL_law 980 = .ok (.aload_n 0, 1) := by decide +kernel
theorem dL_law_981 : decode cL_law 981 = .ok (.iload_n 3, 1) := by decide +kernel
theorem dL_law_982 : decode cL_law 982 = .ok (.iconst 1, 1) := by decide +kernel
theorem dL_law_983 : decode cL_law 983 = .ok (.iadd, 1) := by decide +kernel
theorem dL_law_984 : decode cL_law 984 = .ok (.iaload, 1) := by decide +kernel
theorem dL_law_985 : decode cL_law 985 = .ok (.invokevirtual 120, 3) := by decide +kernel
theorem dL_law_988 : decode cL_law 988 = .ok (.aload_n 2, 1) := by decide +kernel
theorem dL_law_989 : decode cL_law 989 = .ok (.aload_n 0, 1) := by decide +kernel
theorem dL_law_990 : decode cL_law 990 = .ok (.iload_n 3, 1) := by decide +kernel
theorem dL_law_991 : decode cL_law 991 = .ok (.iconst 1, 1) := by decide +kernel
theorem dL_law_992 : decode cL_law 992 = .ok (.iadd, 1) := by decide +kernel
theorem dL_law_993 : decode cL_law 993 = .ok (.iaload, 1) := by decide +kernel
theorem dL_law_994 : decode cL_law 994 = .ok (.invokevirtual 123, 3) := by decide +kernel
theorem dL_law_997 : decode cL_law 997 = .ok (.if_icmp .eq 283, 3) := by decide +kernel
theorem dL_law_1000 : decode cL_law 1000 = .ok (.iconst 0, 1) := by decide +kernel
theorem dL_law_1001 : decode cL_law 1001 = .ok (.ireturn, 1) := by decide +kernel
theorem dL_law_1002 : decode cL_law 1002 = .ok (.aload_n 1, 1) := by decide +kernel
theorem dL_law_1003 : decode cL_law 1003 = .ok (.aload_n 0, 1) := by decide +kernel
theorem dL_law_1004 : decode cL_law 1004 = .ok (.iload_n 3, 1) := by decide +kernel
theorem dL_law_1005 : decode cL_law 1005 = .ok (.iconst 1, 1) := by decide +kernel
theorem dL_law_1006 : decode cL_law 1006 = .ok (.iadd, 1) := by decide +kernel
theorem dL_law_1007 : decode cL_law 1007 = .ok (.iaload, 1) := by decide +kernel
theorem dL_law_1008 : decode cL_law 1008 = .ok (.aload_n 0, 1) := by decide +kernel
theorem dL_law_1009 : decode cL_law 1009 = .ok (.iload_n 3, 1) := by decide +kernel
theorem dL_law_1010 : decode cL_law 1010 = .ok (.iconst 2, 1) := by decide +kernel
theorem dL_law_1011 : decode cL_law 1011 = .ok (.iadd, 1) := by decide +kernel
theorem dL_law_1012 : decode cL_law 1012 = .ok (.iaload, 1) := by decide +kernel
theorem dL_law_1013 : decode cL_law 1013 = .ok (.aload_n 0, 1) := by decide +kernel
theorem dL_law_1014 : decode cL_law 1014 = .ok (.iload_n 3, 1) := by decide +kernel
theorem dL_law_1015 : decode cL_law 1015 = .ok (.iconst 3, 1) := by decide +kernel
theorem dL_law_1016 : decode cL_law 1016 = .ok (.iadd, 1) := by decide +kernel
theorem dL_law_1017 : decode cL_law 1017 = .ok (.iaload, 1) := by decide +kernel
theorem dL_law_1018 : decode cL_law 1018 = .ok (.invokevirtual 124, 3) := by decide +kernel
theorem dL_law_1021 : decode cL_law 1021 = .ok (.aload_n 2, 1) := by decide +kernel
theorem dL_law_1022 : decode cL_law 1022 = .ok (.aload_n 0, 1) := by decide +kernel
theorem dL_law_1023 : decode cL_law 1023 = .ok (.iload_n 3, 1) := by decide +kernel
theorem dL_law_1024 : decode cL_law 1024 = .ok (.iconst 1, 1) := by decide +kernel
theorem dL_law_1025 : decode cL_law 1025 = .ok (.iadd, 1) := by decide +kernel
theorem dL_law_1026 : decode cL_law 1026 = .ok (.iaload, 1) := by decide +kernel
theorem dL_law_1027 : decode cL_law 1027 = .ok (.aload_n 0, 1) := by decide +kernel
theorem dL_law_1028 : decode cL_law 1028 = .ok (.iload_n 3, 1) := by decide +kernel
theorem dL_law_1029 : decode cL_law 1029 = .ok (.iconst 2, 1) := by decide +kernel
theorem dL_law_1030 : decode cL_law 1030 = .ok (.iadd, 1) := by decide +kernel
theorem dL_law_1031 : decode cL_law 1031 = .ok (.iaload, 1) := by decide +kernel
theorem dL_law_1032 : decode cL_law 1032 = .ok (.aload_n 0, 1) := by decide +kernel
theorem dL_law_1033 : decode cL_law 1033 = .ok (.iload_n 3, 1) := by decide +kernel
theorem dL_law_1034 : decode cL_law 1034 = .ok (.iconst 3, 1) := by decide +kernel
theorem dL_law_1035 : decode cL_law 1035 = .ok (.iadd, 1) := by decide +kernel
theorem dL_law_1036 : decode cL_law 1036 = .ok (.iaload, 1) := by decide +kernel
theorem dL_law_1037 : decode cL_law 1037 = .ok (.invokevirtual 127, 3) := by decide +kernel
theorem dL_law_1040 : decode cL_law 1040 = .ok (.if_icmp .eq 240, 3) := by decide +kernel
theorem dL_law_1043 : decode cL_law 1043 = .ok (.iconst 0, 1) := by decide +kernel
theorem dL_law_1044 : decode cL_law 1044 = .ok (.ireturn, 1) := by decide +kernel
theorem dL_law_1045 : decode cL_law 1045 = .ok (.aload_n 1, 1) := by decide +kernel
theorem dL_law_1046 : decode cL_law 1046 = .ok (.aload_n 0, 1) := by decide +kernel
theorem dL_law_1047 : decode cL_law 1047 = .ok (.iload_n 3, 1) := by decide +kernel
theorem dL_law_1048 : decode cL_law 1048 = .ok (.iconst 1, 1) := by decide +kernel
theorem dL_law_1049 : decode cL_law 1049 = .ok (.iadd, 1) := by decide +kernel
theorem dL_law_1050 : decode cL_law 1050 = .ok (.iaload, 1) := by decide +kernel
theorem dL_law_1051 : decode cL_law 1051 = .ok (.aload_n 0, 1) := by decide +kernel
theorem dL_law_1052 : decode cL_law 1052 = .ok (.iload_n 3, 1) := by decide +kernel
theorem dL_law_1053 : decode cL_law 1053 = .ok (.iconst 2, 1) := by decide +kernel
theorem dL_law_1054 : decode cL_law 1054 = .ok (.iadd, 1) := by decide +kernel
theorem dL_law_1055 : decode cL_law 1055 = .ok (.iaload, 1) := by decide +kernel
theorem dL_law_1056 : decode cL_law 1056 = .ok (.aload_n 0, 1) := by decide +kernel
theorem dL_law_1057 : decode cL_law 1057 = .ok (.iload_n 3, 1) := by decide +kernel
theorem dL_law_1058 : decode cL_law 1058 = .ok (.iconst 3, 1) := by decide +kernel
theorem dL_law_1059 : decode cL_law 1059 = .ok (.iadd, 1) := by decide +kernel
theorem dL_law_1060 : decode cL_law 1060 = .ok (.iaload, 1) := by decide +kernel
theorem dL_law_1061 : decode cL_law 1061 = .ok (.invokevirtual 128, 3) := by decide +kernel
theorem dL_law_1064 : decode cL_law 1064 = .ok (.aload_n 2, 1) := by decide +kernel
theorem dL_law_1065 : decode cL_law 1065 = .ok (.aload_n 0, 1) := by decide +kernel
theorem dL_law_1066 : decode cL_law 1066 = .ok (.iload_n 3, 1) := by decide +kernel
theorem dL_law_1067 : decode cL_law 1067 = .ok (.iconst 1, 1) := by decide +kernel
theorem dL_law_1068 : decode cL_law 1068 = .ok (.iadd, 1) := by decide +kernel
theorem dL_law_1069 : decode cL_law 1069 = .ok (.iaload, 1) := by decide +kernel
theorem dL_law_1070 : decode cL_law 1070 = .ok (.aload_n 0, 1) := by decide +kernel
theorem dL_law_1071 : decode cL_law 1071 = .ok (.iload_n 3, 1) := by decide +kernel
theorem dL_law_1072 : decode cL_law 1072 = .ok (.iconst 2, 1) := by decide +kernel
theorem dL_law_1073 : decode cL_law 1073 = .ok (.iadd, 1) := by decide +kernel
theorem dL_law_1074 : decode cL_law 1074 = .ok (.iaload, 1) := by decide +kernel
theorem dL_law_1075 : decode cL_law 1075 = .ok (.aload_n 0, 1) := by decide +kernel
theorem dL_law_1076 : decode cL_law 1076 = .ok (.iload_n 3, 1) := by decide +kernel
theorem dL_law_1077 : decode cL_law 1077 = .ok (.iconst 3, 1) := by decide +kernel
theorem dL_law_1078 : decode cL_law 1078 = .ok (.iadd, 1) := by decide +kernel
theorem dL_law_1079 : decode cL_law 1079 = .ok (.iaload, 1) := by decide +kernel
theorem dL_law_1080 : decode cL_law 1080 = .ok (.invokevirtual 131, 3) := by decide +kernel
theorem dL_law_1083 : decode cL_law 1083 = .ok (.lcmp, 1) := by decide +kernel
theorem dL_law_1084 : decode cL_law 1084 = .ok (.ifCond .eq 196, 3) := by decide +kernel
theorem dL_law_1087 : decode cL_law 1087 = .ok (.iconst 0, 1) := by decide +kernel
theorem dL_law_1088 : decode cL_law 1088 = .ok (.ireturn, 1) := by decide +kernel
theorem dL_law_1089 : decode cL_law 1089 = .ok (.aload_n 1, 1) := by decide +kernel
theorem dL_law_1090 : decode cL_law 1090 = .ok (.aload_n 0, 1) := by decide +kernel
theorem dL_law_1091 : decode cL_law 1091 = .ok (.iload_n 3, 1) := by decide +kernel
theorem dL_law_1092 : decode cL_law 1092 = .ok (.iconst 1, 1) := by decide +kernel
theorem dL_law_1093 : decode cL_law 1093 = .ok (.iadd, 1) := by decide +kernel
theorem dL_law_1094 : decode cL_law 1094 = .ok (.iaload, 1) := by decide +kernel
theorem dL_law_1095 : decode cL_law 1095 = .ok (.aload_n 0, 1) := by decide +kernel
theorem dL_law_1096 : decode cL_law 1096 = .ok (.iload_n 3, 1) := by decide +kernel
theorem dL_law_1097 : decode cL_law 1097 = .ok (.iconst 2, 1) := by decide +kernel
theorem dL_law_1098 : decode cL_law 1098 = .ok (.iadd, 1) := by decide +kernel
theorem dL_law_1099 : decode cL_law 1099 = .ok (.iaload, 1) := by decide +kernel
theorem dL_law_1100 : decode cL_law 1100 = .ok (.aload_n 0, 1) := by decide +kernel
theorem dL_law_1101 : decode cL_law 1101 = .ok (.iload_n 3, 1) := by decide +kernel
theorem dL_law_1102 : decode cL_law 1102 = .ok (.iconst 3, 1) := by decide +kernel
theorem dL_law_1103 : decode cL_law 1103 = .ok (.iadd, 1) := by decide +kernel
theorem dL_law_1104 : decode cL_law 1104 = .ok (.iaload, 1) := by decide +kernel
theorem dL_law_1105 : decode cL_law 1105 = .ok (.aload_n 0, 1) := by decide +kernel
theorem dL_law_1106 : decode cL_law 1106 = .ok (.iload_n 3, 1) := by decide +kernel
theorem dL_law_1107 : decode cL_law 1107 = .ok (.iconst 4, 1) := by decide +kernel
theorem dL_law_1108 : decode cL_law 1108 = .ok (.iadd, 1) := by decide +kernel
theorem dL_law_1109 : decode cL_law 1109 = .ok (.iaload, 1) := by decide +kernel
theorem dL_law_1110 : decode cL_law 1110 = .ok (.aload_n 0, 1) := by decide +kernel
theorem dL_law_1111 : decode cL_law 1111 = .ok (.iload_n 3, 1) := by decide +kernel
theorem dL_law_1112 : decode cL_law 1112 = .ok (.iconst 5, 1) := by decide +kernel
theorem dL_law_1113 : decode cL_law 1113 = .ok (.iadd, 1) := by decide +kernel
theorem dL_law_1114 : decode cL_law 1114 = .ok (.iaload, 1) := by decide +kernel
theorem dL_law_1115 : decode cL_law 1115 = .ok (.invokevirtual 132, 3) := by decide +kernel
theorem dL_law_1118 : decode cL_law 1118 = .ok (.aload_n 2, 1) := by decide +kernel
theorem dL_law_1119 : decode cL_law 1119 = .ok (.aload_n 0, 1) := by decide +kernel
theorem dL_law_1120 : decode cL_law 1120 = .ok (.iload_n 3, 1) := by decide +kernel
theorem dL_law_1121 : decode cL_law 1121 = .ok (.iconst 1, 1) := by decide +kernel
theorem dL_law_1122 : decode cL_law 1122 = .ok (.iadd, 1) := by decide +kernel
theorem dL_law_1123 : decode cL_law 1123 = .ok (.iaload, 1) := by decide +kernel
theorem dL_law_1124 : decode cL_law 1124 = .ok (.aload_n 0, 1) := by decide +kernel
theorem dL_law_1125 : decode cL_law 1125 = .ok (.iload_n 3, 1) := by decide +kernel
theorem dL_law_1126 : decode cL_law 1126 = .ok (.iconst 2, 1) := by decide +kernel
theorem dL_law_1127 : decode cL_law 1127 = .ok (.iadd, 1) := by decide +kernel
theorem dL_law_1128 : decode cL_law 1128 = .ok (.iaload, 1) := by decide +kernel
theorem dL_law_1129 : decode cL_law 1129 = .ok (.aload_n 0, 1) := by decide +kernel
theorem dL_law_1130 : decode cL_law 1130 = .ok (.iload_n 3, 1) := by decide +kernel
theorem dL_law_1131 : decode cL_law 1131 = .ok (.iconst 3, 1) := by decide +kernel
theorem dL_law_1132 : decode cL_law 1132 = .ok (.iadd, 1) := by decide +kernel
theorem dL_law_1133 : decode cL_law 1133 = .ok (.iaload, 1) := by decide +kernel
theorem dL_law_1134 : decode cL_law 1134 = .ok (.aload_n 0, 1) := by decide +kernel
theorem dL_law_1135 : decode cL_law 1135 = .ok (.iload_n 3, 1) := by decide +kernel
theorem dL_law_1136 : decode cL_law 1136 = .ok (.iconst 4, 1) := by decide +kernel
theorem dL_law_1137 : decode cL_law 1137 = .ok (.iadd, 1) := by decide +kernel
theorem dL_law_1138 : decode cL_law 1138 = .ok (.iaload, 1) := by decide +kernel
theorem dL_law_1139 : decode cL_law 1139 = .ok (.aload_n 0, 1) := by decide +kernel
theorem dL_law_1140 : decode cL_law 1140 = .ok (.iload_n 3, 1) := by decide +kernel
theorem dL_law_1141 : decode cL_law 1141 = .ok (.iconst 5, 1) := by decide +kernel
theorem dL_law_1142 : decode cL_law 1142 = .ok (.iadd, 1) := by decide +kernel
theorem dL_law_1143 : decode cL_law 1143 = .ok (.iaload, 1) := by decide +kernel
theorem dL_law_1144 : decode cL_law 1144 = .ok (.invokevirtual 135, 3) := by decide +kernel
theorem dL_law_1147 : decode cL_law 1147 = .ok (.if_icmp .eq 133, 3) := by decide +kernel
theorem dL_law_1150 : decode cL_law 1150 = .ok (.iconst 0, 1) := by decide +kernel
theorem dL_law_1151 : decode cL_law 1151 = .ok (.ireturn, 1) := by decide +kernel
theorem dL_law_1152 : decode cL_law 1152 = .ok (.aload_n 1, 1) := by decide +kernel
theorem dL_law_1153 : decode cL_law 1153 = .ok (.aload_n 0, 1) := by decide +kernel
theorem dL_law_1154 : decode cL_law 1154 = .ok (.iload_n 3, 1) := by decide +kernel
theorem dL_law_1155 : decode cL_law 1155 = .ok (.iconst 1, 1) := by decide +kernel
theorem dL_law_1156 : decode cL_law 1156 = .ok (.iadd, 1) := by decide +kernel
theorem dL_law_1157 : decode cL_law 1157 = .ok (.iaload, 1) := by decide +kernel
theorem dL_law_1158 : decode cL_law 1158 = .ok (.invokevirtual 136, 3) := by decide +kernel
theorem dL_law_1161 : decode cL_law 1161 = .ok (.aload_n 2, 1) := by decide +kernel
theorem dL_law_1162 : decode cL_law 1162 = .ok (.aload_n 0, 1) := by decide +kernel
theorem dL_law_1163 : decode cL_law 1163 = .ok (.iload_n 3, 1) := by decide +kernel
theorem dL_law_1164 : decode cL_law 1164 = .ok (.iconst 1, 1) := by decide +kernel
theorem dL_law_1165 : decode cL_law 1165 = .ok (.iadd, 1) := by decide +kernel
theorem dL_law_1166 : decode cL_law 1166 = .ok (.iaload, 1) := by decide +kernel
theorem dL_law_1167 : decode cL_law 1167 = .ok (.invokevirtual 139, 3) := by decide +kernel
theorem dL_law_1170 : decode cL_law 1170 = .ok (.if_icmp .eq 110, 3) := by decide +kernel
theorem dL_law_1173 : decode cL_law 1173 = .ok (.iconst 0, 1) := by decide +kernel
theorem dL_law_1174 : decode cL_law 1174 = .ok (.ireturn, 1) := by decide +kernel
theorem dL_law_1175 : decode cL_law 1175 = .ok (.aload_n 1, 1) := by decide +kernel
theorem dL_law_1176 : decode cL_law 1176 = .ok (.aload_n 0, 1) := by decide +kernel
theorem dL_law_1177 : decode cL_law 1177 = .ok (.iload_n 3, 1) := by decide +kernel
theorem dL_law_1178 : decode cL_law 1178 = .ok (.iconst 1, 1) := by decide +kernel
theorem dL_law_1179 : decode cL_law 1179 = .ok (.iadd, 1) := by decide +kernel
theorem dL_law_1180 : decode cL_law 1180 = .ok (.iaload, 1) := by decide +kernel
theorem dL_law_1181 : decode cL_law 1181 = .ok (.invokevirtual 140, 3) := by decide +kernel
theorem dL_law_1184 : decode cL_law 1184 = .ok (.aload_n 2, 1) := by decide +kernel
theorem dL_law_1185 : decode cL_law 1185 = .ok (.aload_n 0, 1) := by decide +kernel
theorem dL_law_1186 : decode cL_law 1186 = .ok (.iload_n 3, 1) := by decide +kernel
theorem dL_law_1187 : decode cL_law 1187 = .ok (.iconst 1, 1) := by decide +kernel
theorem dL_law_1188 : decode cL_law 1188 = .ok (.iadd, 1) := by decide +kernel
theorem dL_law_1189 : decode cL_law 1189 = .ok (.iaload, 1) := by decide +kernel
theorem dL_law_1190 : decode cL_law 1190 = .ok (.invokevirtual 143, 3) := by decide +kernel
theorem dL_law_1193 : decode cL_law 1193 = .ok (.if_icmp .eq 87, 3) := by decide +kernel
theorem dL_law_1196 : decode cL_law 1196 = .ok (.iconst 0, 1) := by decide +kernel
theorem dL_law_1197 : decode cL_law 1197 = .ok (.ireturn, 1) := by decide +kernel
theorem dL_law_1198 : decode cL_law 1198 = .ok (.aload_n 1, 1) := by decide +kernel
theorem dL_law_1199 : decode cL_law 1199 = .ok (.aload_n 0, 1) := by decide +kernel
theorem dL_law_1200 : decode cL_law 1200 = .ok (.iload_n 3, 1) := by decide +kernel
theorem dL_law_1201 : decode cL_law 1201 = .ok (.iconst 1, 1) := by decide +kernel
theorem dL_law_1202 : decode cL_law 1202 = .ok (.iadd, 1) := by decide +kernel
theorem dL_law_1203 : decode cL_law 1203 = .ok (.iaload, 1) := by decide +kernel
theorem dL_law_1204 : decode cL_law 1204 = .ok (.aload_n 0, 1) := by decide +kernel
theorem dL_law_1205 : decode cL_law 1205 = .ok (.iload_n 3, 1) := by decide +kernel
theorem dL_law_1206 : decode cL_law 1206 = .ok (.iconst 2, 1) := by decide +kernel
theorem dL_law_1207 : decode cL_law 1207 = .ok (.iadd, 1) := by decide +kernel
theorem dL_law_1208 : decode cL_law 1208 = .ok (.iaload, 1) := by decide +kernel
theorem dL_law_1209 : decode cL_law 1209 = .ok (.invokevirtual 144, 3) := by decide +kernel
theorem dL_law_1212 : decode cL_law 1212 = .ok (.aload_n 2, 1) := by decide +kernel
theorem dL_law_1213 : decode cL_law 1213 = .ok (.aload_n 0, 1) := by decide +kernel
theorem dL_law_1214 : decode cL_law 1214 = .ok (.iload_n 3, 1) := by decide +kernel
theorem dL_law_1215 : decode cL_law 1215 = .ok (.iconst 1, 1) := by decide +kernel
theorem dL_law_1216 : decode cL_law 1216 = .ok (.iadd, 1) := by decide +kernel
theorem dL_law_1217 : decode cL_law 1217 = .ok (.iaload, 1) := by decide +kernel
theorem dL_law_1218 : decode cL_law 1218 = .ok (.aload_n 0, 1) := by decide +kernel
theorem dL_law_1219 : decode cL_law 1219 = .ok (.iload_n 3, 1) := by decide +kernel
theorem dL_law_1220 : decode cL_law 1220 = .ok (.iconst 2, 1) := by decide +kernel
theorem dL_law_1221 : decode cL_law 1221 = .ok (.iadd, 1) := by decide +kernel
theorem dL_law_1222 : decode cL_law 1222 = .ok (.iaload, 1) := by decide +kernel
theorem dL_law_1223 : decode cL_law 1223 = .ok (.invokevirtual 147, 3) := by decide +kernel
theorem dL_law_1226 : decode cL_law 1226 = .ok (.if_icmp .eq 54, 3) := by decide +kernel
theorem dL_law_1229 : decode cL_law 1229 = .ok (.iconst 0, 1) := by decide +kernel
theorem dL_law_1230 : decode cL_law 1230 = .ok (.ireturn, 1) := by decide +kernel
theorem dL_law_1231 : decode cL_law 1231 = .ok (.aload_n 1, 1) := by decide +kernel
theorem dL_law_1232 : decode cL_law 1232 = .ok (.invokevirtual 148, 3) := by decide +kernel
theorem dL_law_1235 : decode cL_law 1235 = .ok (.aload_n 2, 1) := by decide +kernel
theorem dL_law_1236 : decode cL_law 1236 = .ok (.invokevirtual 151, 3) := by decide +kernel
theorem dL_law_1239 : decode cL_law 1239 = .ok (.if_icmp .eq 41, 3) := by decide +kernel
theorem dL_law_1242 : decode cL_law 1242 = .ok (.iconst 0, 1) := by decide +kernel
theorem dL_law_1243 : decode cL_law 1243 = .ok (.ireturn, 1) := by decide +kernel
theorem dL_law_1244 : decode cL_law 1244 = .ok (.aload_n 1, 1) := by decide +kernel
theorem dL_law_1245 : decode cL_law 1245 = .ok (.invokevirtual 152, 3) := by decide +kernel
theorem dL_law_1248 : decode cL_law 1248 = .ok (.aload_n 2, 1) := by decide +kernel
theorem dL_law_1249 : decode cL_law 1249 = .ok (.invokevirtual 155, 3) := by decide +kernel
theorem dL_law_1252 : decode cL_law 1252 = .ok (.if_icmp .eq 28, 3) := by decide +kernel
theorem dL_law_1255 : decode cL_law 1255 = .ok (.iconst 0, 1) := by decide +kernel
theorem dL_law_1256 : decode cL_law 1256 = .ok (.ireturn, 1) := by decide +kernel
theorem dL_law_1257 : decode cL_law 1257 = .ok (.aload_n 1, 1) := by decide +kernel
theorem dL_law_1258 : decode cL_law 1258 = .ok (.aload_n 0, 1) := by decide +kernel
theorem dL_law_1259 : decode cL_law 1259 = .ok (.iload_n 3, 1) := by decide +kernel
theorem dL_law_1260 : decode cL_law 1260 = .ok (.iconst 1, 1) := by decide +kernel
theorem dL_law_1261 : decode cL_law 1261 = .ok (.iadd, 1) := by decide +kernel
theorem dL_law_1262 : decode cL_law 1262 = .ok (.iaload, 1) := by decide +kernel
theorem dL_law_1263 : decode cL_law 1263 = .ok (.invokevirtual 156, 3) := by decide +kernel
theorem dL_law_1266 : decode cL_law 1266 = .ok (.aload_n 2, 1) := by decide +kernel
theorem dL_law_1267 : decode cL_law 1267 = .ok (.aload_n 0, 1) := by decide +kernel
theorem dL_law_1268 : decode cL_law 1268 = .ok (.iload_n 3, 1) := by decide +kernel
theorem dL_law_1269 : decode cL_law 1269 = .ok (.iconst 1, 1) := by decide +kernel
theorem dL_law_1270 : decode cL_law 1270 = .ok (.iadd, 1) := by decide +kernel
theorem dL_law_1271 : decode cL_law 1271 = .ok (.iaload, 1) := by decide +kernel
theorem dL_law_1272 : decode cL_law 1272 = .ok (.invokevirtual 159, 3) := by decide +kernel
theorem dL_law_1275 : decode cL_law 1275 = .ok (.if_icmp .eq 5, 3) := by decide +kernel
theorem dL_law_1278 : decode cL_law 1278 = .ok (.iconst 0, 1) := by decide +kernel
theorem dL_law_1279 : decode cL_law 1279 = .ok (.ireturn, 1) := by decide +kernel
theorem dL_law_1280 : decode cL_law 1280 = .ok (.iinc 3 6, 3) := by decide +kernel
theorem dL_law_1283 : decode cL_law 1283 = .ok (.goto (-1265), 3) := by decide +kernel
theorem dL_law_1286 : decode cL_law 1286 = .ok (.iconst 1, 1) := by decide +kernel
theorem dL_law_1287 : decode cL_law 1287 = .ok (.ireturn, 1) := by decide +kernel
abbrev vwCl : List vw_C := [(RX0, TX0, 1), (RX1, TX1, 4), (RX2, TX2, 3), (RX3, TX3, 13), (RX4, TX4, 4), (RX5, TX5, 7), (RX6, TX6, 23)]
end
section
/-! whole numbers as the machine's ints and longs -/
def iI (z : Int) : Int32 := Int32.ofInt z
def lI (z : Int) : Int64 := Int64.ofInt z
theorem iI_toInt {z : Int} (h1 : -2147483648 ≤ z) (h2 : z < 2147483648) : (iI z).toInt = z := Int32.toInt_ofInt_of_le h1 h2
theorem lI_toInt {z : Int} (h1 : -9223372036854775808 ≤ z) (h2 : z < 9223372036854775808) : (lI z).toInt = z := Int64.toInt_ofInt_of_le h1 h2
theorem iI_of (x : Int32) : iI x.toInt = x := Int32.ofInt_toInt x
theorem iI_add (a b : Int) : iI a + iI b = iI (a + b) := (Int32.ofInt_add).symm
theorem iI_sub (a b : Int) : iI a - iI b = iI (a - b) := (Int32.ofInt_sub).symm
theorem iI_mul (a b : Int) : iI a * iI b = iI (a * b) := (Int32.ofInt_mul).symm
theorem iI_neg (a : Int) : - iI a = iI (-a) := (Int32.ofInt_neg).symm
theorem lI_add (a b : Int) : lI a + lI b = lI (a + b) := (Int64.ofInt_add).symm
theorem lI_sub (a b : Int) : lI a - lI b = lI (a - b) := (Int64.ofInt_sub).symm
theorem lI_mul (a b : Int) : lI a * lI b = lI (a * b) := (Int64.ofInt_mul).symm
theorem iI_inj {a b : Int} (a1 : -2147483648 ≤ a) (a2 : a < 2147483648) (b1 : -2147483648 ≤ b) (b2 : b < 2147483648) : (iI a = iI b) ↔ a = b := by
  constructor
  · intro h
    have := congrArg Int32.toInt h
    rwa [iI_toInt a1 a2, iI_toInt b1 b2] at this
  · intro h; rw [h]
theorem iI_le {a b : Int} (a1 : -2147483648 ≤ a) (a2 : a < 2147483648) (b1 : -2147483648 ≤ b) (b2 : b < 2147483648) : (iI a ≤ iI b) ↔ a ≤ b := by
  rw [Int32.le_iff_toInt_le, iI_toInt a1 a2, iI_toInt b1 b2]
theorem iI_lt {a b : Int} (a1 : -2147483648 ≤ a) (a2 : a < 2147483648) (b1 : -2147483648 ≤ b) (b2 : b < 2147483648) : (iI a < iI b) ↔ a < b := by
  rw [Int32.lt_iff_toInt_lt, iI_toInt a1 a2, iI_toInt b1 b2]
theorem lI_inj {a b : Int} (a1 : -9223372036854775808 ≤ a) (a2 : a < 9223372036854775808) (b1 : -9223372036854775808 ≤ b) (b2 : b < 9223372036854775808) : (lI a = lI b) ↔ a = b := by
  constructor
  · intro h
    have := congrArg Int64.toInt h
    rwa [lI_toInt a1 a2, lI_toInt b1 b2] at this
  · intro h; rw [h]
theorem lI_lt {a b : Int} (a1 : -9223372036854775808 ≤ a) (a2 : a < 9223372036854775808) (b1 : -9223372036854775808 ≤ b) (b2 : b < 9223372036854775808) : (lI a < lI b) ↔ a < b := by
  rw [Int64.lt_iff_toInt_lt, lI_toInt a1 a2, lI_toInt b1 b2]
theorem iI_0 : iI 0 = 0 := rfl
theorem iI_nat (k : Nat) (h : k < 2147483648) : (iI (k : Int)).toNatClampNeg = k := by
  rw [Int32.toNatClampNeg, iI_toInt (by omega) (by omega)]; rfl
theorem iI_clamp {z : Int} (h1 : 0 ≤ z) (h2 : z < 2147483648) : (iI z).toNatClampNeg = z.toNat := by
  rw [Int32.toNatClampNeg, iI_toInt (by omega) (by omega)]
theorem iI_in {z : Int} {n : Nat} (h1 : 0 ≤ z) (h2 : z < n) (hn : n < 2147483648) : vp_in (iI z) n := by
  intro h
  rcases h with h | h
  · rw [show (0 : Int32) = iI 0 from rfl, iI_lt (by omega) (by omega) (by omega) (by omega)] at h; omega
  · rw [iI_clamp h1 (by omega)] at h; omega
theorem iI_div {a b : Int} (a1 : 0 ≤ a) (a2 : a < 2147483648) (b1 : 0 < b) (b2 : b < 2147483648) : iI a / iI b = iI (a / b) := by
  have hb := Int.ediv_le_self b a1
  have h0 := Int.ediv_nonneg a1 (Int.le_of_lt b1)
  apply Int32.toInt_inj.mp
  rw [Int32.toInt_div_of_ne_right (by rw [iI_toInt (by omega) (by omega)]; omega), iI_toInt (by omega) (by omega), iI_toInt (by omega) (by omega), iI_toInt (by omega) (by have := Int.ediv_le_self b a1; omega), Int.tdiv_eq_ediv_of_nonneg a1]
theorem iI_rem {a b : Int} (a1 : 0 ≤ a) (a2 : a < 2147483648) (b1 : 0 < b) (b2 : b < 2147483648) : iI a - iI a / iI b * iI b = iI (a % b) := by
  rw [iI_div a1 a2 b1 b2, iI_mul, iI_sub, Int.emod_def, Int.mul_comm]
theorem iI_ne0 {b : Int} (b1 : 0 < b) (b2 : b < 2147483648) : ¬ iI b = 0 := by
  rw [show (0 : Int32) = iI 0 from rfl, iI_inj (by omega) (by omega) (by omega) (by omega)]; omega
theorem iI_long {a : Int} (a1 : -2147483648 ≤ a) (a2 : a < 2147483648) : (iI a).toInt64 = lI a := by
  apply Int64.toInt_inj.mp
  rw [Int32.toInt_toInt64, iI_toInt a1 a2, lI_toInt (by omega) (by omega)]
theorem lI_int {a : Int} : (lI a).toInt32 = iI a := Int64.toInt32_ofInt
def bI (b : Bool) : Int := if b then 1 else 0
theorem bI_t : bI true = 1 := rfl
theorem bI_f : bI false = 0 := rfl
end
