section
-- ===== PART A: goes FIRST, ahead of the names: the tables' words, and 'selects' of the private methods out of them =====
/-- a private method of a class that the tables say can be made, by its rows of tables_1 -/
def lw_okq (q : MethodName × Nat) : Prop := (q.1.cls ≠ "java/lang/invoke/MethodHandle" ∧ q.1.cls ≠ "java/lang/invoke/VarHandle") ∧ Cond.instantiable q.1.cls q.2 ∈ tables_1 ∧ Cond.privateMethod q.1 ∈ tables_1 ∧ Cond.instanceMethod q.1 ∈ tables_1
theorem lw_p0 : lw_okq (⟨"CutOnce$Picture", "layEdges", "(II)V"⟩, 4) := ⟨⟨by decide +kernel, by decide +kernel⟩, List.mem_of_getElem? (i := 19) (by decide +kernel), List.mem_of_getElem? (i := 29) (by decide +kernel), List.mem_of_getElem? (i := 30) (by decide +kernel)⟩
theorem lw_p1 : lw_okq (⟨"CutOnce", "come", "(I)I"⟩, 7) := ⟨⟨by decide +kernel, by decide +kernel⟩, List.mem_of_getElem? (i := 11) (by decide +kernel), List.mem_of_getElem? (i := 237) (by decide +kernel), List.mem_of_getElem? (i := 238) (by decide +kernel)⟩
theorem lw_p2 : lw_okq (⟨"CutOnce", "shapeFrom", "(LCutOnce$Sheet;III)V"⟩, 7) := ⟨⟨by decide +kernel, by decide +kernel⟩, List.mem_of_getElem? (i := 11) (by decide +kernel), List.mem_of_getElem? (i := 258) (by decide +kernel), List.mem_of_getElem? (i := 259) (by decide +kernel)⟩
theorem lw_p3 : lw_okq (⟨"CutOnce$Picture", "bulges", "(I)Z"⟩, 4) := ⟨⟨by decide +kernel, by decide +kernel⟩, List.mem_of_getElem? (i := 19) (by decide +kernel), List.mem_of_getElem? (i := 316) (by decide +kernel), List.mem_of_getElem? (i := 317) (by decide +kernel)⟩
theorem lw_p4 : lw_okq (⟨"CutOnce$Picture", "differing", "(III)I"⟩, 4) := ⟨⟨by decide +kernel, by decide +kernel⟩, List.mem_of_getElem? (i := 19) (by decide +kernel), List.mem_of_getElem? (i := 320) (by decide +kernel), List.mem_of_getElem? (i := 321) (by decide +kernel)⟩
theorem lw_p5 : lw_okq (⟨"CutOnce$Picture", "strangersApart", "(II)I"⟩, 4) := ⟨⟨by decide +kernel, by decide +kernel⟩, List.mem_of_getElem? (i := 19) (by decide +kernel), List.mem_of_getElem? (i := 332) (by decide +kernel), List.mem_of_getElem? (i := 333) (by decide +kernel)⟩
theorem lw_p6 : lw_okq (⟨"CutOnce", "countMissing", "(I)I"⟩, 7) := ⟨⟨by decide +kernel, by decide +kernel⟩, List.mem_of_getElem? (i := 11) (by decide +kernel), List.mem_of_getElem? (i := 418) (by decide +kernel), List.mem_of_getElem? (i := 419) (by decide +kernel)⟩
theorem lw_p7 : lw_okq (⟨"CutOnce", "isMissing", "(II)Z"⟩, 7) := ⟨⟨by decide +kernel, by decide +kernel⟩, List.mem_of_getElem? (i := 11) (by decide +kernel), List.mem_of_getElem? (i := 422) (by decide +kernel), List.mem_of_getElem? (i := 423) (by decide +kernel)⟩
theorem lw_p8 : lw_okq (⟨"CutOnce", "missingPiece", "(II)I"⟩, 7) := ⟨⟨by decide +kernel, by decide +kernel⟩, List.mem_of_getElem? (i := 11) (by decide +kernel), List.mem_of_getElem? (i := 434) (by decide +kernel), List.mem_of_getElem? (i := 435) (by decide +kernel)⟩
theorem lw_p9 : lw_okq (⟨"CutOnce$Search", "run", "(Z)V"⟩, 13) := ⟨⟨by decide +kernel, by decide +kernel⟩, List.mem_of_getElem? (i := 63) (by decide +kernel), List.mem_of_getElem? (i := 446) (by decide +kernel), List.mem_of_getElem? (i := 447) (by decide +kernel)⟩
theorem lw_p10 : lw_okq (⟨"CutOnce$Search", "readEdges", "(I)V"⟩, 13) := ⟨⟨by decide +kernel, by decide +kernel⟩, List.mem_of_getElem? (i := 63) (by decide +kernel), List.mem_of_getElem? (i := 451) (by decide +kernel), List.mem_of_getElem? (i := 452) (by decide +kernel)⟩
theorem lw_p11 : lw_okq (⟨"CutOnce$Search", "codeOf", "(II)I"⟩, 13) := ⟨⟨by decide +kernel, by decide +kernel⟩, List.mem_of_getElem? (i := 63) (by decide +kernel), List.mem_of_getElem? (i := 457) (by decide +kernel), List.mem_of_getElem? (i := 458) (by decide +kernel)⟩
theorem lw_p12 : lw_okq (⟨"CutOnce$Search", "mateOf", "(II)I"⟩, 13) := ⟨⟨by decide +kernel, by decide +kernel⟩, List.mem_of_getElem? (i := 63) (by decide +kernel), List.mem_of_getElem? (i := 462) (by decide +kernel), List.mem_of_getElem? (i := 463) (by decide +kernel)⟩
theorem lw_p13 : lw_okq (⟨"CutOnce$Search", "fillFrom", "(I)V"⟩, 13) := ⟨⟨by decide +kernel, by decide +kernel⟩, List.mem_of_getElem? (i := 63) (by decide +kernel), List.mem_of_getElem? (i := 467) (by decide +kernel), List.mem_of_getElem? (i := 468) (by decide +kernel)⟩
theorem lw_p14 : lw_okq (⟨"CutOnce$Search", "lookAround", "(I)V"⟩, 13) := ⟨⟨by decide +kernel, by decide +kernel⟩, List.mem_of_getElem? (i := 63) (by decide +kernel), List.mem_of_getElem? (i := 472) (by decide +kernel), List.mem_of_getElem? (i := 473) (by decide +kernel)⟩
theorem lw_p15 : lw_okq (⟨"CutOnce$Search", "fits", "(I)Z"⟩, 13) := ⟨⟨by decide +kernel, by decide +kernel⟩, List.mem_of_getElem? (i := 63) (by decide +kernel), List.mem_of_getElem? (i := 481) (by decide +kernel), List.mem_of_getElem? (i := 482) (by decide +kernel)⟩
def lw_privs_1 : List (MethodName × Nat) := [(⟨"CutOnce$Picture", "layEdges", "(II)V"⟩, 4), (⟨"CutOnce", "come", "(I)I"⟩, 7), (⟨"CutOnce", "shapeFrom", "(LCutOnce$Sheet;III)V"⟩, 7), (⟨"CutOnce$Picture", "bulges", "(I)Z"⟩, 4), (⟨"CutOnce$Picture", "differing", "(III)I"⟩, 4), (⟨"CutOnce$Picture", "strangersApart", "(II)I"⟩, 4), (⟨"CutOnce", "countMissing", "(I)I"⟩, 7), (⟨"CutOnce", "isMissing", "(II)Z"⟩, 7), (⟨"CutOnce", "missingPiece", "(II)I"⟩, 7), (⟨"CutOnce$Search", "run", "(Z)V"⟩, 13), (⟨"CutOnce$Search", "readEdges", "(I)V"⟩, 13), (⟨"CutOnce$Search", "codeOf", "(II)I"⟩, 13), (⟨"CutOnce$Search", "mateOf", "(II)I"⟩, 13), (⟨"CutOnce$Search", "fillFrom", "(I)V"⟩, 13), (⟨"CutOnce$Search", "lookAround", "(I)V"⟩, 13), (⟨"CutOnce$Search", "fits", "(I)Z"⟩, 13)]
theorem lw_r1 : ∀ q ∈ lw_privs_1, lw_okq q := List.forall_mem_cons.mpr ⟨lw_p0, List.forall_mem_cons.mpr ⟨lw_p1, List.forall_mem_cons.mpr ⟨lw_p2, List.forall_mem_cons.mpr ⟨lw_p3, List.forall_mem_cons.mpr ⟨lw_p4, List.forall_mem_cons.mpr ⟨lw_p5, List.forall_mem_cons.mpr ⟨lw_p6, List.forall_mem_cons.mpr ⟨lw_p7, List.forall_mem_cons.mpr ⟨lw_p8, List.forall_mem_cons.mpr ⟨lw_p9, List.forall_mem_cons.mpr ⟨lw_p10, List.forall_mem_cons.mpr ⟨lw_p11, List.forall_mem_cons.mpr ⟨lw_p12, List.forall_mem_cons.mpr ⟨lw_p13, List.forall_mem_cons.mpr ⟨lw_p14, List.forall_mem_cons.mpr ⟨lw_p15, fun _ h => absurd h List.not_mem_nil⟩⟩⟩⟩⟩⟩⟩⟩⟩⟩⟩⟩⟩⟩⟩⟩
theorem lw_p16 : lw_okq (⟨"CutOnce$Sheet", "cutToLane", "(I)I"⟩, 4) := ⟨⟨by decide +kernel, by decide +kernel⟩, List.mem_of_getElem? (i := 121) (by decide +kernel), List.mem_of_getElem? (i := 553) (by decide +kernel), List.mem_of_getElem? (i := 554) (by decide +kernel)⟩
theorem lw_p17 : lw_okq (⟨"CutOnce", "comeLost", "(I)J"⟩, 7) := ⟨⟨by decide +kernel, by decide +kernel⟩, List.mem_of_getElem? (i := 11) (by decide +kernel), List.mem_of_getElem? (i := 561) (by decide +kernel), List.mem_of_getElem? (i := 562) (by decide +kernel)⟩
theorem lw_p18 : lw_okq (⟨"CutOnce", "leave", "(I)V"⟩, 7) := ⟨⟨by decide +kernel, by decide +kernel⟩, List.mem_of_getElem? (i := 11) (by decide +kernel), List.mem_of_getElem? (i := 584) (by decide +kernel), List.mem_of_getElem? (i := 585) (by decide +kernel)⟩
theorem lw_p19 : lw_okq (⟨"CutOnce", "sumBody", "(I)I"⟩, 7) := ⟨⟨by decide +kernel, by decide +kernel⟩, List.mem_of_getElem? (i := 11) (by decide +kernel), List.mem_of_getElem? (i := 588) (by decide +kernel), List.mem_of_getElem? (i := 589) (by decide +kernel)⟩
theorem lw_p20 : lw_okq (⟨"CutOnceModel", "changed", "()V"⟩, 23) := ⟨⟨by decide +kernel, by decide +kernel⟩, List.mem_of_getElem? (i := 624) (by decide +kernel), List.mem_of_getElem? (i := 708) (by decide +kernel), List.mem_of_getElem? (i := 709) (by decide +kernel)⟩
theorem lw_p21 : lw_okq (⟨"CutOnceModel", "sides", "()I"⟩, 23) := ⟨⟨by decide +kernel, by decide +kernel⟩, List.mem_of_getElem? (i := 624) (by decide +kernel), List.mem_of_getElem? (i := 712) (by decide +kernel), List.mem_of_getElem? (i := 713) (by decide +kernel)⟩
theorem lw_p22 : lw_okq (⟨"CutOnceModel", "across", "()I"⟩, 23) := ⟨⟨by decide +kernel, by decide +kernel⟩, List.mem_of_getElem? (i := 624) (by decide +kernel), List.mem_of_getElem? (i := 716) (by decide +kernel), List.mem_of_getElem? (i := 717) (by decide +kernel)⟩
theorem lw_p23 : lw_okq (⟨"CutOnceModel", "numberBelow", "(I)I"⟩, 23) := ⟨⟨by decide +kernel, by decide +kernel⟩, List.mem_of_getElem? (i := 624) (by decide +kernel), List.mem_of_getElem? (i := 724) (by decide +kernel), List.mem_of_getElem? (i := 725) (by decide +kernel)⟩
theorem lw_p24 : lw_okq (⟨"CutOnceModel", "noSide", "(I)Z"⟩, 23) := ⟨⟨by decide +kernel, by decide +kernel⟩, List.mem_of_getElem? (i := 624) (by decide +kernel), List.mem_of_getElem? (i := 736) (by decide +kernel), List.mem_of_getElem? (i := 737) (by decide +kernel)⟩
theorem lw_p25 : lw_okq (⟨"CutOnceModel", "noPiece", "(I)Z"⟩, 23) := ⟨⟨by decide +kernel, by decide +kernel⟩, List.mem_of_getElem? (i := 624) (by decide +kernel), List.mem_of_getElem? (i := 755) (by decide +kernel), List.mem_of_getElem? (i := 756) (by decide +kernel)⟩
theorem lw_p26 : lw_okq (⟨"CutOnceModel", "pieces", "()I"⟩, 23) := ⟨⟨by decide +kernel, by decide +kernel⟩, List.mem_of_getElem? (i := 624) (by decide +kernel), List.mem_of_getElem? (i := 759) (by decide +kernel), List.mem_of_getElem? (i := 760) (by decide +kernel)⟩
theorem lw_p27 : lw_okq (⟨"CutOnceModel", "sideAt", "(II)I"⟩, 23) := ⟨⟨by decide +kernel, by decide +kernel⟩, List.mem_of_getElem? (i := 624) (by decide +kernel), List.mem_of_getElem? (i := 764) (by decide +kernel), List.mem_of_getElem? (i := 765) (by decide +kernel)⟩
theorem lw_p28 : lw_okq (⟨"CutOnceModel", "heightAt", "(III)I"⟩, 23) := ⟨⟨by decide +kernel, by decide +kernel⟩, List.mem_of_getElem? (i := 624) (by decide +kernel), List.mem_of_getElem? (i := 772) (by decide +kernel), List.mem_of_getElem? (i := 773) (by decide +kernel)⟩
theorem lw_p29 : lw_okq (⟨"CutOnceModel", "farOf", "(IIII)I"⟩, 23) := ⟨⟨by decide +kernel, by decide +kernel⟩, List.mem_of_getElem? (i := 624) (by decide +kernel), List.mem_of_getElem? (i := 780) (by decide +kernel), List.mem_of_getElem? (i := 781) (by decide +kernel)⟩
theorem lw_p30 : lw_okq (⟨"CutOnceModel", "kindOf", "(I)I"⟩, 23) := ⟨⟨by decide +kernel, by decide +kernel⟩, List.mem_of_getElem? (i := 624) (by decide +kernel), List.mem_of_getElem? (i := 791) (by decide +kernel), List.mem_of_getElem? (i := 792) (by decide +kernel)⟩
theorem lw_p31 : lw_okq (⟨"CutOnceModel", "isBulge", "(I)Z"⟩, 23) := ⟨⟨by decide +kernel, by decide +kernel⟩, List.mem_of_getElem? (i := 624) (by decide +kernel), List.mem_of_getElem? (i := 795) (by decide +kernel), List.mem_of_getElem? (i := 796) (by decide +kernel)⟩
def lw_privs_2 : List (MethodName × Nat) := [(⟨"CutOnce$Sheet", "cutToLane", "(I)I"⟩, 4), (⟨"CutOnce", "comeLost", "(I)J"⟩, 7), (⟨"CutOnce", "leave", "(I)V"⟩, 7), (⟨"CutOnce", "sumBody", "(I)I"⟩, 7), (⟨"CutOnceModel", "changed", "()V"⟩, 23), (⟨"CutOnceModel", "sides", "()I"⟩, 23), (⟨"CutOnceModel", "across", "()I"⟩, 23), (⟨"CutOnceModel", "numberBelow", "(I)I"⟩, 23), (⟨"CutOnceModel", "noSide", "(I)Z"⟩, 23), (⟨"CutOnceModel", "noPiece", "(I)Z"⟩, 23), (⟨"CutOnceModel", "pieces", "()I"⟩, 23), (⟨"CutOnceModel", "sideAt", "(II)I"⟩, 23), (⟨"CutOnceModel", "heightAt", "(III)I"⟩, 23), (⟨"CutOnceModel", "farOf", "(IIII)I"⟩, 23), (⟨"CutOnceModel", "kindOf", "(I)I"⟩, 23), (⟨"CutOnceModel", "isBulge", "(I)Z"⟩, 23)]
theorem lw_r2 : ∀ q ∈ lw_privs_2, lw_okq q := List.forall_mem_cons.mpr ⟨lw_p16, List.forall_mem_cons.mpr ⟨lw_p17, List.forall_mem_cons.mpr ⟨lw_p18, List.forall_mem_cons.mpr ⟨lw_p19, List.forall_mem_cons.mpr ⟨lw_p20, List.forall_mem_cons.mpr ⟨lw_p21, List.forall_mem_cons.mpr ⟨lw_p22, List.forall_mem_cons.mpr ⟨lw_p23, List.forall_mem_cons.mpr ⟨lw_p24, List.forall_mem_cons.mpr ⟨lw_p25, List.forall_mem_cons.mpr ⟨lw_p26, List.forall_mem_cons.mpr ⟨lw_p27, List.forall_mem_cons.mpr ⟨lw_p28, List.forall_mem_cons.mpr ⟨lw_p29, List.forall_mem_cons.mpr ⟨lw_p30, List.forall_mem_cons.mpr ⟨lw_p31, fun _ h => absurd h List.not_mem_nil⟩⟩⟩⟩⟩⟩⟩⟩⟩⟩⟩⟩⟩⟩⟩⟩
theorem lw_p32 : lw_okq (⟨"CutOnceModel", "isLike", "(II)Z"⟩, 23) := ⟨⟨by decide +kernel, by decide +kernel⟩, List.mem_of_getElem? (i := 624) (by decide +kernel), List.mem_of_getElem? (i := 799) (by decide +kernel), List.mem_of_getElem? (i := 800) (by decide +kernel)⟩
theorem lw_p33 : lw_okq (⟨"CutOnceModel", "goThrough", "(I)V"⟩, 23) := ⟨⟨by decide +kernel, by decide +kernel⟩, List.mem_of_getElem? (i := 624) (by decide +kernel), List.mem_of_getElem? (i := 807) (by decide +kernel), List.mem_of_getElem? (i := 808) (by decide +kernel)⟩
theorem lw_p34 : lw_okq (⟨"CutOnceModel", "noPlace", "(I)Z"⟩, 23) := ⟨⟨by decide +kernel, by decide +kernel⟩, List.mem_of_getElem? (i := 624) (by decide +kernel), List.mem_of_getElem? (i := 831) (by decide +kernel), List.mem_of_getElem? (i := 832) (by decide +kernel)⟩
theorem lw_p35 : lw_okq (⟨"CutOnceModel", "isMissing", "(II)Z"⟩, 23) := ⟨⟨by decide +kernel, by decide +kernel⟩, List.mem_of_getElem? (i := 624) (by decide +kernel), List.mem_of_getElem? (i := 843) (by decide +kernel), List.mem_of_getElem? (i := 844) (by decide +kernel)⟩
theorem lw_p36 : lw_okq (⟨"CutOnceModel", "timesIn", "(I)I"⟩, 23) := ⟨⟨by decide +kernel, by decide +kernel⟩, List.mem_of_getElem? (i := 624) (by decide +kernel), List.mem_of_getElem? (i := 847) (by decide +kernel), List.mem_of_getElem? (i := 848) (by decide +kernel)⟩
theorem lw_p37 : lw_okq (⟨"CutOnceModel", "search", "(I)Z"⟩, 23) := ⟨⟨by decide +kernel, by decide +kernel⟩, List.mem_of_getElem? (i := 624) (by decide +kernel), List.mem_of_getElem? (i := 860) (by decide +kernel), List.mem_of_getElem? (i := 861) (by decide +kernel)⟩
theorem lw_p38 : lw_okq (⟨"CutOnceModel", "fits", "(I)Z"⟩, 23) := ⟨⟨by decide +kernel, by decide +kernel⟩, List.mem_of_getElem? (i := 624) (by decide +kernel), List.mem_of_getElem? (i := 865) (by decide +kernel), List.mem_of_getElem? (i := 866) (by decide +kernel)⟩
theorem lw_p39 : lw_okq (⟨"CutOnceModel", "isFlat", "(II)Z"⟩, 23) := ⟨⟨by decide +kernel, by decide +kernel⟩, List.mem_of_getElem? (i := 624) (by decide +kernel), List.mem_of_getElem? (i := 869) (by decide +kernel), List.mem_of_getElem? (i := 870) (by decide +kernel)⟩
theorem lw_p40 : lw_okq (⟨"CutOnceModel", "edgeOn", "(II)I"⟩, 23) := ⟨⟨by decide +kernel, by decide +kernel⟩, List.mem_of_getElem? (i := 624) (by decide +kernel), List.mem_of_getElem? (i := 873) (by decide +kernel), List.mem_of_getElem? (i := 874) (by decide +kernel)⟩
theorem lw_p41 : lw_okq (⟨"CutOnceModel", "meets", "(IIII)Z"⟩, 23) := ⟨⟨by decide +kernel, by decide +kernel⟩, List.mem_of_getElem? (i := 624) (by decide +kernel), List.mem_of_getElem? (i := 877) (by decide +kernel), List.mem_of_getElem? (i := 878) (by decide +kernel)⟩
theorem lw_p42 : lw_okq (⟨"CutOnceModel", "neighbour", "(II)I"⟩, 23) := ⟨⟨by decide +kernel, by decide +kernel⟩, List.mem_of_getElem? (i := 624) (by decide +kernel), List.mem_of_getElem? (i := 897) (by decide +kernel), List.mem_of_getElem? (i := 898) (by decide +kernel)⟩
theorem lw_p43 : lw_okq (⟨"CutOnceModel", "refused", "(I)I"⟩, 23) := ⟨⟨by decide +kernel, by decide +kernel⟩, List.mem_of_getElem? (i := 624) (by decide +kernel), List.mem_of_getElem? (i := 908) (by decide +kernel), List.mem_of_getElem? (i := 909) (by decide +kernel)⟩
theorem lw_p44 : lw_okq (⟨"CutOnceModel", "failed", "(I)I"⟩, 23) := ⟨⟨by decide +kernel, by decide +kernel⟩, List.mem_of_getElem? (i := 624) (by decide +kernel), List.mem_of_getElem? (i := 913) (by decide +kernel), List.mem_of_getElem? (i := 914) (by decide +kernel)⟩
theorem lw_p45 : lw_okq (⟨"CutOnceModel", "noCell", "(II)I"⟩, 23) := ⟨⟨by decide +kernel, by decide +kernel⟩, List.mem_of_getElem? (i := 624) (by decide +kernel), List.mem_of_getElem? (i := 925) (by decide +kernel), List.mem_of_getElem? (i := 926) (by decide +kernel)⟩
theorem lw_p46 : lw_okq (⟨"CutOnceModel", "failedLong", "(I)J"⟩, 23) := ⟨⟨by decide +kernel, by decide +kernel⟩, List.mem_of_getElem? (i := 624) (by decide +kernel), List.mem_of_getElem? (i := 933) (by decide +kernel), List.mem_of_getElem? (i := 934) (by decide +kernel)⟩
theorem lw_p47 : lw_okq (⟨"CutOnceModel", "traced", "(I)V"⟩, 23) := ⟨⟨by decide +kernel, by decide +kernel⟩, List.mem_of_getElem? (i := 624) (by decide +kernel), List.mem_of_getElem? (i := 952) (by decide +kernel), List.mem_of_getElem? (i := 953) (by decide +kernel)⟩
def lw_privs_3 : List (MethodName × Nat) := [(⟨"CutOnceModel", "isLike", "(II)Z"⟩, 23), (⟨"CutOnceModel", "goThrough", "(I)V"⟩, 23), (⟨"CutOnceModel", "noPlace", "(I)Z"⟩, 23), (⟨"CutOnceModel", "isMissing", "(II)Z"⟩, 23), (⟨"CutOnceModel", "timesIn", "(I)I"⟩, 23), (⟨"CutOnceModel", "search", "(I)Z"⟩, 23), (⟨"CutOnceModel", "fits", "(I)Z"⟩, 23), (⟨"CutOnceModel", "isFlat", "(II)Z"⟩, 23), (⟨"CutOnceModel", "edgeOn", "(II)I"⟩, 23), (⟨"CutOnceModel", "meets", "(IIII)Z"⟩, 23), (⟨"CutOnceModel", "neighbour", "(II)I"⟩, 23), (⟨"CutOnceModel", "refused", "(I)I"⟩, 23), (⟨"CutOnceModel", "failed", "(I)I"⟩, 23), (⟨"CutOnceModel", "noCell", "(II)I"⟩, 23), (⟨"CutOnceModel", "failedLong", "(I)J"⟩, 23), (⟨"CutOnceModel", "traced", "(I)V"⟩, 23)]
theorem lw_r3 : ∀ q ∈ lw_privs_3, lw_okq q := List.forall_mem_cons.mpr ⟨lw_p32, List.forall_mem_cons.mpr ⟨lw_p33, List.forall_mem_cons.mpr ⟨lw_p34, List.forall_mem_cons.mpr ⟨lw_p35, List.forall_mem_cons.mpr ⟨lw_p36, List.forall_mem_cons.mpr ⟨lw_p37, List.forall_mem_cons.mpr ⟨lw_p38, List.forall_mem_cons.mpr ⟨lw_p39, List.forall_mem_cons.mpr ⟨lw_p40, List.forall_mem_cons.mpr ⟨lw_p41, List.forall_mem_cons.mpr ⟨lw_p42, List.forall_mem_cons.mpr ⟨lw_p43, List.forall_mem_cons.mpr ⟨lw_p44, List.forall_mem_cons.mpr ⟨lw_p45, List.forall_mem_cons.mpr ⟨lw_p46, List.forall_mem_cons.mpr ⟨lw_p47, fun _ h => absurd h List.not_mem_nil⟩⟩⟩⟩⟩⟩⟩⟩⟩⟩⟩⟩⟩⟩⟩⟩
def lw_privs : List (MethodName × Nat) := lw_privs_1 ++ (lw_privs_2 ++ (lw_privs_3))
def lw_tbl : List Cond := k2_sels lw_privs ++ tables_1
theorem lw_privs_ok : ∀ q ∈ lw_privs, lw_okq q := by
  show ∀ q ∈ lw_privs_1 ++ (lw_privs_2 ++ (lw_privs_3)), lw_okq q
  exact List.forall_mem_append.mpr ⟨lw_r1, List.forall_mem_append.mpr ⟨lw_r2, lw_r3⟩⟩
-- ===== end of PART A; then your names; then what follows =====
end
section
/-! ===== BEGIN words of one list among another's, by their places ===== -/
theorem goodIn_r {big : List Cond} (ws : List Cond) (ps : List Nat) (hp : ws = ps.filterMap (fun i => big[i]?)) (h : ws.all goodWord = true) : GoodIn big ws := by
  intro w hw
  have h1 := List.all_eq_true.mp h w hw
  rw [hp] at hw
  obtain ⟨i, -, hi⟩ := List.mem_filterMap.mp hw
  have hm : w ∈ big := by first | exact List.mem_of_getElem? hi | exact List.getElem?_mem hi
  exact ⟨hm, good_of_word h1⟩
theorem goodIn_app {big a b : List Cond} (ha : GoodIn big a) (hb : GoodIn big b) : GoodIn big (a ++ b) := fun w h => (List.mem_append.mp h).elim (ha w) (hb w)
theorem goodIn_ca {big a b : List Cond} {c : Cond} (ha : GoodIn big (c :: a)) (hb : GoodIn big b) : GoodIn big (c :: (a ++ b)) := fun w h => (List.mem_cons.mp h).elim (fun e => ha w (List.mem_cons.mpr (Or.inl e))) (fun h => (List.mem_append.mp h).elim (fun h => ha w (List.mem_cons.mpr (Or.inr h))) (hb w))
theorem goodIn_sub {big ws : List Cond} (hm : ∀ w ∈ ws, w ∈ big) (h : ws.all goodWord = true) : GoodIn big ws := fun w hw => ⟨hm w hw, good_of_word (List.all_eq_true.mp h w hw)⟩
/-! ===== END ===== -/

/-! ===== BEGIN printed: names, fields, word lists, decode rows ===== -/
def RX0 : String := "CutOnce$Draw"
def TX0 : u_T := fun k => match k with
  | _ => ("CutOnce$Draw", "now", "J", false)
def tyX0 : Nat → FieldType := fun k => match k with
  | _ => .long
abbrev wsX00 : List Cond := u_ws RX0 TX0 1
theorem nmX0 : ∀ a, a < 1 → ∀ b, b < 1 → a ≠ b → (TX0 a).2.1 ≠ (TX0 b).2.1 := by decide +kernel
theorem tyX0_ok : ∀ k, k < 1 → parseFieldDescriptor (TX0 k).2.2.1 = some (tyX0 k) := by decide +kernel
abbrev cX0_init : ByteArray := prog_2_method_1_code
def yX0_init : MethodName := ⟨RX0, "<init>", "()V"⟩
abbrev cX0_begin : ByteArray := prog_2_method_2_code
def yX0_begin : MethodName := ⟨RX0, "begin", "(J)V"⟩
abbrev cX0_below : ByteArray := prog_2_method_3_code
def yX0_below : MethodName := ⟨RX0, "below", "(I)I"⟩
def RX1 : String := "CutOnce$Picture"
def TX1 : u_T := fun k => match k with
  | 0 => ("CutOnce$Picture", "heights", "[I", true)
  | 1 => ("CutOnce$Picture", "sideOfEdge", "[I", true)
  | 2 => ("CutOnce$Picture", "w", "I", false)
  | _ => ("CutOnce$Picture", "h", "I", false)
def tyX1 : Nat → FieldType := fun k => match k with
  | 0 => .array .int
  | 1 => .array .int
  | 2 => .int
  | _ => .int
abbrev wsX10 : List Cond := u_ws RX1 TX1 4
theorem nmX1 : ∀ a, a < 4 → ∀ b, b < 4 → a ≠ b → (TX1 a).2.1 ≠ (TX1 b).2.1 := by decide +kernel
theorem tyX1_ok : ∀ k, k < 4 → parseFieldDescriptor (TX1 k).2.2.1 = some (tyX1 k) := by decide +kernel
abbrev cX1_init : ByteArray := prog_3_method_1_code
def yX1_init : MethodName := ⟨RX1, "<init>", "()V"⟩
abbrev cX1_cutAnew : ByteArray := prog_3_method_2_code
def yX1_cutAnew : MethodName := ⟨RX1, "cutAnew", "(II)V"⟩
abbrev cX1_layEdges : ByteArray := prog_3_method_3_code
def yX1_layEdges : MethodName := ⟨RX1, "layEdges", "(II)V"⟩
abbrev cX1_width : ByteArray := prog_3_method_4_code
def yX1_width : MethodName := ⟨RX1, "width", "()I"⟩
abbrev cX1_depth : ByteArray := prog_3_method_5_code
def yX1_depth : MethodName := ⟨RX1, "depth", "()I"⟩
abbrev cX1_pieces : ByteArray := prog_3_method_6_code
def yX1_pieces : MethodName := ⟨RX1, "pieces", "()I"⟩
abbrev cX1_sides : ByteArray := prog_3_method_7_code
def yX1_sides : MethodName := ⟨RX1, "sides", "()I"⟩
abbrev cX1_hasSide : ByteArray := prog_3_method_8_code
def yX1_hasSide : MethodName := ⟨RX1, "hasSide", "(I)Z"⟩
abbrev cX1_hasPiece : ByteArray := prog_3_method_9_code
def yX1_hasPiece : MethodName := ⟨RX1, "hasPiece", "(I)Z"⟩
abbrev cX1_hasEdge : ByteArray := prog_3_method_10_code
def yX1_hasEdge : MethodName := ⟨RX1, "hasEdge", "(II)Z"⟩
abbrev cX1_sideAt : ByteArray := prog_3_method_11_code
def yX1_sideAt : MethodName := ⟨RX1, "sideAt", "(II)I"⟩
abbrev cX1_isFlat : ByteArray := prog_3_method_12_code
def yX1_isFlat : MethodName := ⟨RX1, "isFlat", "(II)Z"⟩
abbrev cX1_nextTo : ByteArray := prog_3_method_13_code
def yX1_nextTo : MethodName := ⟨RX1, "nextTo", "(II)I"⟩
abbrev cX1_setHeight : ByteArray := prog_3_method_14_code
def yX1_setHeight : MethodName := ⟨RX1, "setHeight", "(III)V"⟩
abbrev cX1_heightAt : ByteArray := prog_3_method_15_code
def yX1_heightAt : MethodName := ⟨RX1, "heightAt", "(III)I"⟩
abbrev cX1_edgeHeight : ByteArray := prog_3_method_16_code
def yX1_edgeHeight : MethodName := ⟨RX1, "edgeHeight", "(III)I"⟩
abbrev cX1_farness : ByteArray := prog_3_method_17_code
def yX1_farness : MethodName := ⟨RX1, "farness", "(IIII)I"⟩
abbrev cX1_sumOf : ByteArray := prog_3_method_18_code
def yX1_sumOf : MethodName := ⟨RX1, "sumOf", "(I)I"⟩
abbrev cX1_kindAt : ByteArray := prog_3_method_19_code
def yX1_kindAt : MethodName := ⟨RX1, "kindAt", "(I)I"⟩
abbrev cX1_bulges : ByteArray := prog_3_method_20_code
def yX1_bulges : MethodName := ⟨RX1, "bulges", "(I)Z"⟩
abbrev cX1_differing : ByteArray := prog_3_method_21_code
def yX1_differing : MethodName := ⟨RX1, "differing", "(III)I"⟩
abbrev cX1_giveShape : ByteArray := prog_3_method_22_code
def yX1_giveShape : MethodName := ⟨RX1, "giveShape", "(III)I"⟩
abbrev cX1_leastFar : ByteArray := prog_3_method_23_code
def yX1_leastFar : MethodName := ⟨RX1, "leastFar", "()I"⟩
abbrev cX1_pairsWithin : ByteArray := prog_3_method_24_code
def yX1_pairsWithin : MethodName := ⟨RX1, "pairsWithin", "(I)I"⟩
abbrev cX1_strangersApart : ByteArray := prog_3_method_25_code
def yX1_strangersApart : MethodName := ⟨RX1, "strangersApart", "(II)I"⟩
def RX2 : String := "CutOnce$Pile"
def TX2 : u_T := fun k => match k with
  | 0 => ("CutOnce$Pile", "pieceOf", "[I", true)
  | 1 => ("CutOnce$Pile", "turnOf", "[I", true)
  | _ => ("CutOnce$Pile", "count", "I", false)
def tyX2 : Nat → FieldType := fun k => match k with
  | 0 => .array .int
  | 1 => .array .int
  | _ => .int
abbrev wsX20 : List Cond := u_ws RX2 TX2 3
theorem nmX2 : ∀ a, a < 3 → ∀ b, b < 3 → a ≠ b → (TX2 a).2.1 ≠ (TX2 b).2.1 := by decide +kernel
theorem tyX2_ok : ∀ k, k < 3 → parseFieldDescriptor (TX2 k).2.2.1 = some (tyX2 k) := by decide +kernel
abbrev cX2_init : ByteArray := prog_4_method_1_code
def yX2_init : MethodName := ⟨RX2, "<init>", "()V"⟩
abbrev cX2_size : ByteArray := prog_4_method_2_code
def yX2_size : MethodName := ⟨RX2, "size", "()I"⟩
abbrev cX2_isFull : ByteArray := prog_4_method_3_code
def yX2_isFull : MethodName := ⟨RX2, "isFull", "()Z"⟩
abbrev cX2_hasPlace : ByteArray := prog_4_method_4_code
def yX2_hasPlace : MethodName := ⟨RX2, "hasPlace", "(I)Z"⟩
abbrev cX2_pieceAt : ByteArray := prog_4_method_5_code
def yX2_pieceAt : MethodName := ⟨RX2, "pieceAt", "(I)I"⟩
abbrev cX2_turnAt : ByteArray := prog_4_method_6_code
def yX2_turnAt : MethodName := ⟨RX2, "turnAt", "(I)I"⟩
abbrev cX2_clearAll : ByteArray := prog_4_method_7_code
def yX2_clearAll : MethodName := ⟨RX2, "clearAll", "()V"⟩
abbrev cX2_append : ByteArray := prog_4_method_8_code
def yX2_append : MethodName := ⟨RX2, "append", "(II)V"⟩
abbrev cX2_setTurn : ByteArray := prog_4_method_9_code
def yX2_setTurn : MethodName := ⟨RX2, "setTurn", "(II)V"⟩
abbrev cX2_swapPieces : ByteArray := prog_4_method_10_code
def yX2_swapPieces : MethodName := ⟨RX2, "swapPieces", "(II)V"⟩
abbrev cX2_removeAt : ByteArray := prog_4_method_11_code
def yX2_removeAt : MethodName := ⟨RX2, "removeAt", "(I)V"⟩
abbrev cX2_timesOf : ByteArray := prog_4_method_12_code
def yX2_timesOf : MethodName := ⟨RX2, "timesOf", "(I)I"⟩
def RX3 : String := "CutOnce$Search"
def TX3 : u_T := fun k => match k with
  | 0 => ("CutOnce$Search", "goal", "LCutOnce$Picture;", true)
  | 1 => ("CutOnce$Search", "pile", "LCutOnce$Pile;", true)
  | 2 => ("CutOnce$Search", "shown", "[I", true)
  | 3 => ("CutOnce$Search", "fitting", "[I", true)
  | 4 => ("CutOnce$Search", "wanted", "[I", true)
  | 5 => ("CutOnce$Search", "used", "[Z", true)
  | 6 => ("CutOnce$Search", "lying", "[I", true)
  | 7 => ("CutOnce$Search", "joinedLying", "[I", true)
  | 8 => ("CutOnce$Search", "joinedOnce", "Z", false)
  | 9 => ("CutOnce$Search", "firstOnly", "Z", false)
  | 10 => ("CutOnce$Search", "spent", "Z", false)
  | 11 => ("CutOnce$Search", "found", "I", false)
  | _ => ("CutOnce$Search", "trialCount", "I", false)
def tyX3 : Nat → FieldType := fun k => match k with
  | 0 => .object "CutOnce$Picture"
  | 1 => .object "CutOnce$Pile"
  | 2 => .array .int
  | 3 => .array .int
  | 4 => .array .int
  | 5 => .array .boolean
  | 6 => .array .int
  | 7 => .array .int
  | 8 => .boolean
  | 9 => .boolean
  | 10 => .boolean
  | 11 => .int
  | _ => .int
abbrev wsX30 : List Cond := u_ws RX3 TX3 13
theorem nmX3 : ∀ a, a < 13 → ∀ b, b < 13 → a ≠ b → (TX3 a).2.1 ≠ (TX3 b).2.1 := by decide +kernel
theorem tyX3_ok : ∀ k, k < 13 → parseFieldDescriptor (TX3 k).2.2.1 = some (tyX3 k) := by decide +kernel
abbrev cX3_init : ByteArray := prog_5_method_1_code
def yX3_init : MethodName := ⟨RX3, "<init>", "(LCutOnce$Picture;LCutOnce$Pile;)V"⟩
abbrev cX3_trialsCounted : ByteArray := prog_5_method_2_code
def yX3_trialsCounted : MethodName := ⟨RX3, "trialsCounted", "()I"⟩
abbrev cX3_hasJoined : ByteArray := prog_5_method_3_code
def yX3_hasJoined : MethodName := ⟨RX3, "hasJoined", "()Z"⟩
abbrev cX3_forgetJoined : ByteArray := prog_5_method_4_code
def yX3_forgetJoined : MethodName := ⟨RX3, "forgetJoined", "()V"⟩
abbrev cX3_joinedFrom : ByteArray := prog_5_method_5_code
def yX3_joinedFrom : MethodName := ⟨RX3, "joinedFrom", "(I)I"⟩
abbrev cX3_joinedTurn : ByteArray := prog_5_method_6_code
def yX3_joinedTurn : MethodName := ⟨RX3, "joinedTurn", "(I)I"⟩
abbrev cX3_countWays : ByteArray := prog_5_method_7_code
def yX3_countWays : MethodName := ⟨RX3, "countWays", "()I"⟩
abbrev cX3_findFirst : ByteArray := prog_5_method_8_code
def yX3_findFirst : MethodName := ⟨RX3, "findFirst", "()I"⟩
abbrev cX3_run : ByteArray := prog_5_method_9_code
def yX3_run : MethodName := ⟨RX3, "run", "(Z)V"⟩
abbrev cX3_readEdges : ByteArray := prog_5_method_10_code
def yX3_readEdges : MethodName := ⟨RX3, "readEdges", "(I)V"⟩
abbrev cX3_codeOf : ByteArray := prog_5_method_11_code
def yX3_codeOf : MethodName := ⟨RX3, "codeOf", "(II)I"⟩
abbrev cX3_mateOf : ByteArray := prog_5_method_12_code
def yX3_mateOf : MethodName := ⟨RX3, "mateOf", "(II)I"⟩
abbrev cX3_fillFrom : ByteArray := prog_5_method_13_code
def yX3_fillFrom : MethodName := ⟨RX3, "fillFrom", "(I)V"⟩
abbrev cX3_lookAround : ByteArray := prog_5_method_14_code
def yX3_lookAround : MethodName := ⟨RX3, "lookAround", "(I)V"⟩
abbrev cX3_fits : ByteArray := prog_5_method_15_code
def yX3_fits : MethodName := ⟨RX3, "fits", "(I)Z"⟩
def RX4 : String := "CutOnce$Sheet"
def TX4 : u_T := fun k => match k with
  | 0 => ("CutOnce$Sheet", "cells", "[I", true)
  | 1 => ("CutOnce$Sheet", "there", "Z", false)
  | 2 => ("CutOnce$Sheet", "lane", "I", false)
  | _ => ("CutOnce$Sheet", "length", "I", false)
def tyX4 : Nat → FieldType := fun k => match k with
  | 0 => .array .int
  | 1 => .boolean
  | 2 => .int
  | _ => .int
abbrev wsX40 : List Cond := u_ws RX4 TX4 4
theorem nmX4 : ∀ a, a < 4 → ∀ b, b < 4 → a ≠ b → (TX4 a).2.1 ≠ (TX4 b).2.1 := by decide +kernel
theorem tyX4_ok : ∀ k, k < 4 → parseFieldDescriptor (TX4 k).2.2.1 = some (tyX4 k) := by decide +kernel
abbrev cX4_init : ByteArray := prog_6_method_1_code
def yX4_init : MethodName := ⟨RX4, "<init>", "()V"⟩
abbrev cX4_isThere : ByteArray := prog_6_method_2_code
def yX4_isThere : MethodName := ⟨RX4, "isThere", "()Z"⟩
abbrev cX4_laneHeld : ByteArray := prog_6_method_3_code
def yX4_laneHeld : MethodName := ⟨RX4, "laneHeld", "()I"⟩
abbrev cX4_isOfOther : ByteArray := prog_6_method_4_code
def yX4_isOfOther : MethodName := ⟨RX4, "isOfOther", "(I)Z"⟩
abbrev cX4_renew : ByteArray := prog_6_method_5_code
def yX4_renew : MethodName := ⟨RX4, "renew", "(II)V"⟩
abbrev cX4_drop : ByteArray := prog_6_method_6_code
def yX4_drop : MethodName := ⟨RX4, "drop", "()V"⟩
abbrev cX4_holds : ByteArray := prog_6_method_7_code
def yX4_holds : MethodName := ⟨RX4, "holds", "(IJ)Z"⟩
abbrev cX4_read : ByteArray := prog_6_method_8_code
def yX4_read : MethodName := ⟨RX4, "read", "(I)I"⟩
abbrev cX4_write : ByteArray := prog_6_method_9_code
def yX4_write : MethodName := ⟨RX4, "write", "(II)V"⟩
abbrev cX4_cutToLane : ByteArray := prog_6_method_10_code
def yX4_cutToLane : MethodName := ⟨RX4, "cutToLane", "(I)I"⟩
abbrev cX4_writeFrom : ByteArray := prog_6_method_11_code
def yX4_writeFrom : MethodName := ⟨RX4, "writeFrom", "(LCutOnce$Sheet;III)V"⟩
def RX5 : String := "CutOnce"
def TX5 : u_T := fun k => match k with
  | 0 => ("CutOnce", "thePicture", "LCutOnce$Picture;", true)
  | 1 => ("CutOnce", "thePile", "LCutOnce$Pile;", true)
  | 2 => ("CutOnce", "theSearch", "LCutOnce$Search;", true)
  | 3 => ("CutOnce", "theDraw", "LCutOnce$Draw;", true)
  | 4 => ("CutOnce", "sheets", "[LCutOnce$Sheet;", true)
  | 5 => ("CutOnce", "traceLeft", "I", false)
  | _ => ("CutOnce", "latestFault", "I", false)
def tyX5 : Nat → FieldType := fun k => match k with
  | 0 => .object "CutOnce$Picture"
  | 1 => .object "CutOnce$Pile"
  | 2 => .object "CutOnce$Search"
  | 3 => .object "CutOnce$Draw"
  | 4 => .array (.object "CutOnce$Sheet")
  | 5 => .int
  | _ => .int
abbrev wsX50 : List Cond := u_ws RX5 TX5 7
theorem nmX5 : ∀ a, a < 7 → ∀ b, b < 7 → a ≠ b → (TX5 a).2.1 ≠ (TX5 b).2.1 := by decide +kernel
theorem tyX5_ok : ∀ k, k < 7 → parseFieldDescriptor (TX5 k).2.2.1 = some (tyX5 k) := by decide +kernel
abbrev cX5_init : ByteArray := prog_1_method_1_code
def yX5_init : MethodName := ⟨RX5, "<init>", "()V"⟩
abbrev cX5_picture : ByteArray := prog_1_method_2_code
def yX5_picture : MethodName := ⟨RX5, "picture", "(II)I"⟩
abbrev cX5_make : ByteArray := prog_1_method_3_code
def yX5_make : MethodName := ⟨RX5, "make", "(J)I"⟩
abbrev cX5_bend : ByteArray := prog_1_method_4_code
def yX5_bend : MethodName := ⟨RX5, "bend", "(III)J"⟩
abbrev cX5_height : ByteArray := prog_1_method_5_code
def yX5_height : MethodName := ⟨RX5, "height", "(II)J"⟩
abbrev cX5_shape : ByteArray := prog_1_method_6_code
def yX5_shape : MethodName := ⟨RX5, "shape", "(IIIII)I"⟩
abbrev cX5_sideOf : ByteArray := prog_1_method_7_code
def yX5_sideOf : MethodName := ⟨RX5, "sideOf", "(II)I"⟩
abbrev cX5_edge : ByteArray := prog_1_method_8_code
def yX5_edge : MethodName := ⟨RX5, "edge", "(III)J"⟩
abbrev cX5_far : ByteArray := prog_1_method_9_code
def yX5_far : MethodName := ⟨RX5, "far", "(IIII)I"⟩
abbrev cX5_kind : ByteArray := prog_1_method_10_code
def yX5_kind : MethodName := ⟨RX5, "kind", "(I)I"⟩
abbrev cX5_unlike : ByteArray := prog_1_method_11_code
def yX5_unlike : MethodName := ⟨RX5, "unlike", "()I"⟩
abbrev cX5_traps : ByteArray := prog_1_method_12_code
def yX5_traps : MethodName := ⟨RX5, "traps", "(I)I"⟩
abbrev cX5_alike : ByteArray := prog_1_method_13_code
def yX5_alike : MethodName := ⟨RX5, "alike", "(III)I"⟩
abbrev cX5_lay : ByteArray := prog_1_method_14_code
def yX5_lay : MethodName := ⟨RX5, "lay", "(II)I"⟩
abbrev cX5_heap : ByteArray := prog_1_method_15_code
def yX5_heap : MethodName := ⟨RX5, "heap", "(J)I"⟩
abbrev cX5_take : ByteArray := prog_1_method_16_code
def yX5_take : MethodName := ⟨RX5, "take", "(I)I"⟩
abbrev cX5_heaped : ByteArray := prog_1_method_17_code
def yX5_heaped : MethodName := ⟨RX5, "heaped", "(II)I"⟩
abbrev cX5_missing : ByteArray := prog_1_method_18_code
def yX5_missing : MethodName := ⟨RX5, "missing", "(I)I"⟩
abbrev cX5_missed : ByteArray := prog_1_method_19_code
def yX5_missed : MethodName := ⟨RX5, "missed", "(II)I"⟩
abbrev cX5_ways : ByteArray := prog_1_method_20_code
def yX5_ways : MethodName := ⟨RX5, "ways", "()I"⟩
abbrev cX5_join : ByteArray := prog_1_method_21_code
def yX5_join : MethodName := ⟨RX5, "join", "()I"⟩
abbrev cX5_joined : ByteArray := prog_1_method_22_code
def yX5_joined : MethodName := ⟨RX5, "joined", "(II)I"⟩
abbrev cX5_trials : ByteArray := prog_1_method_23_code
def yX5_trials : MethodName := ⟨RX5, "trials", "()I"⟩
abbrev cX5_known : ByteArray := prog_1_method_24_code
def yX5_known : MethodName := ⟨RX5, "known", "(I)I"⟩
abbrev cX5_sheet : ByteArray := prog_1_method_25_code
def yX5_sheet : MethodName := ⟨RX5, "sheet", "(III)I"⟩
abbrev cX5_lose : ByteArray := prog_1_method_26_code
def yX5_lose : MethodName := ⟨RX5, "lose", "(I)I"⟩
abbrev cX5_put : ByteArray := prog_1_method_27_code
def yX5_put : MethodName := ⟨RX5, "put", "(III)I"⟩
abbrev cX5_cell : ByteArray := prog_1_method_28_code
def yX5_cell : MethodName := ⟨RX5, "cell", "(III)J"⟩
abbrev cX5_copy : ByteArray := prog_1_method_29_code
def yX5_copy : MethodName := ⟨RX5, "copy", "(IIIII)I"⟩
abbrev cX5_tell : ByteArray := prog_1_method_30_code
def yX5_tell : MethodName := ⟨RX5, "tell", "(I)I"⟩
abbrev cX5_mark : ByteArray := prog_1_method_31_code
def yX5_mark : MethodName := ⟨RX5, "mark", "(I)I"⟩
abbrev cX5_as : ByteArray := prog_1_method_32_code
def yX5_as : MethodName := ⟨RX5, "as", "(II)I"⟩
abbrev cX5_trace : ByteArray := prog_1_method_33_code
def yX5_trace : MethodName := ⟨RX5, "trace", "()I"⟩
abbrev cX5_fault : ByteArray := prog_1_method_34_code
def yX5_fault : MethodName := ⟨RX5, "fault", "()I"⟩
abbrev cX5_told : ByteArray := prog_1_method_35_code
def yX5_told : MethodName := ⟨RX5, "told", "(I)I"⟩
abbrev cX5_isHeightPlace : ByteArray := prog_1_method_36_code
def yX5_isHeightPlace : MethodName := ⟨RX5, "isHeightPlace", "(I)Z"⟩
abbrev cX5_isHeight : ByteArray := prog_1_method_37_code
def yX5_isHeight : MethodName := ⟨RX5, "isHeight", "(I)Z"⟩
abbrev cX5_isSheet : ByteArray := prog_1_method_38_code
def yX5_isSheet : MethodName := ⟨RX5, "isSheet", "(I)Z"⟩
abbrev cX5_isLane : ByteArray := prog_1_method_39_code
def yX5_isLane : MethodName := ⟨RX5, "isLane", "(I)Z"⟩
abbrev cX5_isMissingWhat : ByteArray := prog_1_method_40_code
def yX5_isMissingWhat : MethodName := ⟨RX5, "isMissingWhat", "(I)Z"⟩
abbrev cX5_areHeights : ByteArray := prog_1_method_41_code
def yX5_areHeights : MethodName := ⟨RX5, "areHeights", "(LCutOnce$Sheet;II)Z"⟩
abbrev cX5_shapeFrom : ByteArray := prog_1_method_42_code
def yX5_shapeFrom : MethodName := ⟨RX5, "shapeFrom", "(LCutOnce$Sheet;III)V"⟩
abbrev cX5_isMissing : ByteArray := prog_1_method_43_code
def yX5_isMissing : MethodName := ⟨RX5, "isMissing", "(II)Z"⟩
abbrev cX5_countMissing : ByteArray := prog_1_method_44_code
def yX5_countMissing : MethodName := ⟨RX5, "countMissing", "(I)I"⟩
abbrev cX5_missingPiece : ByteArray := prog_1_method_45_code
def yX5_missingPiece : MethodName := ⟨RX5, "missingPiece", "(II)I"⟩
abbrev cX5_sumBody : ByteArray := prog_1_method_46_code
def yX5_sumBody : MethodName := ⟨RX5, "sumBody", "(I)I"⟩
abbrev cX5_leave : ByteArray := prog_1_method_47_code
def yX5_leave : MethodName := ⟨RX5, "leave", "(I)V"⟩
abbrev cX5_come : ByteArray := prog_1_method_48_code
def yX5_come : MethodName := ⟨RX5, "come", "(I)I"⟩
abbrev cX5_comeLost : ByteArray := prog_1_method_49_code
def yX5_comeLost : MethodName := ⟨RX5, "comeLost", "(I)J"⟩
def RX6 : String := "CutOnceModel"
def TX6 : u_T := fun k => match k with
  | 0 => ("CutOnceModel", "fault", "I", false)
  | 1 => ("CutOnceModel", "wide", "I", false)
  | 2 => ("CutOnceModel", "high", "I", false)
  | 3 => ("CutOnceModel", "heights", "[I", true)
  | 4 => ("CutOnceModel", "draw", "J", false)
  | 5 => ("CutOnceModel", "leastFar", "I", false)
  | 6 => ("CutOnceModel", "near", "I", false)
  | 7 => ("CutOnceModel", "heaped", "I", false)
  | 8 => ("CutOnceModel", "piece", "[I", true)
  | 9 => ("CutOnceModel", "turn", "[I", true)
  | 10 => ("CutOnceModel", "tried", "I", false)
  | 11 => ("CutOnceModel", "found", "I", false)
  | 12 => ("CutOnceModel", "at", "[I", true)
  | 13 => ("CutOnceModel", "further", "[I", true)
  | 14 => ("CutOnceModel", "isUsed", "[Z", true)
  | 15 => ("CutOnceModel", "isJoined", "Z", false)
  | 16 => ("CutOnceModel", "joinedAt", "[I", true)
  | 17 => ("CutOnceModel", "joinedTurn", "[I", true)
  | 18 => ("CutOnceModel", "sheetSize", "[I", true)
  | 19 => ("CutOnceModel", "sheetLane", "[I", true)
  | 20 => ("CutOnceModel", "sheet", "[I", true)
  | 21 => ("CutOnceModel", "hands", "[I", true)
  | _ => ("CutOnceModel", "trace", "I", false)
def tyX6 : Nat → FieldType := fun k => match k with
  | 0 => .int
  | 1 => .int
  | 2 => .int
  | 3 => .array .int
  | 4 => .long
  | 5 => .int
  | 6 => .int
  | 7 => .int
  | 8 => .array .int
  | 9 => .array .int
  | 10 => .int
  | 11 => .int
  | 12 => .array .int
  | 13 => .array .int
  | 14 => .array .boolean
  | 15 => .boolean
  | 16 => .array .int
  | 17 => .array .int
  | 18 => .array .int
  | 19 => .array .int
  | 20 => .array .int
  | 21 => .array .int
  | _ => .int
abbrev wsX60 : List Cond := u_ws RX6 TX6 23
theorem nmX6 : ∀ a, a < 23 → ∀ b, b < 23 → a ≠ b → (TX6 a).2.1 ≠ (TX6 b).2.1 := by decide +kernel
theorem tyX6_ok : ∀ k, k < 23 → parseFieldDescriptor (TX6 k).2.2.1 = some (tyX6 k) := by decide +kernel
abbrev cX6_init : ByteArray := prog_8_method_1_code
def yX6_init : MethodName := ⟨RX6, "<init>", "()V"⟩
abbrev cX6_in : ByteArray := prog_8_method_2_code
def yX6_in : MethodName := ⟨RX6, "in", "(JJJ)Z"⟩
abbrev cX6_lost : ByteArray := prog_8_method_3_code
def yX6_lost : MethodName := ⟨RX6, "lost", "()J"⟩
abbrev cX6_refused : ByteArray := prog_8_method_4_code
def yX6_refused : MethodName := ⟨RX6, "refused", "(I)I"⟩
abbrev cX6_failed : ByteArray := prog_8_method_5_code
def yX6_failed : MethodName := ⟨RX6, "failed", "(I)I"⟩
abbrev cX6_failedLong : ByteArray := prog_8_method_6_code
def yX6_failedLong : MethodName := ⟨RX6, "failedLong", "(I)J"⟩
abbrev cX6_sizeOf : ByteArray := prog_8_method_7_code
def yX6_sizeOf : MethodName := ⟨RX6, "sizeOf", "(I)I"⟩
abbrev cX6_across : ByteArray := prog_8_method_8_code
def yX6_across : MethodName := ⟨RX6, "across", "()I"⟩
abbrev cX6_sides : ByteArray := prog_8_method_9_code
def yX6_sides : MethodName := ⟨RX6, "sides", "()I"⟩
abbrev cX6_pieces : ByteArray := prog_8_method_10_code
def yX6_pieces : MethodName := ⟨RX6, "pieces", "()I"⟩
abbrev cX6_noSide : ByteArray := prog_8_method_11_code
def yX6_noSide : MethodName := ⟨RX6, "noSide", "(I)Z"⟩
abbrev cX6_noPiece : ByteArray := prog_8_method_12_code
def yX6_noPiece : MethodName := ⟨RX6, "noPiece", "(I)Z"⟩
abbrev cX6_changed : ByteArray := prog_8_method_13_code
def yX6_changed : MethodName := ⟨RX6, "changed", "()V"⟩
abbrev cX6_picture : ByteArray := prog_8_method_14_code
def yX6_picture : MethodName := ⟨RX6, "picture", "(II)I"⟩
abbrev cX6_numberBelow : ByteArray := prog_8_method_15_code
def yX6_numberBelow : MethodName := ⟨RX6, "numberBelow", "(I)I"⟩
abbrev cX6_make : ByteArray := prog_8_method_16_code
def yX6_make : MethodName := ⟨RX6, "make", "(J)I"⟩
abbrev cX6_bend : ByteArray := prog_8_method_17_code
def yX6_bend : MethodName := ⟨RX6, "bend", "(III)J"⟩
abbrev cX6_height : ByteArray := prog_8_method_18_code
def yX6_height : MethodName := ⟨RX6, "height", "(II)J"⟩
abbrev cX6_sideAt : ByteArray := prog_8_method_19_code
def yX6_sideAt : MethodName := ⟨RX6, "sideAt", "(II)I"⟩
abbrev cX6_sideOf : ByteArray := prog_8_method_20_code
def yX6_sideOf : MethodName := ⟨RX6, "sideOf", "(II)I"⟩
abbrev cX6_heightAt : ByteArray := prog_8_method_21_code
def yX6_heightAt : MethodName := ⟨RX6, "heightAt", "(III)I"⟩
abbrev cX6_edge : ByteArray := prog_8_method_22_code
def yX6_edge : MethodName := ⟨RX6, "edge", "(III)J"⟩
abbrev cX6_farOf : ByteArray := prog_8_method_23_code
def yX6_farOf : MethodName := ⟨RX6, "farOf", "(IIII)I"⟩
abbrev cX6_far : ByteArray := prog_8_method_24_code
def yX6_far : MethodName := ⟨RX6, "far", "(IIII)I"⟩
abbrev cX6_isBulge : ByteArray := prog_8_method_25_code
def yX6_isBulge : MethodName := ⟨RX6, "isBulge", "(I)Z"⟩
abbrev cX6_isLike : ByteArray := prog_8_method_26_code
def yX6_isLike : MethodName := ⟨RX6, "isLike", "(II)Z"⟩
abbrev cX6_kindOf : ByteArray := prog_8_method_27_code
def yX6_kindOf : MethodName := ⟨RX6, "kindOf", "(I)I"⟩
abbrev cX6_kind : ByteArray := prog_8_method_28_code
def yX6_kind : MethodName := ⟨RX6, "kind", "(I)I"⟩
abbrev cX6_goThrough : ByteArray := prog_8_method_29_code
def yX6_goThrough : MethodName := ⟨RX6, "goThrough", "(I)V"⟩
abbrev cX6_unlike : ByteArray := prog_8_method_30_code
def yX6_unlike : MethodName := ⟨RX6, "unlike", "()I"⟩
abbrev cX6_traps : ByteArray := prog_8_method_31_code
def yX6_traps : MethodName := ⟨RX6, "traps", "(I)I"⟩
abbrev cX6_alike : ByteArray := prog_8_method_32_code
def yX6_alike : MethodName := ⟨RX6, "alike", "(III)I"⟩
abbrev cX6_lay : ByteArray := prog_8_method_33_code
def yX6_lay : MethodName := ⟨RX6, "lay", "(II)I"⟩
abbrev cX6_heap : ByteArray := prog_8_method_34_code
def yX6_heap : MethodName := ⟨RX6, "heap", "(J)I"⟩
abbrev cX6_noPlace : ByteArray := prog_8_method_35_code
def yX6_noPlace : MethodName := ⟨RX6, "noPlace", "(I)Z"⟩
abbrev cX6_take : ByteArray := prog_8_method_36_code
def yX6_take : MethodName := ⟨RX6, "take", "(I)I"⟩
abbrev cX6_heaped : ByteArray := prog_8_method_37_code
def yX6_heaped : MethodName := ⟨RX6, "heaped", "(II)I"⟩
abbrev cX6_timesIn : ByteArray := prog_8_method_38_code
def yX6_timesIn : MethodName := ⟨RX6, "timesIn", "(I)I"⟩
abbrev cX6_isMissing : ByteArray := prog_8_method_39_code
def yX6_isMissing : MethodName := ⟨RX6, "isMissing", "(II)Z"⟩
abbrev cX6_missing : ByteArray := prog_8_method_40_code
def yX6_missing : MethodName := ⟨RX6, "missing", "(I)I"⟩
abbrev cX6_missed : ByteArray := prog_8_method_41_code
def yX6_missed : MethodName := ⟨RX6, "missed", "(II)I"⟩
abbrev cX6_edgeOn : ByteArray := prog_8_method_42_code
def yX6_edgeOn : MethodName := ⟨RX6, "edgeOn", "(II)I"⟩
abbrev cX6_isFlat : ByteArray := prog_8_method_43_code
def yX6_isFlat : MethodName := ⟨RX6, "isFlat", "(II)Z"⟩
abbrev cX6_meets : ByteArray := prog_8_method_44_code
def yX6_meets : MethodName := ⟨RX6, "meets", "(IIII)Z"⟩
abbrev cX6_fits : ByteArray := prog_8_method_45_code
def yX6_fits : MethodName := ⟨RX6, "fits", "(I)Z"⟩
abbrev cX6_search : ByteArray := prog_8_method_46_code
def yX6_search : MethodName := ⟨RX6, "search", "(I)Z"⟩
abbrev cX6_ways : ByteArray := prog_8_method_47_code
def yX6_ways : MethodName := ⟨RX6, "ways", "()I"⟩
abbrev cX6_join : ByteArray := prog_8_method_48_code
def yX6_join : MethodName := ⟨RX6, "join", "()I"⟩
abbrev cX6_joined : ByteArray := prog_8_method_49_code
def yX6_joined : MethodName := ⟨RX6, "joined", "(II)I"⟩
abbrev cX6_trials : ByteArray := prog_8_method_50_code
def yX6_trials : MethodName := ⟨RX6, "trials", "()I"⟩
abbrev cX6_neighbour : ByteArray := prog_8_method_51_code
def yX6_neighbour : MethodName := ⟨RX6, "neighbour", "(II)I"⟩
abbrev cX6_known : ByteArray := prog_8_method_52_code
def yX6_known : MethodName := ⟨RX6, "known", "(I)I"⟩
abbrev cX6_noSheet : ByteArray := prog_8_method_53_code
def yX6_noSheet : MethodName := ⟨RX6, "noSheet", "(I)Z"⟩
abbrev cX6_sheet : ByteArray := prog_8_method_54_code
def yX6_sheet : MethodName := ⟨RX6, "sheet", "(III)I"⟩
abbrev cX6_lose : ByteArray := prog_8_method_55_code
def yX6_lose : MethodName := ⟨RX6, "lose", "(I)I"⟩
abbrev cX6_noCell : ByteArray := prog_8_method_56_code
def yX6_noCell : MethodName := ⟨RX6, "noCell", "(II)I"⟩
abbrev cX6_put : ByteArray := prog_8_method_57_code
def yX6_put : MethodName := ⟨RX6, "put", "(III)I"⟩
abbrev cX6_cell : ByteArray := prog_8_method_58_code
def yX6_cell : MethodName := ⟨RX6, "cell", "(III)J"⟩
abbrev cX6_isBeyond : ByteArray := prog_8_method_59_code
def yX6_isBeyond : MethodName := ⟨RX6, "isBeyond", "(IJI)Z"⟩
abbrev cX6_copy : ByteArray := prog_8_method_60_code
def yX6_copy : MethodName := ⟨RX6, "copy", "(IIIII)I"⟩
abbrev cX6_shape : ByteArray := prog_8_method_61_code
def yX6_shape : MethodName := ⟨RX6, "shape", "(IIIII)I"⟩
abbrev cX6_traced : ByteArray := prog_8_method_62_code
def yX6_traced : MethodName := ⟨RX6, "traced", "(I)V"⟩
abbrev cX6_tell : ByteArray := prog_8_method_63_code
def yX6_tell : MethodName := ⟨RX6, "tell", "(I)I"⟩
abbrev cX6_mark : ByteArray := prog_8_method_64_code
def yX6_mark : MethodName := ⟨RX6, "mark", "(I)I"⟩
abbrev cX6_as : ByteArray := prog_8_method_65_code
def yX6_as : MethodName := ⟨RX6, "as", "(II)I"⟩
abbrev cX6_trace : ByteArray := prog_8_method_66_code
def yX6_trace : MethodName := ⟨RX6, "trace", "()I"⟩
abbrev cX6_fault : ByteArray := prog_8_method_67_code
def yX6_fault : MethodName := ⟨RX6, "fault", "()I"⟩
abbrev cX6_told : ByteArray := prog_8_method_68_code
def yX6_told : MethodName := ⟨RX6, "told", "(I)I"⟩
def RJ9 : String := "java/lang/Math"
def TJ9 : u_T := fun k => match k with
  | _ => ("", "", "", false)
def tyJ9 : Nat → FieldType := fun k => match k with
  | _ => .int
abbrev wsJ90 : List Cond := u_ws RJ9 TJ9 0
theorem nmJ9 : ∀ a, a < 0 → ∀ b, b < 0 → a ≠ b → (TJ9 a).2.1 ≠ (TJ9 b).2.1 := by decide +kernel
theorem tyJ9_ok : ∀ k, k < 0 → parseFieldDescriptor (TJ9 k).2.2.1 = some (tyJ9 k) := by decide +kernel
abbrev cJ9_abs_0f7a4 : ByteArray := prog_9_method_59_code
def yJ9_abs_0f7a4 : MethodName := ⟨RJ9, "abs", "(I)I"⟩
abbrev cJ9_max_7cf53 : ByteArray := prog_9_method_65_code
def yJ9_max_7cf53 : MethodName := ⟨RJ9, "max", "(II)I"⟩
abbrev cJ9_min_7cf53 : ByteArray := prog_9_method_69_code
def yJ9_min_7cf53 : MethodName := ⟨RJ9, "min", "(II)I"⟩
def RJ10 : String := "java/lang/System"
def TJ10 : u_T := fun k => match k with
  | _ => ("", "", "", false)
def tyJ10 : Nat → FieldType := fun k => match k with
  | _ => .int
abbrev wsJ100 : List Cond := u_ws RJ10 TJ10 0
theorem nmJ10 : ∀ a, a < 0 → ∀ b, b < 0 → a ≠ b → (TJ10 a).2.1 ≠ (TJ10 b).2.1 := by decide +kernel
theorem tyJ10_ok : ∀ k, k < 0 → parseFieldDescriptor (TJ10 k).2.2.1 = some (tyJ10 k) := by decide +kernel
def RL : String := "CutOnceLaw"
abbrev cL_law : ByteArray := code
def yL_law : MethodName := ⟨RL, "law", "([I)Z"⟩
def wsX0_init : List Cond := .code yX0_init cX0_init 1 none :: ([.methodLink RX0 1 objectInit, .instanceMethod objectInit, .code objectInit ⟨#[0xb1]⟩ 1 none])
def wsX0_begin : List Cond := .code yX0_begin cX0_begin 3 none :: ([.fieldLink RX0 7 "CutOnce$Draw" "now" "J"] ++ wsX00)
def wsX0_below : List Cond := .code yX0_below cX0_below 2 (some .int) :: ([.fieldLink RX0 7 "CutOnce$Draw" "now" "J", .constantLong RX0 13 (6364136223846793005), .constantLong RX0 15 (1442695040888963407), .constantLong RX0 17 (2147483647), .constantLong RX0 19 (4096)] ++ wsX00)
def wsX1_layEdges : List Cond := .code yX1_layEdges cX1_layEdges 6 none :: ([.fieldLink RX1 22 "CutOnce$Picture" "w" "I", .fieldLink RX1 26 "CutOnce$Picture" "h" "I", .fieldLink RX1 15 "CutOnce$Picture" "sideOfEdge" "[I"] ++ wsX10)
def wsX1_cutAnew : List Cond := .code yX1_cutAnew cX1_cutAnew 5 none :: ([.fieldLink RX1 22 "CutOnce$Picture" "w" "I", .fieldLink RX1 26 "CutOnce$Picture" "h" "I", .fieldLink RX1 9 "CutOnce$Picture" "heights" "[I", .methodLink RX1 29 yX1_layEdges, .instanceMethod yX1_layEdges, .selects RX1 yX1_layEdges yX1_layEdges, .initialized RX1, .code yX1_layEdges cX1_layEdges 6 none, .fieldLink RX1 15 "CutOnce$Picture" "sideOfEdge" "[I"] ++ wsX10)
def wsX1_init : List Cond := .code yX1_init cX1_init 1 none :: ([.methodLink RX1 3 objectInit, .instanceMethod objectInit, .code objectInit ⟨#[0xb1]⟩ 1 none, .arrayClass .int, .fieldLink RX1 9 "CutOnce$Picture" "heights" "[I", .fieldLink RX1 15 "CutOnce$Picture" "sideOfEdge" "[I", .methodLink RX1 18 yX1_cutAnew, .instanceMethod yX1_cutAnew, .selects RX1 yX1_cutAnew yX1_cutAnew, .initialized RX1, .code yX1_cutAnew cX1_cutAnew 5 none, .fieldLink RX1 22 "CutOnce$Picture" "w" "I", .fieldLink RX1 26 "CutOnce$Picture" "h" "I", .methodLink RX1 29 yX1_layEdges, .instanceMethod yX1_layEdges, .selects RX1 yX1_layEdges yX1_layEdges, .code yX1_layEdges cX1_layEdges 6 none] ++ wsX10)
def wsX1_width : List Cond := .code yX1_width cX1_width 1 (some .int) :: ([.fieldLink RX1 22 "CutOnce$Picture" "w" "I"] ++ wsX10)
def wsX1_depth : List Cond := .code yX1_depth cX1_depth 1 (some .int) :: ([.fieldLink RX1 26 "CutOnce$Picture" "h" "I"] ++ wsX10)
def wsX1_pieces : List Cond := .code yX1_pieces cX1_pieces 1 (some .int) :: ([.fieldLink RX1 22 "CutOnce$Picture" "w" "I", .fieldLink RX1 26 "CutOnce$Picture" "h" "I"] ++ wsX10)
def wsX1_sides : List Cond := .code yX1_sides cX1_sides 1 (some .int) :: ([.fieldLink RX1 22 "CutOnce$Picture" "w" "I", .fieldLink RX1 26 "CutOnce$Picture" "h" "I"] ++ wsX10)
def wsX1_hasSide : List Cond := .code yX1_hasSide cX1_hasSide 2 (some .boolean) :: ([.methodLink RX1 32 yX1_sides, .instanceMethod yX1_sides, .selects RX1 yX1_sides yX1_sides, .initialized RX1, .code yX1_sides cX1_sides 1 (some .int), .fieldLink RX1 22 "CutOnce$Picture" "w" "I", .fieldLink RX1 26 "CutOnce$Picture" "h" "I"] ++ wsX10)
def wsX1_hasPiece : List Cond := .code yX1_hasPiece cX1_hasPiece 2 (some .boolean) :: ([.methodLink RX1 36 yX1_pieces, .instanceMethod yX1_pieces, .selects RX1 yX1_pieces yX1_pieces, .initialized RX1, .code yX1_pieces cX1_pieces 1 (some .int), .fieldLink RX1 22 "CutOnce$Picture" "w" "I", .fieldLink RX1 26 "CutOnce$Picture" "h" "I"] ++ wsX10)
def wsX1_hasEdge : List Cond := .code yX1_hasEdge cX1_hasEdge 3 (some .boolean) :: ([.methodLink RX1 39 yX1_hasPiece, .instanceMethod yX1_hasPiece, .selects RX1 yX1_hasPiece yX1_hasPiece, .initialized RX1, .code yX1_hasPiece cX1_hasPiece 2 (some .boolean), .methodLink RX1 36 yX1_pieces, .instanceMethod yX1_pieces, .selects RX1 yX1_pieces yX1_pieces, .code yX1_pieces cX1_pieces 1 (some .int), .fieldLink RX1 22 "CutOnce$Picture" "w" "I", .fieldLink RX1 26 "CutOnce$Picture" "h" "I"] ++ wsX10)
def wsX1_sideAt : List Cond := .code yX1_sideAt cX1_sideAt 4 (some .int) :: ([.fieldLink RX1 15 "CutOnce$Picture" "sideOfEdge" "[I"] ++ wsX10)
def wsX1_isFlat : List Cond := .code yX1_isFlat cX1_isFlat 3 (some .boolean) :: ([.methodLink RX1 43 yX1_sideAt, .instanceMethod yX1_sideAt, .selects RX1 yX1_sideAt yX1_sideAt, .initialized RX1, .code yX1_sideAt cX1_sideAt 4 (some .int), .fieldLink RX1 15 "CutOnce$Picture" "sideOfEdge" "[I"] ++ wsX10)
def wsX1_nextTo : List Cond := .code yX1_nextTo cX1_nextTo 3 (some .int) :: ([.fieldLink RX1 22 "CutOnce$Picture" "w" "I"] ++ wsX10)
def wsX1_setHeight : List Cond := .code yX1_setHeight cX1_setHeight 5 none :: ([.fieldLink RX1 9 "CutOnce$Picture" "heights" "[I"] ++ wsX10)
def wsX1_heightAt : List Cond := .code yX1_heightAt cX1_heightAt 5 (some .int) :: ([.fieldLink RX1 9 "CutOnce$Picture" "heights" "[I"] ++ wsX10)
def wsX1_edgeHeight : List Cond := .code yX1_edgeHeight cX1_edgeHeight 5 (some .int) :: ([.methodLink RX1 43 yX1_sideAt, .instanceMethod yX1_sideAt, .selects RX1 yX1_sideAt yX1_sideAt, .initialized RX1, .code yX1_sideAt cX1_sideAt 4 (some .int), .fieldLink RX1 15 "CutOnce$Picture" "sideOfEdge" "[I", .methodLink RX1 47 yX1_heightAt, .instanceMethod yX1_heightAt, .selects RX1 yX1_heightAt yX1_heightAt, .code yX1_heightAt cX1_heightAt 5 (some .int), .fieldLink RX1 9 "CutOnce$Picture" "heights" "[I"] ++ wsX10)
def wsX1_farness : List Cond := .code yX1_farness cX1_farness 7 (some .int) :: ([.methodLink RX1 54 Lib.Math.abs.name, .static Lib.Math.abs.name, .initialized "java/lang/Math", .code Lib.Math.abs.name Lib.Math.abs.code 1 (some .int), .methodLink RX1 51 yX1_edgeHeight, .instanceMethod yX1_edgeHeight, .selects RX1 yX1_edgeHeight yX1_edgeHeight, .initialized RX1, .code yX1_edgeHeight cX1_edgeHeight 5 (some .int), .methodLink RX1 43 yX1_sideAt, .instanceMethod yX1_sideAt, .selects RX1 yX1_sideAt yX1_sideAt, .code yX1_sideAt cX1_sideAt 4 (some .int), .fieldLink RX1 15 "CutOnce$Picture" "sideOfEdge" "[I", .methodLink RX1 47 yX1_heightAt, .instanceMethod yX1_heightAt, .selects RX1 yX1_heightAt yX1_heightAt, .code yX1_heightAt cX1_heightAt 5 (some .int), .fieldLink RX1 9 "CutOnce$Picture" "heights" "[I"] ++ wsX10)
def wsX1_sumOf : List Cond := .code yX1_sumOf cX1_sumOf 4 (some .int) :: ([.methodLink RX1 47 yX1_heightAt, .instanceMethod yX1_heightAt, .selects RX1 yX1_heightAt yX1_heightAt, .initialized RX1, .code yX1_heightAt cX1_heightAt 5 (some .int), .fieldLink RX1 9 "CutOnce$Picture" "heights" "[I"] ++ wsX10)
def wsX1_bulges : List Cond := .code yX1_bulges cX1_bulges 6 (some .boolean) :: ([.methodLink RX1 47 yX1_heightAt, .instanceMethod yX1_heightAt, .selects RX1 yX1_heightAt yX1_heightAt, .initialized RX1, .code yX1_heightAt cX1_heightAt 5 (some .int), .fieldLink RX1 9 "CutOnce$Picture" "heights" "[I"] ++ wsX10)
def wsX1_differing : List Cond := .code yX1_differing cX1_differing 6 (some .int) :: ([.methodLink RX1 47 yX1_heightAt, .instanceMethod yX1_heightAt, .selects RX1 yX1_heightAt yX1_heightAt, .initialized RX1, .code yX1_heightAt cX1_heightAt 5 (some .int), .fieldLink RX1 9 "CutOnce$Picture" "heights" "[I"] ++ wsX10)
def wsX1_kindAt : List Cond := .code yX1_kindAt cX1_kindAt 3 (some .int) :: ([.methodLink RX1 60 yX1_bulges, .instanceMethod yX1_bulges, .selects RX1 yX1_bulges yX1_bulges, .initialized RX1, .code yX1_bulges cX1_bulges 6 (some .boolean), .methodLink RX1 47 yX1_heightAt, .instanceMethod yX1_heightAt, .selects RX1 yX1_heightAt yX1_heightAt, .code yX1_heightAt cX1_heightAt 5 (some .int), .fieldLink RX1 9 "CutOnce$Picture" "heights" "[I", .methodLink RX1 32 yX1_sides, .instanceMethod yX1_sides, .selects RX1 yX1_sides yX1_sides, .code yX1_sides cX1_sides 1 (some .int), .fieldLink RX1 22 "CutOnce$Picture" "w" "I", .fieldLink RX1 26 "CutOnce$Picture" "h" "I", .methodLink RX1 63 yX1_differing, .instanceMethod yX1_differing, .selects RX1 yX1_differing yX1_differing, .code yX1_differing cX1_differing 6 (some .int)] ++ wsX10)
def wsX1_giveShape : List Cond := .code yX1_giveShape cX1_giveShape 6 (some .int) :: ([.methodLink RX1 63 yX1_differing, .instanceMethod yX1_differing, .selects RX1 yX1_differing yX1_differing, .initialized RX1, .code yX1_differing cX1_differing 6 (some .int), .methodLink RX1 47 yX1_heightAt, .instanceMethod yX1_heightAt, .selects RX1 yX1_heightAt yX1_heightAt, .code yX1_heightAt cX1_heightAt 5 (some .int), .fieldLink RX1 9 "CutOnce$Picture" "heights" "[I", .methodLink RX1 66 yX1_setHeight, .instanceMethod yX1_setHeight, .selects RX1 yX1_setHeight yX1_setHeight, .code yX1_setHeight cX1_setHeight 5 none] ++ wsX10)
def wsX1_strangersApart_r1 : List Cond := [Cond.methodLink RX1 73 yX1_isFlat, Cond.instanceMethod yX1_isFlat, Cond.selects RX1 yX1_isFlat yX1_isFlat, Cond.initialized RX1, Cond.code yX1_isFlat cX1_isFlat 3 (some .boolean), Cond.methodLink RX1 43 yX1_sideAt, Cond.instanceMethod yX1_sideAt, Cond.selects RX1 yX1_sideAt yX1_sideAt, Cond.code yX1_sideAt cX1_sideAt 4 (some .int), Cond.fieldLink RX1 15 "CutOnce$Picture" "sideOfEdge" "[I", Cond.methodLink RX1 77 yX1_farness, Cond.instanceMethod yX1_farness, Cond.selects RX1 yX1_farness yX1_farness, Cond.code yX1_farness cX1_farness 7 (some .int), Cond.methodLink RX1 54 Lib.Math.abs.name, Cond.static Lib.Math.abs.name, Cond.initialized "java/lang/Math", Cond.code Lib.Math.abs.name Lib.Math.abs.code 1 (some .int), Cond.methodLink RX1 51 yX1_edgeHeight, Cond.instanceMethod yX1_edgeHeight, Cond.selects RX1 yX1_edgeHeight yX1_edgeHeight, Cond.code yX1_edgeHeight cX1_edgeHeight 5 (some .int), Cond.methodLink RX1 47 yX1_heightAt, Cond.instanceMethod yX1_heightAt]
def wsX1_strangersApart_r2 : List Cond := [Cond.selects RX1 yX1_heightAt yX1_heightAt, Cond.code yX1_heightAt cX1_heightAt 5 (some .int), Cond.fieldLink RX1 9 "CutOnce$Picture" "heights" "[I"]
def wsX1_strangersApart : List Cond := .code yX1_strangersApart cX1_strangersApart 7 (some .int) :: ((wsX1_strangersApart_r1 ++ wsX1_strangersApart_r2) ++ wsX10)
def wsX1_leastFar_r1 : List Cond := [Cond.methodLink RX1 36 yX1_pieces, Cond.instanceMethod yX1_pieces, Cond.selects RX1 yX1_pieces yX1_pieces, Cond.initialized RX1, Cond.code yX1_pieces cX1_pieces 1 (some .int), Cond.fieldLink RX1 22 "CutOnce$Picture" "w" "I", Cond.fieldLink RX1 26 "CutOnce$Picture" "h" "I", Cond.methodLink RX1 70 yX1_strangersApart, Cond.instanceMethod yX1_strangersApart, Cond.selects RX1 yX1_strangersApart yX1_strangersApart, Cond.code yX1_strangersApart cX1_strangersApart 7 (some .int), Cond.methodLink RX1 73 yX1_isFlat, Cond.instanceMethod yX1_isFlat, Cond.selects RX1 yX1_isFlat yX1_isFlat, Cond.code yX1_isFlat cX1_isFlat 3 (some .boolean), Cond.methodLink RX1 43 yX1_sideAt, Cond.instanceMethod yX1_sideAt, Cond.selects RX1 yX1_sideAt yX1_sideAt, Cond.code yX1_sideAt cX1_sideAt 4 (some .int), Cond.fieldLink RX1 15 "CutOnce$Picture" "sideOfEdge" "[I", Cond.methodLink RX1 77 yX1_farness, Cond.instanceMethod yX1_farness, Cond.selects RX1 yX1_farness yX1_farness, Cond.code yX1_farness cX1_farness 7 (some .int)]
def wsX1_leastFar_r2 : List Cond := [Cond.methodLink RX1 54 Lib.Math.abs.name, Cond.static Lib.Math.abs.name, Cond.initialized "java/lang/Math", Cond.code Lib.Math.abs.name Lib.Math.abs.code 1 (some .int), Cond.methodLink RX1 51 yX1_edgeHeight, Cond.instanceMethod yX1_edgeHeight, Cond.selects RX1 yX1_edgeHeight yX1_edgeHeight, Cond.code yX1_edgeHeight cX1_edgeHeight 5 (some .int), Cond.methodLink RX1 47 yX1_heightAt, Cond.instanceMethod yX1_heightAt, Cond.selects RX1 yX1_heightAt yX1_heightAt, Cond.code yX1_heightAt cX1_heightAt 5 (some .int), Cond.fieldLink RX1 9 "CutOnce$Picture" "heights" "[I"]
def wsX1_leastFar : List Cond := .code yX1_leastFar cX1_leastFar 5 (some .int) :: ((wsX1_leastFar_r1 ++ wsX1_leastFar_r2) ++ wsX10)
def wsX1_pairsWithin_r1 : List Cond := [Cond.methodLink RX1 36 yX1_pieces, Cond.instanceMethod yX1_pieces, Cond.selects RX1 yX1_pieces yX1_pieces, Cond.initialized RX1, Cond.code yX1_pieces cX1_pieces 1 (some .int), Cond.fieldLink RX1 22 "CutOnce$Picture" "w" "I", Cond.fieldLink RX1 26 "CutOnce$Picture" "h" "I", Cond.methodLink RX1 70 yX1_strangersApart, Cond.instanceMethod yX1_strangersApart, Cond.selects RX1 yX1_strangersApart yX1_strangersApart, Cond.code yX1_strangersApart cX1_strangersApart 7 (some .int), Cond.methodLink RX1 73 yX1_isFlat, Cond.instanceMethod yX1_isFlat, Cond.selects RX1 yX1_isFlat yX1_isFlat, Cond.code yX1_isFlat cX1_isFlat 3 (some .boolean), Cond.methodLink RX1 43 yX1_sideAt, Cond.instanceMethod yX1_sideAt, Cond.selects RX1 yX1_sideAt yX1_sideAt, Cond.code yX1_sideAt cX1_sideAt 4 (some .int), Cond.fieldLink RX1 15 "CutOnce$Picture" "sideOfEdge" "[I", Cond.methodLink RX1 77 yX1_farness, Cond.instanceMethod yX1_farness, Cond.selects RX1 yX1_farness yX1_farness, Cond.code yX1_farness cX1_farness 7 (some .int)]
def wsX1_pairsWithin_r2 : List Cond := [Cond.methodLink RX1 54 Lib.Math.abs.name, Cond.static Lib.Math.abs.name, Cond.initialized "java/lang/Math", Cond.code Lib.Math.abs.name Lib.Math.abs.code 1 (some .int), Cond.methodLink RX1 51 yX1_edgeHeight, Cond.instanceMethod yX1_edgeHeight, Cond.selects RX1 yX1_edgeHeight yX1_edgeHeight, Cond.code yX1_edgeHeight cX1_edgeHeight 5 (some .int), Cond.methodLink RX1 47 yX1_heightAt, Cond.instanceMethod yX1_heightAt, Cond.selects RX1 yX1_heightAt yX1_heightAt, Cond.code yX1_heightAt cX1_heightAt 5 (some .int), Cond.fieldLink RX1 9 "CutOnce$Picture" "heights" "[I"]
def wsX1_pairsWithin : List Cond := .code yX1_pairsWithin cX1_pairsWithin 6 (some .int) :: ((wsX1_pairsWithin_r1 ++ wsX1_pairsWithin_r2) ++ wsX10)
def wsX2_init : List Cond := .code yX2_init cX2_init 1 none :: ([.methodLink RX2 3 objectInit, .instanceMethod objectInit, .code objectInit ⟨#[0xb1]⟩ 1 none, .arrayClass .int, .fieldLink RX2 9 "CutOnce$Pile" "pieceOf" "[I", .fieldLink RX2 15 "CutOnce$Pile" "turnOf" "[I"] ++ wsX20)
def wsX2_size : List Cond := .code yX2_size cX2_size 1 (some .int) :: ([.fieldLink RX2 18 "CutOnce$Pile" "count" "I"] ++ wsX20)
def wsX2_isFull : List Cond := .code yX2_isFull cX2_isFull 1 (some .boolean) :: ([.fieldLink RX2 18 "CutOnce$Pile" "count" "I"] ++ wsX20)
def wsX2_hasPlace : List Cond := .code yX2_hasPlace cX2_hasPlace 2 (some .boolean) :: ([.fieldLink RX2 18 "CutOnce$Pile" "count" "I"] ++ wsX20)
def wsX2_pieceAt : List Cond := .code yX2_pieceAt cX2_pieceAt 2 (some .int) :: ([.fieldLink RX2 9 "CutOnce$Pile" "pieceOf" "[I", .methodLink RX2 22 yX2_hasPlace, .instanceMethod yX2_hasPlace, .selects RX2 yX2_hasPlace yX2_hasPlace, .initialized RX2, .code yX2_hasPlace cX2_hasPlace 2 (some .boolean), .fieldLink RX2 18 "CutOnce$Pile" "count" "I"] ++ wsX20)
def wsX2_turnAt : List Cond := .code yX2_turnAt cX2_turnAt 2 (some .int) :: ([.fieldLink RX2 15 "CutOnce$Pile" "turnOf" "[I", .methodLink RX2 22 yX2_hasPlace, .instanceMethod yX2_hasPlace, .selects RX2 yX2_hasPlace yX2_hasPlace, .initialized RX2, .code yX2_hasPlace cX2_hasPlace 2 (some .boolean), .fieldLink RX2 18 "CutOnce$Pile" "count" "I"] ++ wsX20)
def wsX2_clearAll : List Cond := .code yX2_clearAll cX2_clearAll 1 none :: ([.fieldLink RX2 18 "CutOnce$Pile" "count" "I"] ++ wsX20)
def wsX2_append : List Cond := .code yX2_append cX2_append 3 none :: ([.fieldLink RX2 9 "CutOnce$Pile" "pieceOf" "[I", .fieldLink RX2 18 "CutOnce$Pile" "count" "I", .fieldLink RX2 15 "CutOnce$Pile" "turnOf" "[I", .methodLink RX2 26 yX2_isFull, .instanceMethod yX2_isFull, .selects RX2 yX2_isFull yX2_isFull, .initialized RX2, .code yX2_isFull cX2_isFull 1 (some .boolean)] ++ wsX20)
def wsX2_setTurn : List Cond := .code yX2_setTurn cX2_setTurn 3 none :: ([.fieldLink RX2 15 "CutOnce$Pile" "turnOf" "[I", .methodLink RX2 22 yX2_hasPlace, .instanceMethod yX2_hasPlace, .selects RX2 yX2_hasPlace yX2_hasPlace, .initialized RX2, .code yX2_hasPlace cX2_hasPlace 2 (some .boolean), .fieldLink RX2 18 "CutOnce$Pile" "count" "I"] ++ wsX20)
def wsX2_swapPieces : List Cond := .code yX2_swapPieces cX2_swapPieces 4 none :: ([.fieldLink RX2 9 "CutOnce$Pile" "pieceOf" "[I", .methodLink RX2 22 yX2_hasPlace, .instanceMethod yX2_hasPlace, .selects RX2 yX2_hasPlace yX2_hasPlace, .initialized RX2, .code yX2_hasPlace cX2_hasPlace 2 (some .boolean), .fieldLink RX2 18 "CutOnce$Pile" "count" "I"] ++ wsX20)
def wsX2_removeAt : List Cond := .code yX2_removeAt cX2_removeAt 3 none :: ([.fieldLink RX2 18 "CutOnce$Pile" "count" "I", .fieldLink RX2 9 "CutOnce$Pile" "pieceOf" "[I", .fieldLink RX2 15 "CutOnce$Pile" "turnOf" "[I", .methodLink RX2 22 yX2_hasPlace, .instanceMethod yX2_hasPlace, .selects RX2 yX2_hasPlace yX2_hasPlace, .initialized RX2, .code yX2_hasPlace cX2_hasPlace 2 (some .boolean)] ++ wsX20)
def wsX2_timesOf : List Cond := .code yX2_timesOf cX2_timesOf 4 (some .int) :: ([.fieldLink RX2 18 "CutOnce$Pile" "count" "I", .fieldLink RX2 9 "CutOnce$Pile" "pieceOf" "[I"] ++ wsX20)
def wsX3_init : List Cond := .code yX3_init cX3_init 3 none :: ([.methodLink RX3 3 objectInit, .instanceMethod objectInit, .code objectInit ⟨#[0xb1]⟩ 1 none, .arrayClass .int, .fieldLink RX3 9 "CutOnce$Search" "shown" "[I", .fieldLink RX3 15 "CutOnce$Search" "fitting" "[I", .fieldLink RX3 18 "CutOnce$Search" "wanted" "[I", .arrayClass .boolean, .fieldLink RX3 21 "CutOnce$Search" "used" "[Z", .fieldLink RX3 25 "CutOnce$Search" "lying" "[I", .fieldLink RX3 28 "CutOnce$Search" "joinedLying" "[I", .fieldLink RX3 31 "CutOnce$Search" "goal" "LCutOnce$Picture;", .fieldLink RX3 35 "CutOnce$Search" "pile" "LCutOnce$Pile;"] ++ wsX30)
def wsX3_trialsCounted : List Cond := .code yX3_trialsCounted cX3_trialsCounted 1 (some .int) :: ([.fieldLink RX3 39 "CutOnce$Search" "trialCount" "I"] ++ wsX30)
def wsX3_hasJoined : List Cond := .code yX3_hasJoined cX3_hasJoined 1 (some .boolean) :: ([.fieldLink RX3 43 "CutOnce$Search" "joinedOnce" "Z"] ++ wsX30)
def wsX3_forgetJoined : List Cond := .code yX3_forgetJoined cX3_forgetJoined 1 none :: ([.fieldLink RX3 43 "CutOnce$Search" "joinedOnce" "Z"] ++ wsX30)
def wsX3_joinedFrom : List Cond := .code yX3_joinedFrom cX3_joinedFrom 2 (some .int) :: ([.fieldLink RX3 31 "CutOnce$Search" "goal" "LCutOnce$Picture;", .fieldLink RX3 28 "CutOnce$Search" "joinedLying" "[I", .methodLink RX3 47 yX1_hasPiece, .instanceMethod yX1_hasPiece, .selects RX1 yX1_hasPiece yX1_hasPiece, .initialized RX1, .code yX1_hasPiece cX1_hasPiece 2 (some .boolean), .methodLink RX1 36 yX1_pieces, .instanceMethod yX1_pieces, .selects RX1 yX1_pieces yX1_pieces, .code yX1_pieces cX1_pieces 1 (some .int), .fieldLink RX1 22 "CutOnce$Picture" "w" "I", .fieldLink RX1 26 "CutOnce$Picture" "h" "I"] ++ wsX30 ++ wsX10)
def wsX3_joinedTurn : List Cond := .code yX3_joinedTurn cX3_joinedTurn 2 (some .int) :: ([.fieldLink RX3 31 "CutOnce$Search" "goal" "LCutOnce$Picture;", .fieldLink RX3 28 "CutOnce$Search" "joinedLying" "[I", .methodLink RX3 47 yX1_hasPiece, .instanceMethod yX1_hasPiece, .selects RX1 yX1_hasPiece yX1_hasPiece, .initialized RX1, .code yX1_hasPiece cX1_hasPiece 2 (some .boolean), .methodLink RX1 36 yX1_pieces, .instanceMethod yX1_pieces, .selects RX1 yX1_pieces yX1_pieces, .code yX1_pieces cX1_pieces 1 (some .int), .fieldLink RX1 22 "CutOnce$Picture" "w" "I", .fieldLink RX1 26 "CutOnce$Picture" "h" "I"] ++ wsX30 ++ wsX10)
def wsX3_codeOf : List Cond := .code yX3_codeOf cX3_codeOf 5 (some .int) :: ([.fieldLink RX3 31 "CutOnce$Search" "goal" "LCutOnce$Picture;", .methodLink RX3 100 yX1_edgeHeight, .instanceMethod yX1_edgeHeight, .selects RX1 yX1_edgeHeight yX1_edgeHeight, .initialized RX1, .code yX1_edgeHeight cX1_edgeHeight 5 (some .int), .methodLink RX1 43 yX1_sideAt, .instanceMethod yX1_sideAt, .selects RX1 yX1_sideAt yX1_sideAt, .code yX1_sideAt cX1_sideAt 4 (some .int), .fieldLink RX1 15 "CutOnce$Picture" "sideOfEdge" "[I", .methodLink RX1 47 yX1_heightAt, .instanceMethod yX1_heightAt, .selects RX1 yX1_heightAt yX1_heightAt, .code yX1_heightAt cX1_heightAt 5 (some .int), .fieldLink RX1 9 "CutOnce$Picture" "heights" "[I"] ++ wsX30 ++ wsX10)
def wsX3_mateOf : List Cond := .code yX3_mateOf cX3_mateOf 5 (some .int) :: ([.fieldLink RX3 31 "CutOnce$Search" "goal" "LCutOnce$Picture;", .methodLink RX3 100 yX1_edgeHeight, .instanceMethod yX1_edgeHeight, .selects RX1 yX1_edgeHeight yX1_edgeHeight, .initialized RX1, .code yX1_edgeHeight cX1_edgeHeight 5 (some .int), .methodLink RX1 43 yX1_sideAt, .instanceMethod yX1_sideAt, .selects RX1 yX1_sideAt yX1_sideAt, .code yX1_sideAt cX1_sideAt 4 (some .int), .fieldLink RX1 15 "CutOnce$Picture" "sideOfEdge" "[I", .methodLink RX1 47 yX1_heightAt, .instanceMethod yX1_heightAt, .selects RX1 yX1_heightAt yX1_heightAt, .code yX1_heightAt cX1_heightAt 5 (some .int), .fieldLink RX1 9 "CutOnce$Picture" "heights" "[I"] ++ wsX30 ++ wsX10)
def wsX3_readEdges_r1 : List Cond := [Cond.fieldLink RX3 35 "CutOnce$Search" "pile" "LCutOnce$Pile;", Cond.fieldLink RX3 31 "CutOnce$Search" "goal" "LCutOnce$Picture;", Cond.fieldLink RX3 9 "CutOnce$Search" "shown" "[I", Cond.fieldLink RX3 15 "CutOnce$Search" "fitting" "[I", Cond.methodLink RX3 82 yX2_pieceAt, Cond.instanceMethod yX2_pieceAt, Cond.selects RX2 yX2_pieceAt yX2_pieceAt, Cond.initialized RX2, Cond.code yX2_pieceAt cX2_pieceAt 2 (some .int), Cond.fieldLink RX2 9 "CutOnce$Pile" "pieceOf" "[I", Cond.methodLink RX2 22 yX2_hasPlace, Cond.instanceMethod yX2_hasPlace, Cond.selects RX2 yX2_hasPlace yX2_hasPlace, Cond.code yX2_hasPlace cX2_hasPlace 2 (some .boolean), Cond.fieldLink RX2 18 "CutOnce$Pile" "count" "I", Cond.methodLink RX3 86 yX1_isFlat, Cond.instanceMethod yX1_isFlat, Cond.selects RX1 yX1_isFlat yX1_isFlat, Cond.initialized RX1, Cond.code yX1_isFlat cX1_isFlat 3 (some .boolean), Cond.methodLink RX1 43 yX1_sideAt, Cond.instanceMethod yX1_sideAt, Cond.selects RX1 yX1_sideAt yX1_sideAt, Cond.code yX1_sideAt cX1_sideAt 4 (some .int)]
def wsX3_readEdges_r2 : List Cond := [Cond.fieldLink RX1 15 "CutOnce$Picture" "sideOfEdge" "[I", Cond.methodLink RX3 90 yX3_codeOf, Cond.instanceMethod yX3_codeOf, Cond.selects RX3 yX3_codeOf yX3_codeOf, Cond.initialized RX3, Cond.code yX3_codeOf cX3_codeOf 5 (some .int), Cond.methodLink RX3 100 yX1_edgeHeight, Cond.instanceMethod yX1_edgeHeight, Cond.selects RX1 yX1_edgeHeight yX1_edgeHeight, Cond.code yX1_edgeHeight cX1_edgeHeight 5 (some .int), Cond.methodLink RX1 47 yX1_heightAt, Cond.instanceMethod yX1_heightAt, Cond.selects RX1 yX1_heightAt yX1_heightAt, Cond.code yX1_heightAt cX1_heightAt 5 (some .int), Cond.fieldLink RX1 9 "CutOnce$Picture" "heights" "[I", Cond.methodLink RX3 94 yX3_mateOf, Cond.instanceMethod yX3_mateOf, Cond.selects RX3 yX3_mateOf yX3_mateOf, Cond.code yX3_mateOf cX3_mateOf 5 (some .int), Cond.methodLink RX3 97 yX2_turnAt, Cond.instanceMethod yX2_turnAt, Cond.selects RX2 yX2_turnAt yX2_turnAt, Cond.code yX2_turnAt cX2_turnAt 2 (some .int), Cond.fieldLink RX2 15 "CutOnce$Pile" "turnOf" "[I"]
def wsX3_readEdges : List Cond := .code yX3_readEdges cX3_readEdges 9 none :: ((wsX3_readEdges_r1 ++ wsX3_readEdges_r2) ++ wsX30 ++ wsX20 ++ wsX10)
def wsX3_lookAround : List Cond := .code yX3_lookAround cX3_lookAround 5 none :: ([.fieldLink RX3 31 "CutOnce$Search" "goal" "LCutOnce$Picture;", .fieldLink RX3 15 "CutOnce$Search" "fitting" "[I", .fieldLink RX3 25 "CutOnce$Search" "lying" "[I", .fieldLink RX3 18 "CutOnce$Search" "wanted" "[I", .methodLink RX3 111 yX1_nextTo, .instanceMethod yX1_nextTo, .selects RX1 yX1_nextTo yX1_nextTo, .initialized RX1, .code yX1_nextTo cX1_nextTo 3 (some .int), .fieldLink RX1 22 "CutOnce$Picture" "w" "I", .methodLink RX3 86 yX1_isFlat, .instanceMethod yX1_isFlat, .selects RX1 yX1_isFlat yX1_isFlat, .code yX1_isFlat cX1_isFlat 3 (some .boolean), .methodLink RX1 43 yX1_sideAt, .instanceMethod yX1_sideAt, .selects RX1 yX1_sideAt yX1_sideAt, .code yX1_sideAt cX1_sideAt 4 (some .int), .fieldLink RX1 15 "CutOnce$Picture" "sideOfEdge" "[I"] ++ wsX30 ++ wsX10)
def wsX3_fits : List Cond := .code yX3_fits cX3_fits 5 (some .boolean) :: ([.fieldLink RX3 18 "CutOnce$Search" "wanted" "[I", .fieldLink RX3 9 "CutOnce$Search" "shown" "[I", .fieldLink RX3 25 "CutOnce$Search" "lying" "[I"] ++ wsX30)
def wsX3_fillFrom_r1 : List Cond := [Cond.fieldLink RX3 31 "CutOnce$Search" "goal" "LCutOnce$Picture;", Cond.fieldLink RX3 60 "CutOnce$Search" "found" "I", Cond.fieldLink RX3 35 "CutOnce$Search" "pile" "LCutOnce$Pile;", Cond.fieldLink RX3 21 "CutOnce$Search" "used" "[Z", Cond.fieldLink RX3 39 "CutOnce$Search" "trialCount" "I", Cond.constant RX3 107 (60000), Cond.fieldLink RX3 57 "CutOnce$Search" "spent" "Z", Cond.fieldLink RX3 25 "CutOnce$Search" "lying" "[I", Cond.fieldLink RX3 76 "CutOnce$Search" "firstOnly" "Z", Cond.methodLink RX3 63 yX1_pieces, Cond.instanceMethod yX1_pieces, Cond.selects RX1 yX1_pieces yX1_pieces, Cond.initialized RX1, Cond.code yX1_pieces cX1_pieces 1 (some .int), Cond.fieldLink RX1 22 "CutOnce$Picture" "w" "I", Cond.fieldLink RX1 26 "CutOnce$Picture" "h" "I", Cond.methodLink RX3 104 yX3_lookAround, Cond.instanceMethod yX3_lookAround, Cond.selects RX3 yX3_lookAround yX3_lookAround, Cond.initialized RX3, Cond.code yX3_lookAround cX3_lookAround 5 none, Cond.fieldLink RX3 15 "CutOnce$Search" "fitting" "[I", Cond.fieldLink RX3 18 "CutOnce$Search" "wanted" "[I", Cond.methodLink RX3 111 yX1_nextTo]
def wsX3_fillFrom_r2 : List Cond := [Cond.instanceMethod yX1_nextTo, Cond.selects RX1 yX1_nextTo yX1_nextTo, Cond.code yX1_nextTo cX1_nextTo 3 (some .int), Cond.methodLink RX3 86 yX1_isFlat, Cond.instanceMethod yX1_isFlat, Cond.selects RX1 yX1_isFlat yX1_isFlat, Cond.code yX1_isFlat cX1_isFlat 3 (some .boolean), Cond.methodLink RX1 43 yX1_sideAt, Cond.instanceMethod yX1_sideAt, Cond.selects RX1 yX1_sideAt yX1_sideAt, Cond.code yX1_sideAt cX1_sideAt 4 (some .int), Cond.fieldLink RX1 15 "CutOnce$Picture" "sideOfEdge" "[I", Cond.methodLink RX3 67 yX2_size, Cond.instanceMethod yX2_size, Cond.selects RX2 yX2_size yX2_size, Cond.initialized RX2, Cond.code yX2_size cX2_size 1 (some .int), Cond.fieldLink RX2 18 "CutOnce$Pile" "count" "I", Cond.methodLink RX3 108 yX3_fits, Cond.instanceMethod yX3_fits, Cond.selects RX3 yX3_fits yX3_fits, Cond.code yX3_fits cX3_fits 5 (some .boolean), Cond.fieldLink RX3 9 "CutOnce$Search" "shown" "[I", Cond.methodLink RX3 79 yX3_fillFrom]
def wsX3_fillFrom_r3 : List Cond := [Cond.instanceMethod yX3_fillFrom, Cond.selects RX3 yX3_fillFrom yX3_fillFrom]
def wsX3_fillFrom : List Cond := .code yX3_fillFrom cX3_fillFrom 4 none :: ((wsX3_fillFrom_r1 ++ (wsX3_fillFrom_r2 ++ wsX3_fillFrom_r3)) ++ wsX30 ++ wsX10 ++ wsX20)
def wsX3_run_r1 : List Cond := [Cond.fieldLink RX3 35 "CutOnce$Search" "pile" "LCutOnce$Pile;", Cond.fieldLink RX3 21 "CutOnce$Search" "used" "[Z", Cond.fieldLink RX3 76 "CutOnce$Search" "firstOnly" "Z", Cond.fieldLink RX3 57 "CutOnce$Search" "spent" "Z", Cond.fieldLink RX3 60 "CutOnce$Search" "found" "I", Cond.fieldLink RX3 39 "CutOnce$Search" "trialCount" "I", Cond.methodLink RX3 67 yX2_size, Cond.instanceMethod yX2_size, Cond.selects RX2 yX2_size yX2_size, Cond.initialized RX2, Cond.code yX2_size cX2_size 1 (some .int), Cond.fieldLink RX2 18 "CutOnce$Pile" "count" "I", Cond.methodLink RX3 72 yX3_readEdges, Cond.instanceMethod yX3_readEdges, Cond.selects RX3 yX3_readEdges yX3_readEdges, Cond.initialized RX3, Cond.code yX3_readEdges cX3_readEdges 9 none, Cond.fieldLink RX3 31 "CutOnce$Search" "goal" "LCutOnce$Picture;", Cond.fieldLink RX3 9 "CutOnce$Search" "shown" "[I", Cond.fieldLink RX3 15 "CutOnce$Search" "fitting" "[I", Cond.methodLink RX3 82 yX2_pieceAt, Cond.instanceMethod yX2_pieceAt, Cond.selects RX2 yX2_pieceAt yX2_pieceAt, Cond.code yX2_pieceAt cX2_pieceAt 2 (some .int)]
def wsX3_run_r2 : List Cond := [Cond.fieldLink RX2 9 "CutOnce$Pile" "pieceOf" "[I", Cond.methodLink RX2 22 yX2_hasPlace, Cond.instanceMethod yX2_hasPlace, Cond.selects RX2 yX2_hasPlace yX2_hasPlace, Cond.code yX2_hasPlace cX2_hasPlace 2 (some .boolean), Cond.methodLink RX3 86 yX1_isFlat, Cond.instanceMethod yX1_isFlat, Cond.selects RX1 yX1_isFlat yX1_isFlat, Cond.initialized RX1, Cond.code yX1_isFlat cX1_isFlat 3 (some .boolean), Cond.methodLink RX1 43 yX1_sideAt, Cond.instanceMethod yX1_sideAt, Cond.selects RX1 yX1_sideAt yX1_sideAt, Cond.code yX1_sideAt cX1_sideAt 4 (some .int), Cond.fieldLink RX1 15 "CutOnce$Picture" "sideOfEdge" "[I", Cond.methodLink RX3 90 yX3_codeOf, Cond.instanceMethod yX3_codeOf, Cond.selects RX3 yX3_codeOf yX3_codeOf, Cond.code yX3_codeOf cX3_codeOf 5 (some .int), Cond.methodLink RX3 100 yX1_edgeHeight, Cond.instanceMethod yX1_edgeHeight, Cond.selects RX1 yX1_edgeHeight yX1_edgeHeight, Cond.code yX1_edgeHeight cX1_edgeHeight 5 (some .int), Cond.methodLink RX1 47 yX1_heightAt]
def wsX3_run_r3 : List Cond := [Cond.instanceMethod yX1_heightAt, Cond.selects RX1 yX1_heightAt yX1_heightAt, Cond.code yX1_heightAt cX1_heightAt 5 (some .int), Cond.fieldLink RX1 9 "CutOnce$Picture" "heights" "[I", Cond.methodLink RX3 94 yX3_mateOf, Cond.instanceMethod yX3_mateOf, Cond.selects RX3 yX3_mateOf yX3_mateOf, Cond.code yX3_mateOf cX3_mateOf 5 (some .int), Cond.methodLink RX3 97 yX2_turnAt, Cond.instanceMethod yX2_turnAt, Cond.selects RX2 yX2_turnAt yX2_turnAt, Cond.code yX2_turnAt cX2_turnAt 2 (some .int), Cond.fieldLink RX2 15 "CutOnce$Pile" "turnOf" "[I", Cond.methodLink RX3 79 yX3_fillFrom, Cond.instanceMethod yX3_fillFrom, Cond.selects RX3 yX3_fillFrom yX3_fillFrom, Cond.code yX3_fillFrom cX3_fillFrom 4 none, Cond.constant RX3 107 (60000), Cond.fieldLink RX3 25 "CutOnce$Search" "lying" "[I", Cond.methodLink RX3 63 yX1_pieces, Cond.instanceMethod yX1_pieces, Cond.selects RX1 yX1_pieces yX1_pieces, Cond.code yX1_pieces cX1_pieces 1 (some .int), Cond.fieldLink RX1 22 "CutOnce$Picture" "w" "I"]
def wsX3_run_r4 : List Cond := [Cond.fieldLink RX1 26 "CutOnce$Picture" "h" "I", Cond.methodLink RX3 104 yX3_lookAround, Cond.instanceMethod yX3_lookAround, Cond.selects RX3 yX3_lookAround yX3_lookAround, Cond.code yX3_lookAround cX3_lookAround 5 none, Cond.fieldLink RX3 18 "CutOnce$Search" "wanted" "[I", Cond.methodLink RX3 111 yX1_nextTo, Cond.instanceMethod yX1_nextTo, Cond.selects RX1 yX1_nextTo yX1_nextTo, Cond.code yX1_nextTo cX1_nextTo 3 (some .int), Cond.methodLink RX3 108 yX3_fits, Cond.instanceMethod yX3_fits, Cond.selects RX3 yX3_fits yX3_fits, Cond.code yX3_fits cX3_fits 5 (some .boolean)]
def wsX3_run : List Cond := .code yX3_run cX3_run 3 none :: ((wsX3_run_r1 ++ (wsX3_run_r2 ++ (wsX3_run_r3 ++ wsX3_run_r4))) ++ wsX30 ++ wsX20 ++ wsX10)
def wsX3_countWays_r1 : List Cond := [Cond.fieldLink RX3 57 "CutOnce$Search" "spent" "Z", Cond.fieldLink RX3 60 "CutOnce$Search" "found" "I", Cond.methodLink RX3 53 yX3_run, Cond.instanceMethod yX3_run, Cond.selects RX3 yX3_run yX3_run, Cond.initialized RX3, Cond.code yX3_run cX3_run 3 none, Cond.fieldLink RX3 35 "CutOnce$Search" "pile" "LCutOnce$Pile;", Cond.fieldLink RX3 21 "CutOnce$Search" "used" "[Z", Cond.fieldLink RX3 76 "CutOnce$Search" "firstOnly" "Z", Cond.fieldLink RX3 39 "CutOnce$Search" "trialCount" "I", Cond.methodLink RX3 67 yX2_size, Cond.instanceMethod yX2_size, Cond.selects RX2 yX2_size yX2_size, Cond.initialized RX2, Cond.code yX2_size cX2_size 1 (some .int), Cond.fieldLink RX2 18 "CutOnce$Pile" "count" "I", Cond.methodLink RX3 72 yX3_readEdges, Cond.instanceMethod yX3_readEdges, Cond.selects RX3 yX3_readEdges yX3_readEdges, Cond.code yX3_readEdges cX3_readEdges 9 none, Cond.fieldLink RX3 31 "CutOnce$Search" "goal" "LCutOnce$Picture;", Cond.fieldLink RX3 9 "CutOnce$Search" "shown" "[I", Cond.fieldLink RX3 15 "CutOnce$Search" "fitting" "[I"]
def wsX3_countWays_r2 : List Cond := [Cond.methodLink RX3 82 yX2_pieceAt, Cond.instanceMethod yX2_pieceAt, Cond.selects RX2 yX2_pieceAt yX2_pieceAt, Cond.code yX2_pieceAt cX2_pieceAt 2 (some .int), Cond.fieldLink RX2 9 "CutOnce$Pile" "pieceOf" "[I", Cond.methodLink RX2 22 yX2_hasPlace, Cond.instanceMethod yX2_hasPlace, Cond.selects RX2 yX2_hasPlace yX2_hasPlace, Cond.code yX2_hasPlace cX2_hasPlace 2 (some .boolean), Cond.methodLink RX3 86 yX1_isFlat, Cond.instanceMethod yX1_isFlat, Cond.selects RX1 yX1_isFlat yX1_isFlat, Cond.initialized RX1, Cond.code yX1_isFlat cX1_isFlat 3 (some .boolean), Cond.methodLink RX1 43 yX1_sideAt, Cond.instanceMethod yX1_sideAt, Cond.selects RX1 yX1_sideAt yX1_sideAt, Cond.code yX1_sideAt cX1_sideAt 4 (some .int), Cond.fieldLink RX1 15 "CutOnce$Picture" "sideOfEdge" "[I", Cond.methodLink RX3 90 yX3_codeOf, Cond.instanceMethod yX3_codeOf, Cond.selects RX3 yX3_codeOf yX3_codeOf, Cond.code yX3_codeOf cX3_codeOf 5 (some .int), Cond.methodLink RX3 100 yX1_edgeHeight]
def wsX3_countWays_r3 : List Cond := [Cond.instanceMethod yX1_edgeHeight, Cond.selects RX1 yX1_edgeHeight yX1_edgeHeight, Cond.code yX1_edgeHeight cX1_edgeHeight 5 (some .int), Cond.methodLink RX1 47 yX1_heightAt, Cond.instanceMethod yX1_heightAt, Cond.selects RX1 yX1_heightAt yX1_heightAt, Cond.code yX1_heightAt cX1_heightAt 5 (some .int), Cond.fieldLink RX1 9 "CutOnce$Picture" "heights" "[I", Cond.methodLink RX3 94 yX3_mateOf, Cond.instanceMethod yX3_mateOf, Cond.selects RX3 yX3_mateOf yX3_mateOf, Cond.code yX3_mateOf cX3_mateOf 5 (some .int), Cond.methodLink RX3 97 yX2_turnAt, Cond.instanceMethod yX2_turnAt, Cond.selects RX2 yX2_turnAt yX2_turnAt, Cond.code yX2_turnAt cX2_turnAt 2 (some .int), Cond.fieldLink RX2 15 "CutOnce$Pile" "turnOf" "[I", Cond.methodLink RX3 79 yX3_fillFrom, Cond.instanceMethod yX3_fillFrom, Cond.selects RX3 yX3_fillFrom yX3_fillFrom, Cond.code yX3_fillFrom cX3_fillFrom 4 none, Cond.constant RX3 107 (60000), Cond.fieldLink RX3 25 "CutOnce$Search" "lying" "[I", Cond.methodLink RX3 63 yX1_pieces]
def wsX3_countWays_r4 : List Cond := [Cond.instanceMethod yX1_pieces, Cond.selects RX1 yX1_pieces yX1_pieces, Cond.code yX1_pieces cX1_pieces 1 (some .int), Cond.fieldLink RX1 22 "CutOnce$Picture" "w" "I", Cond.fieldLink RX1 26 "CutOnce$Picture" "h" "I", Cond.methodLink RX3 104 yX3_lookAround, Cond.instanceMethod yX3_lookAround, Cond.selects RX3 yX3_lookAround yX3_lookAround, Cond.code yX3_lookAround cX3_lookAround 5 none, Cond.fieldLink RX3 18 "CutOnce$Search" "wanted" "[I", Cond.methodLink RX3 111 yX1_nextTo, Cond.instanceMethod yX1_nextTo, Cond.selects RX1 yX1_nextTo yX1_nextTo, Cond.code yX1_nextTo cX1_nextTo 3 (some .int), Cond.methodLink RX3 108 yX3_fits, Cond.instanceMethod yX3_fits, Cond.selects RX3 yX3_fits yX3_fits, Cond.code yX3_fits cX3_fits 5 (some .boolean)]
def wsX3_countWays : List Cond := .code yX3_countWays cX3_countWays 1 (some .int) :: ((wsX3_countWays_r1 ++ (wsX3_countWays_r2 ++ (wsX3_countWays_r3 ++ wsX3_countWays_r4))) ++ wsX30 ++ wsX20 ++ wsX10)
def wsX3_findFirst_r1 : List Cond := [Cond.fieldLink RX3 57 "CutOnce$Search" "spent" "Z", Cond.fieldLink RX3 60 "CutOnce$Search" "found" "I", Cond.fieldLink RX3 43 "CutOnce$Search" "joinedOnce" "Z", Cond.fieldLink RX3 31 "CutOnce$Search" "goal" "LCutOnce$Picture;", Cond.fieldLink RX3 28 "CutOnce$Search" "joinedLying" "[I", Cond.fieldLink RX3 25 "CutOnce$Search" "lying" "[I", Cond.methodLink RX3 53 yX3_run, Cond.instanceMethod yX3_run, Cond.selects RX3 yX3_run yX3_run, Cond.initialized RX3, Cond.code yX3_run cX3_run 3 none, Cond.fieldLink RX3 35 "CutOnce$Search" "pile" "LCutOnce$Pile;", Cond.fieldLink RX3 21 "CutOnce$Search" "used" "[Z", Cond.fieldLink RX3 76 "CutOnce$Search" "firstOnly" "Z", Cond.fieldLink RX3 39 "CutOnce$Search" "trialCount" "I", Cond.methodLink RX3 67 yX2_size, Cond.instanceMethod yX2_size, Cond.selects RX2 yX2_size yX2_size, Cond.initialized RX2, Cond.code yX2_size cX2_size 1 (some .int), Cond.fieldLink RX2 18 "CutOnce$Pile" "count" "I", Cond.methodLink RX3 72 yX3_readEdges, Cond.instanceMethod yX3_readEdges, Cond.selects RX3 yX3_readEdges yX3_readEdges]
def wsX3_findFirst_r2 : List Cond := [Cond.code yX3_readEdges cX3_readEdges 9 none, Cond.fieldLink RX3 9 "CutOnce$Search" "shown" "[I", Cond.fieldLink RX3 15 "CutOnce$Search" "fitting" "[I", Cond.methodLink RX3 82 yX2_pieceAt, Cond.instanceMethod yX2_pieceAt, Cond.selects RX2 yX2_pieceAt yX2_pieceAt, Cond.code yX2_pieceAt cX2_pieceAt 2 (some .int), Cond.fieldLink RX2 9 "CutOnce$Pile" "pieceOf" "[I", Cond.methodLink RX2 22 yX2_hasPlace, Cond.instanceMethod yX2_hasPlace, Cond.selects RX2 yX2_hasPlace yX2_hasPlace, Cond.code yX2_hasPlace cX2_hasPlace 2 (some .boolean), Cond.methodLink RX3 86 yX1_isFlat, Cond.instanceMethod yX1_isFlat, Cond.selects RX1 yX1_isFlat yX1_isFlat, Cond.initialized RX1, Cond.code yX1_isFlat cX1_isFlat 3 (some .boolean), Cond.methodLink RX1 43 yX1_sideAt, Cond.instanceMethod yX1_sideAt, Cond.selects RX1 yX1_sideAt yX1_sideAt, Cond.code yX1_sideAt cX1_sideAt 4 (some .int), Cond.fieldLink RX1 15 "CutOnce$Picture" "sideOfEdge" "[I", Cond.methodLink RX3 90 yX3_codeOf, Cond.instanceMethod yX3_codeOf]
def wsX3_findFirst_r3 : List Cond := [Cond.selects RX3 yX3_codeOf yX3_codeOf, Cond.code yX3_codeOf cX3_codeOf 5 (some .int), Cond.methodLink RX3 100 yX1_edgeHeight, Cond.instanceMethod yX1_edgeHeight, Cond.selects RX1 yX1_edgeHeight yX1_edgeHeight, Cond.code yX1_edgeHeight cX1_edgeHeight 5 (some .int), Cond.methodLink RX1 47 yX1_heightAt, Cond.instanceMethod yX1_heightAt, Cond.selects RX1 yX1_heightAt yX1_heightAt, Cond.code yX1_heightAt cX1_heightAt 5 (some .int), Cond.fieldLink RX1 9 "CutOnce$Picture" "heights" "[I", Cond.methodLink RX3 94 yX3_mateOf, Cond.instanceMethod yX3_mateOf, Cond.selects RX3 yX3_mateOf yX3_mateOf, Cond.code yX3_mateOf cX3_mateOf 5 (some .int), Cond.methodLink RX3 97 yX2_turnAt, Cond.instanceMethod yX2_turnAt, Cond.selects RX2 yX2_turnAt yX2_turnAt, Cond.code yX2_turnAt cX2_turnAt 2 (some .int), Cond.fieldLink RX2 15 "CutOnce$Pile" "turnOf" "[I", Cond.methodLink RX3 79 yX3_fillFrom, Cond.instanceMethod yX3_fillFrom, Cond.selects RX3 yX3_fillFrom yX3_fillFrom, Cond.code yX3_fillFrom cX3_fillFrom 4 none]
def wsX3_findFirst_r4 : List Cond := [Cond.constant RX3 107 (60000), Cond.methodLink RX3 63 yX1_pieces, Cond.instanceMethod yX1_pieces, Cond.selects RX1 yX1_pieces yX1_pieces, Cond.code yX1_pieces cX1_pieces 1 (some .int), Cond.fieldLink RX1 22 "CutOnce$Picture" "w" "I", Cond.fieldLink RX1 26 "CutOnce$Picture" "h" "I", Cond.methodLink RX3 104 yX3_lookAround, Cond.instanceMethod yX3_lookAround, Cond.selects RX3 yX3_lookAround yX3_lookAround, Cond.code yX3_lookAround cX3_lookAround 5 none, Cond.fieldLink RX3 18 "CutOnce$Search" "wanted" "[I", Cond.methodLink RX3 111 yX1_nextTo, Cond.instanceMethod yX1_nextTo, Cond.selects RX1 yX1_nextTo yX1_nextTo, Cond.code yX1_nextTo cX1_nextTo 3 (some .int), Cond.methodLink RX3 108 yX3_fits, Cond.instanceMethod yX3_fits, Cond.selects RX3 yX3_fits yX3_fits, Cond.code yX3_fits cX3_fits 5 (some .boolean)]
def wsX3_findFirst : List Cond := .code yX3_findFirst cX3_findFirst 2 (some .int) :: ((wsX3_findFirst_r1 ++ (wsX3_findFirst_r2 ++ (wsX3_findFirst_r3 ++ wsX3_findFirst_r4))) ++ wsX30 ++ wsX20 ++ wsX10)
def wsX4_init : List Cond := .code yX4_init cX4_init 1 none :: ([.methodLink RX4 3 objectInit, .instanceMethod objectInit, .code objectInit ⟨#[0xb1]⟩ 1 none, .arrayClass .int, .fieldLink RX4 9 "CutOnce$Sheet" "cells" "[I"] ++ wsX40)
def wsX4_isThere : List Cond := .code yX4_isThere cX4_isThere 1 (some .boolean) :: ([.fieldLink RX4 15 "CutOnce$Sheet" "there" "Z"] ++ wsX40)
def wsX4_laneHeld : List Cond := .code yX4_laneHeld cX4_laneHeld 1 (some .int) :: ([.fieldLink RX4 19 "CutOnce$Sheet" "lane" "I"] ++ wsX40)
def wsX4_isOfOther : List Cond := .code yX4_isOfOther cX4_isOfOther 2 (some .boolean) :: ([.fieldLink RX4 15 "CutOnce$Sheet" "there" "Z", .fieldLink RX4 19 "CutOnce$Sheet" "lane" "I"] ++ wsX40)
def wsX4_renew : List Cond := .code yX4_renew cX4_renew 4 none :: ([.fieldLink RX4 15 "CutOnce$Sheet" "there" "Z", .fieldLink RX4 19 "CutOnce$Sheet" "lane" "I", .methodLink RX4 23 Lib.Math.max.name, .static Lib.Math.max.name, .initialized "java/lang/Math", .code Lib.Math.max.name Lib.Math.max.code 2 (some .int), .methodLink RX4 29 Lib.Math.min.name, .static Lib.Math.min.name, .code Lib.Math.min.name Lib.Math.min.code 2 (some .int), .fieldLink RX4 32 "CutOnce$Sheet" "length" "I", .fieldLink RX4 9 "CutOnce$Sheet" "cells" "[I"] ++ wsX40)
def wsX4_drop : List Cond := .code yX4_drop cX4_drop 1 none :: ([.fieldLink RX4 15 "CutOnce$Sheet" "there" "Z", .fieldLink RX4 32 "CutOnce$Sheet" "length" "I"] ++ wsX40)
def wsX4_holds : List Cond := .code yX4_holds cX4_holds 4 (some .boolean) :: ([.fieldLink RX4 32 "CutOnce$Sheet" "length" "I"] ++ wsX40)
def wsX4_read : List Cond := .code yX4_read cX4_read 2 (some .int) :: ([.fieldLink RX4 9 "CutOnce$Sheet" "cells" "[I", .methodLink RX4 35 yX4_holds, .instanceMethod yX4_holds, .selects RX4 yX4_holds yX4_holds, .initialized RX4, .code yX4_holds cX4_holds 4 (some .boolean), .fieldLink RX4 32 "CutOnce$Sheet" "length" "I"] ++ wsX40)
def wsX4_cutToLane : List Cond := .code yX4_cutToLane cX4_cutToLane 2 (some .int) :: ([.fieldLink RX4 19 "CutOnce$Sheet" "lane" "I"] ++ wsX40)
def wsX4_write : List Cond := .code yX4_write cX4_write 3 none :: ([.fieldLink RX4 9 "CutOnce$Sheet" "cells" "[I", .methodLink RX4 35 yX4_holds, .instanceMethod yX4_holds, .selects RX4 yX4_holds yX4_holds, .initialized RX4, .code yX4_holds cX4_holds 4 (some .boolean), .fieldLink RX4 32 "CutOnce$Sheet" "length" "I", .methodLink RX4 39 yX4_cutToLane, .instanceMethod yX4_cutToLane, .selects RX4 yX4_cutToLane yX4_cutToLane, .code yX4_cutToLane cX4_cutToLane 2 (some .int), .fieldLink RX4 19 "CutOnce$Sheet" "lane" "I"] ++ wsX40)
def wsX4_writeFrom : List Cond := .code yX4_writeFrom cX4_writeFrom 5 none :: ([.fieldLink RX4 9 "CutOnce$Sheet" "cells" "[I", .methodLink RX4 43 arraycopyName, .native arraycopyName, .static arraycopyName, .initialized "java/lang/System", .methodLink RX4 35 yX4_holds, .instanceMethod yX4_holds, .selects RX4 yX4_holds yX4_holds, .initialized RX4, .code yX4_holds cX4_holds 4 (some .boolean), .fieldLink RX4 32 "CutOnce$Sheet" "length" "I"] ++ wsX40)
def wsX5_init_r1 : List Cond := [Cond.methodLink RX5 3 objectInit, Cond.instanceMethod objectInit, Cond.code objectInit ⟨#[0xb1]⟩ 1 none, Cond.classLink RX5 9 RX1, Cond.instantiable RX1 4, Cond.initialized RX1, Cond.fieldLink RX5 12 "CutOnce" "thePicture" "LCutOnce$Picture;", Cond.classLink RX5 18 RX2, Cond.instantiable RX2 3, Cond.initialized RX2, Cond.fieldLink RX5 21 "CutOnce" "thePile" "LCutOnce$Pile;", Cond.classLink RX5 25 RX3, Cond.instantiable RX3 13, Cond.initialized RX3, Cond.fieldLink RX5 30 "CutOnce" "theSearch" "LCutOnce$Search;", Cond.classLink RX5 34 RX0, Cond.instantiable RX0 1, Cond.initialized RX0, Cond.fieldLink RX5 37 "CutOnce" "theDraw" "LCutOnce$Draw;", Cond.classLink RX5 41 RX4, Cond.fieldLink RX5 43 "CutOnce" "sheets" "[LCutOnce$Sheet;", Cond.instantiable RX4 4, Cond.initialized RX4, Cond.methodLink RX5 11 yX1_init]
def wsX5_init_r2 : List Cond := [Cond.instanceMethod yX1_init, Cond.code yX1_init cX1_init 1 none, Cond.methodLink RX1 3 objectInit, Cond.arrayClass .int, Cond.fieldLink RX1 9 "CutOnce$Picture" "heights" "[I", Cond.fieldLink RX1 15 "CutOnce$Picture" "sideOfEdge" "[I", Cond.methodLink RX1 18 yX1_cutAnew, Cond.instanceMethod yX1_cutAnew, Cond.selects RX1 yX1_cutAnew yX1_cutAnew, Cond.code yX1_cutAnew cX1_cutAnew 5 none, Cond.fieldLink RX1 22 "CutOnce$Picture" "w" "I", Cond.fieldLink RX1 26 "CutOnce$Picture" "h" "I", Cond.methodLink RX1 29 yX1_layEdges, Cond.instanceMethod yX1_layEdges, Cond.selects RX1 yX1_layEdges yX1_layEdges, Cond.code yX1_layEdges cX1_layEdges 6 none, Cond.instanceMethod yX2_init, Cond.code yX2_init cX2_init 1 none, Cond.methodLink RX2 3 objectInit, Cond.fieldLink RX2 9 "CutOnce$Pile" "pieceOf" "[I", Cond.fieldLink RX2 15 "CutOnce$Pile" "turnOf" "[I", Cond.methodLink RX5 27 yX3_init, Cond.instanceMethod yX3_init, Cond.code yX3_init cX3_init 3 none]
def wsX5_init_r3 : List Cond := [Cond.methodLink RX3 3 objectInit, Cond.fieldLink RX3 9 "CutOnce$Search" "shown" "[I", Cond.fieldLink RX3 15 "CutOnce$Search" "fitting" "[I", Cond.fieldLink RX3 18 "CutOnce$Search" "wanted" "[I", Cond.arrayClass .boolean, Cond.fieldLink RX3 21 "CutOnce$Search" "used" "[Z", Cond.fieldLink RX3 25 "CutOnce$Search" "lying" "[I", Cond.fieldLink RX3 28 "CutOnce$Search" "joinedLying" "[I", Cond.fieldLink RX3 31 "CutOnce$Search" "goal" "LCutOnce$Picture;", Cond.fieldLink RX3 35 "CutOnce$Search" "pile" "LCutOnce$Pile;", Cond.instanceMethod yX0_init, Cond.code yX0_init cX0_init 1 none, Cond.methodLink RX0 1 objectInit, Cond.instanceMethod yX4_init, Cond.code yX4_init cX4_init 1 none, Cond.methodLink RX4 3 objectInit, Cond.fieldLink RX4 9 "CutOnce$Sheet" "cells" "[I"]
def wsX5_init : List Cond := .code yX5_init cX5_init 2 none :: ((wsX5_init_r1 ++ (wsX5_init_r2 ++ wsX5_init_r3)) ++ wsX10 ++ wsX50 ++ wsX20 ++ wsX30 ++ wsX00 ++ wsX40)
def wsX5_picture_r1 : List Cond := [Cond.fieldLink RX5 12 "CutOnce" "thePicture" "LCutOnce$Picture;", Cond.fieldLink RX5 21 "CutOnce" "thePile" "LCutOnce$Pile;", Cond.fieldLink RX5 30 "CutOnce" "theSearch" "LCutOnce$Search;", Cond.methodLink RX5 48 yX1_cutAnew, Cond.instanceMethod yX1_cutAnew, Cond.selects RX1 yX1_cutAnew yX1_cutAnew, Cond.initialized RX1, Cond.code yX1_cutAnew cX1_cutAnew 5 none, Cond.fieldLink RX1 22 "CutOnce$Picture" "w" "I", Cond.fieldLink RX1 26 "CutOnce$Picture" "h" "I", Cond.fieldLink RX1 9 "CutOnce$Picture" "heights" "[I", Cond.methodLink RX1 29 yX1_layEdges, Cond.instanceMethod yX1_layEdges, Cond.selects RX1 yX1_layEdges yX1_layEdges, Cond.code yX1_layEdges cX1_layEdges 6 none, Cond.fieldLink RX1 15 "CutOnce$Picture" "sideOfEdge" "[I", Cond.methodLink RX5 52 yX2_clearAll, Cond.instanceMethod yX2_clearAll, Cond.selects RX2 yX2_clearAll yX2_clearAll, Cond.initialized RX2, Cond.code yX2_clearAll cX2_clearAll 1 none, Cond.fieldLink RX2 18 "CutOnce$Pile" "count" "I", Cond.methodLink RX5 55 yX3_forgetJoined, Cond.instanceMethod yX3_forgetJoined]
def wsX5_picture_r2 : List Cond := [Cond.selects RX3 yX3_forgetJoined yX3_forgetJoined, Cond.initialized RX3, Cond.code yX3_forgetJoined cX3_forgetJoined 1 none, Cond.fieldLink RX3 43 "CutOnce$Search" "joinedOnce" "Z", Cond.methodLink RX5 58 yX1_sides, Cond.instanceMethod yX1_sides, Cond.selects RX1 yX1_sides yX1_sides, Cond.code yX1_sides cX1_sides 1 (some .int)]
def wsX5_picture : List Cond := .code yX5_picture cX5_picture 3 (some .int) :: ((wsX5_picture_r1 ++ wsX5_picture_r2) ++ wsX50 ++ wsX10 ++ wsX20 ++ wsX30)
def wsX5_make_r1 : List Cond := [Cond.fieldLink RX5 37 "CutOnce" "theDraw" "LCutOnce$Draw;", Cond.fieldLink RX5 12 "CutOnce" "thePicture" "LCutOnce$Picture;", Cond.fieldLink RX5 30 "CutOnce" "theSearch" "LCutOnce$Search;", Cond.methodLink RX5 62 yX0_begin, Cond.instanceMethod yX0_begin, Cond.selects RX0 yX0_begin yX0_begin, Cond.initialized RX0, Cond.code yX0_begin cX0_begin 3 none, Cond.fieldLink RX0 7 "CutOnce$Draw" "now" "J", Cond.methodLink RX5 58 yX1_sides, Cond.instanceMethod yX1_sides, Cond.selects RX1 yX1_sides yX1_sides, Cond.initialized RX1, Cond.code yX1_sides cX1_sides 1 (some .int), Cond.fieldLink RX1 22 "CutOnce$Picture" "w" "I", Cond.fieldLink RX1 26 "CutOnce$Picture" "h" "I", Cond.methodLink RX5 66 yX0_below, Cond.instanceMethod yX0_below, Cond.selects RX0 yX0_below yX0_below, Cond.code yX0_below cX0_below 2 (some .int), Cond.constantLong RX0 13 (6364136223846793005), Cond.constantLong RX0 15 (1442695040888963407), Cond.constantLong RX0 17 (2147483647), Cond.constantLong RX0 19 (4096)]
def wsX5_make_r2 : List Cond := [Cond.methodLink RX5 70 yX1_setHeight, Cond.instanceMethod yX1_setHeight, Cond.selects RX1 yX1_setHeight yX1_setHeight, Cond.code yX1_setHeight cX1_setHeight 5 none, Cond.fieldLink RX1 9 "CutOnce$Picture" "heights" "[I", Cond.methodLink RX5 55 yX3_forgetJoined, Cond.instanceMethod yX3_forgetJoined, Cond.selects RX3 yX3_forgetJoined yX3_forgetJoined, Cond.initialized RX3, Cond.code yX3_forgetJoined cX3_forgetJoined 1 none, Cond.fieldLink RX3 43 "CutOnce$Search" "joinedOnce" "Z"]
def wsX5_make : List Cond := .code yX5_make cX5_make 5 (some .int) :: ((wsX5_make_r1 ++ wsX5_make_r2) ++ wsX50 ++ wsX00 ++ wsX10 ++ wsX30)
def wsX5_isHeightPlace : List Cond := .code yX5_isHeightPlace cX5_isHeightPlace 1 (some .boolean) :: ([])
def wsX5_isHeight : List Cond := .code yX5_isHeight cX5_isHeight 1 (some .boolean) :: ([])
def wsX5_bend_r1 : List Cond := [Cond.fieldLink RX5 12 "CutOnce" "thePicture" "LCutOnce$Picture;", Cond.constantLong RX5 84 (-9223372036854775808), Cond.fieldLink RX5 30 "CutOnce" "theSearch" "LCutOnce$Search;", Cond.methodLink RX5 74 yX1_hasSide, Cond.instanceMethod yX1_hasSide, Cond.selects RX1 yX1_hasSide yX1_hasSide, Cond.initialized RX1, Cond.code yX1_hasSide cX1_hasSide 2 (some .boolean), Cond.methodLink RX1 32 yX1_sides, Cond.instanceMethod yX1_sides, Cond.selects RX1 yX1_sides yX1_sides, Cond.code yX1_sides cX1_sides 1 (some .int), Cond.fieldLink RX1 22 "CutOnce$Picture" "w" "I", Cond.fieldLink RX1 26 "CutOnce$Picture" "h" "I", Cond.methodLink RX5 78 yX5_isHeightPlace, Cond.static yX5_isHeightPlace, Cond.initialized RX5, Cond.code yX5_isHeightPlace cX5_isHeightPlace 1 (some .boolean), Cond.methodLink RX5 81 yX5_isHeight, Cond.static yX5_isHeight, Cond.code yX5_isHeight cX5_isHeight 1 (some .boolean), Cond.methodLink RX5 86 yX1_heightAt, Cond.instanceMethod yX1_heightAt, Cond.selects RX1 yX1_heightAt yX1_heightAt]
def wsX5_bend_r2 : List Cond := [Cond.code yX1_heightAt cX1_heightAt 5 (some .int), Cond.fieldLink RX1 9 "CutOnce$Picture" "heights" "[I", Cond.methodLink RX5 70 yX1_setHeight, Cond.instanceMethod yX1_setHeight, Cond.selects RX1 yX1_setHeight yX1_setHeight, Cond.code yX1_setHeight cX1_setHeight 5 none, Cond.methodLink RX5 55 yX3_forgetJoined, Cond.instanceMethod yX3_forgetJoined, Cond.selects RX3 yX3_forgetJoined yX3_forgetJoined, Cond.initialized RX3, Cond.code yX3_forgetJoined cX3_forgetJoined 1 none, Cond.fieldLink RX3 43 "CutOnce$Search" "joinedOnce" "Z"]
def wsX5_bend : List Cond := .code yX5_bend cX5_bend 5 (some .long) :: ((wsX5_bend_r1 ++ wsX5_bend_r2) ++ wsX50 ++ wsX10 ++ wsX30)
def wsX5_height : List Cond := .code yX5_height cX5_height 3 (some .long) :: ([.fieldLink RX5 12 "CutOnce" "thePicture" "LCutOnce$Picture;", .constantLong RX5 84 (-9223372036854775808), .methodLink RX5 74 yX1_hasSide, .instanceMethod yX1_hasSide, .selects RX1 yX1_hasSide yX1_hasSide, .initialized RX1, .code yX1_hasSide cX1_hasSide 2 (some .boolean), .methodLink RX1 32 yX1_sides, .instanceMethod yX1_sides, .selects RX1 yX1_sides yX1_sides, .code yX1_sides cX1_sides 1 (some .int), .fieldLink RX1 22 "CutOnce$Picture" "w" "I", .fieldLink RX1 26 "CutOnce$Picture" "h" "I", .methodLink RX5 78 yX5_isHeightPlace, .static yX5_isHeightPlace, .initialized RX5, .code yX5_isHeightPlace cX5_isHeightPlace 1 (some .boolean), .methodLink RX5 86 yX1_heightAt, .instanceMethod yX1_heightAt, .selects RX1 yX1_heightAt yX1_heightAt, .code yX1_heightAt cX1_heightAt 5 (some .int), .fieldLink RX1 9 "CutOnce$Picture" "heights" "[I"] ++ wsX50 ++ wsX10)
def wsX5_isSheet : List Cond := .code yX5_isSheet cX5_isSheet 1 (some .boolean) :: ([])
def wsX5_isLane : List Cond := .code yX5_isLane cX5_isLane 1 (some .boolean) :: ([])
def wsX5_come : List Cond := .code yX5_come cX5_come 2 (some .int) :: ([.fieldLink RX5 90 "CutOnce" "latestFault" "I"] ++ wsX50)
def wsX5_areHeights : List Cond := .code yX5_areHeights cX5_areHeights 4 (some .boolean) :: ([.methodLink RX5 234 yX4_read, .instanceMethod yX4_read, .selects RX4 yX4_read yX4_read, .initialized RX4, .code yX4_read cX4_read 2 (some .int), .fieldLink RX4 9 "CutOnce$Sheet" "cells" "[I", .methodLink RX4 35 yX4_holds, .instanceMethod yX4_holds, .selects RX4 yX4_holds yX4_holds, .code yX4_holds cX4_holds 4 (some .boolean), .fieldLink RX4 32 "CutOnce$Sheet" "length" "I", .methodLink RX5 81 yX5_isHeight, .static yX5_isHeight, .initialized RX5, .code yX5_isHeight cX5_isHeight 1 (some .boolean)] ++ wsX40)
def wsX5_shapeFrom : List Cond := .code yX5_shapeFrom cX5_shapeFrom 7 none :: ([.fieldLink RX5 12 "CutOnce" "thePicture" "LCutOnce$Picture;", .methodLink RX5 234 yX4_read, .instanceMethod yX4_read, .selects RX4 yX4_read yX4_read, .initialized RX4, .code yX4_read cX4_read 2 (some .int), .fieldLink RX4 9 "CutOnce$Sheet" "cells" "[I", .methodLink RX4 35 yX4_holds, .instanceMethod yX4_holds, .selects RX4 yX4_holds yX4_holds, .code yX4_holds cX4_holds 4 (some .boolean), .fieldLink RX4 32 "CutOnce$Sheet" "length" "I", .methodLink RX5 70 yX1_setHeight, .instanceMethod yX1_setHeight, .selects RX1 yX1_setHeight yX1_setHeight, .initialized RX1, .code yX1_setHeight cX1_setHeight 5 none, .fieldLink RX1 9 "CutOnce$Picture" "heights" "[I"] ++ wsX50 ++ wsX40 ++ wsX10)
def wsX5_shape_r1 : List Cond := [Cond.fieldLink RX5 90 "CutOnce" "latestFault" "I", Cond.fieldLink RX5 12 "CutOnce" "thePicture" "LCutOnce$Picture;", Cond.fieldLink RX5 43 "CutOnce" "sheets" "[LCutOnce$Sheet;", Cond.constantLong RX5 110 (5), Cond.fieldLink RX5 30 "CutOnce" "theSearch" "LCutOnce$Search;", Cond.methodLink RX5 94 yX5_isSheet, Cond.static yX5_isSheet, Cond.initialized RX5, Cond.code yX5_isSheet cX5_isSheet 1 (some .boolean), Cond.methodLink RX5 74 yX1_hasSide, Cond.instanceMethod yX1_hasSide, Cond.selects RX1 yX1_hasSide yX1_hasSide, Cond.initialized RX1, Cond.code yX1_hasSide cX1_hasSide 2 (some .boolean), Cond.methodLink RX1 32 yX1_sides, Cond.instanceMethod yX1_sides, Cond.selects RX1 yX1_sides yX1_sides, Cond.code yX1_sides cX1_sides 1 (some .int), Cond.fieldLink RX1 22 "CutOnce$Picture" "w" "I", Cond.fieldLink RX1 26 "CutOnce$Picture" "h" "I", Cond.methodLink RX5 97 yX5_isLane, Cond.static yX5_isLane, Cond.code yX5_isLane cX5_isLane 1 (some .boolean), Cond.methodLink RX5 100 yX4_isOfOther]
def wsX5_shape_r2 : List Cond := [Cond.instanceMethod yX4_isOfOther, Cond.selects RX4 yX4_isOfOther yX4_isOfOther, Cond.initialized RX4, Cond.code yX4_isOfOther cX4_isOfOther 2 (some .boolean), Cond.fieldLink RX4 15 "CutOnce$Sheet" "there" "Z", Cond.fieldLink RX4 19 "CutOnce$Sheet" "lane" "I", Cond.methodLink RX5 103 yX5_come, Cond.instanceMethod yX5_come, Cond.selects RX5 yX5_come yX5_come, Cond.code yX5_come cX5_come 2 (some .int), Cond.methodLink RX5 106 yX4_isThere, Cond.instanceMethod yX4_isThere, Cond.selects RX4 yX4_isThere yX4_isThere, Cond.code yX4_isThere cX4_isThere 1 (some .boolean), Cond.methodLink RX5 112 yX4_holds, Cond.instanceMethod yX4_holds, Cond.selects RX4 yX4_holds yX4_holds, Cond.code yX4_holds cX4_holds 4 (some .boolean), Cond.fieldLink RX4 32 "CutOnce$Sheet" "length" "I", Cond.methodLink RX5 58 yX1_sides, Cond.methodLink RX5 116 yX5_areHeights, Cond.static yX5_areHeights, Cond.code yX5_areHeights cX5_areHeights 4 (some .boolean), Cond.methodLink RX5 234 yX4_read]
def wsX5_shape_r3 : List Cond := [Cond.instanceMethod yX4_read, Cond.selects RX4 yX4_read yX4_read, Cond.code yX4_read cX4_read 2 (some .int), Cond.fieldLink RX4 9 "CutOnce$Sheet" "cells" "[I", Cond.methodLink RX4 35 yX4_holds, Cond.methodLink RX5 81 yX5_isHeight, Cond.static yX5_isHeight, Cond.code yX5_isHeight cX5_isHeight 1 (some .boolean), Cond.methodLink RX5 120 yX5_shapeFrom, Cond.instanceMethod yX5_shapeFrom, Cond.selects RX5 yX5_shapeFrom yX5_shapeFrom, Cond.code yX5_shapeFrom cX5_shapeFrom 7 none, Cond.methodLink RX5 70 yX1_setHeight, Cond.instanceMethod yX1_setHeight, Cond.selects RX1 yX1_setHeight yX1_setHeight, Cond.code yX1_setHeight cX1_setHeight 5 none, Cond.fieldLink RX1 9 "CutOnce$Picture" "heights" "[I", Cond.methodLink RX5 55 yX3_forgetJoined, Cond.instanceMethod yX3_forgetJoined, Cond.selects RX3 yX3_forgetJoined yX3_forgetJoined, Cond.initialized RX3, Cond.code yX3_forgetJoined cX3_forgetJoined 1 none, Cond.fieldLink RX3 43 "CutOnce$Search" "joinedOnce" "Z"]
def wsX5_shape : List Cond := .code yX5_shape cX5_shape 7 (some .int) :: ((wsX5_shape_r1 ++ (wsX5_shape_r2 ++ wsX5_shape_r3)) ++ wsX50 ++ wsX10 ++ wsX40 ++ wsX30)
def wsX5_sideOf : List Cond := .code yX5_sideOf cX5_sideOf 3 (some .int) :: ([.fieldLink RX5 12 "CutOnce" "thePicture" "LCutOnce$Picture;", .methodLink RX5 124 yX1_hasEdge, .instanceMethod yX1_hasEdge, .selects RX1 yX1_hasEdge yX1_hasEdge, .initialized RX1, .code yX1_hasEdge cX1_hasEdge 3 (some .boolean), .methodLink RX1 39 yX1_hasPiece, .instanceMethod yX1_hasPiece, .selects RX1 yX1_hasPiece yX1_hasPiece, .code yX1_hasPiece cX1_hasPiece 2 (some .boolean), .methodLink RX1 36 yX1_pieces, .instanceMethod yX1_pieces, .selects RX1 yX1_pieces yX1_pieces, .code yX1_pieces cX1_pieces 1 (some .int), .fieldLink RX1 22 "CutOnce$Picture" "w" "I", .fieldLink RX1 26 "CutOnce$Picture" "h" "I", .methodLink RX5 128 yX1_sideAt, .instanceMethod yX1_sideAt, .selects RX1 yX1_sideAt yX1_sideAt, .code yX1_sideAt cX1_sideAt 4 (some .int), .fieldLink RX1 15 "CutOnce$Picture" "sideOfEdge" "[I"] ++ wsX50 ++ wsX10)
def wsX5_edge_r1 : List Cond := [Cond.fieldLink RX5 12 "CutOnce" "thePicture" "LCutOnce$Picture;", Cond.constantLong RX5 84 (-9223372036854775808), Cond.methodLink RX5 124 yX1_hasEdge, Cond.instanceMethod yX1_hasEdge, Cond.selects RX1 yX1_hasEdge yX1_hasEdge, Cond.initialized RX1, Cond.code yX1_hasEdge cX1_hasEdge 3 (some .boolean), Cond.methodLink RX1 39 yX1_hasPiece, Cond.instanceMethod yX1_hasPiece, Cond.selects RX1 yX1_hasPiece yX1_hasPiece, Cond.code yX1_hasPiece cX1_hasPiece 2 (some .boolean), Cond.methodLink RX1 36 yX1_pieces, Cond.instanceMethod yX1_pieces, Cond.selects RX1 yX1_pieces yX1_pieces, Cond.code yX1_pieces cX1_pieces 1 (some .int), Cond.fieldLink RX1 22 "CutOnce$Picture" "w" "I", Cond.fieldLink RX1 26 "CutOnce$Picture" "h" "I", Cond.methodLink RX5 78 yX5_isHeightPlace, Cond.static yX5_isHeightPlace, Cond.initialized RX5, Cond.code yX5_isHeightPlace cX5_isHeightPlace 1 (some .boolean), Cond.methodLink RX5 132 yX1_isFlat, Cond.instanceMethod yX1_isFlat, Cond.selects RX1 yX1_isFlat yX1_isFlat]
def wsX5_edge_r2 : List Cond := [Cond.code yX1_isFlat cX1_isFlat 3 (some .boolean), Cond.methodLink RX1 43 yX1_sideAt, Cond.instanceMethod yX1_sideAt, Cond.selects RX1 yX1_sideAt yX1_sideAt, Cond.code yX1_sideAt cX1_sideAt 4 (some .int), Cond.fieldLink RX1 15 "CutOnce$Picture" "sideOfEdge" "[I", Cond.methodLink RX5 135 yX1_edgeHeight, Cond.instanceMethod yX1_edgeHeight, Cond.selects RX1 yX1_edgeHeight yX1_edgeHeight, Cond.code yX1_edgeHeight cX1_edgeHeight 5 (some .int), Cond.methodLink RX1 47 yX1_heightAt, Cond.instanceMethod yX1_heightAt, Cond.selects RX1 yX1_heightAt yX1_heightAt, Cond.code yX1_heightAt cX1_heightAt 5 (some .int), Cond.fieldLink RX1 9 "CutOnce$Picture" "heights" "[I"]
def wsX5_edge : List Cond := .code yX5_edge cX5_edge 4 (some .long) :: ((wsX5_edge_r1 ++ wsX5_edge_r2) ++ wsX50 ++ wsX10)
def wsX5_far_r1 : List Cond := [Cond.fieldLink RX5 12 "CutOnce" "thePicture" "LCutOnce$Picture;", Cond.methodLink RX5 124 yX1_hasEdge, Cond.instanceMethod yX1_hasEdge, Cond.selects RX1 yX1_hasEdge yX1_hasEdge, Cond.initialized RX1, Cond.code yX1_hasEdge cX1_hasEdge 3 (some .boolean), Cond.methodLink RX1 39 yX1_hasPiece, Cond.instanceMethod yX1_hasPiece, Cond.selects RX1 yX1_hasPiece yX1_hasPiece, Cond.code yX1_hasPiece cX1_hasPiece 2 (some .boolean), Cond.methodLink RX1 36 yX1_pieces, Cond.instanceMethod yX1_pieces, Cond.selects RX1 yX1_pieces yX1_pieces, Cond.code yX1_pieces cX1_pieces 1 (some .int), Cond.fieldLink RX1 22 "CutOnce$Picture" "w" "I", Cond.fieldLink RX1 26 "CutOnce$Picture" "h" "I", Cond.methodLink RX5 132 yX1_isFlat, Cond.instanceMethod yX1_isFlat, Cond.selects RX1 yX1_isFlat yX1_isFlat, Cond.code yX1_isFlat cX1_isFlat 3 (some .boolean), Cond.methodLink RX1 43 yX1_sideAt, Cond.instanceMethod yX1_sideAt, Cond.selects RX1 yX1_sideAt yX1_sideAt, Cond.code yX1_sideAt cX1_sideAt 4 (some .int)]
def wsX5_far_r2 : List Cond := [Cond.fieldLink RX1 15 "CutOnce$Picture" "sideOfEdge" "[I", Cond.methodLink RX5 138 yX1_farness, Cond.instanceMethod yX1_farness, Cond.selects RX1 yX1_farness yX1_farness, Cond.code yX1_farness cX1_farness 7 (some .int), Cond.methodLink RX1 54 Lib.Math.abs.name, Cond.static Lib.Math.abs.name, Cond.initialized "java/lang/Math", Cond.code Lib.Math.abs.name Lib.Math.abs.code 1 (some .int), Cond.methodLink RX1 51 yX1_edgeHeight, Cond.instanceMethod yX1_edgeHeight, Cond.selects RX1 yX1_edgeHeight yX1_edgeHeight, Cond.code yX1_edgeHeight cX1_edgeHeight 5 (some .int), Cond.methodLink RX1 47 yX1_heightAt, Cond.instanceMethod yX1_heightAt, Cond.selects RX1 yX1_heightAt yX1_heightAt, Cond.code yX1_heightAt cX1_heightAt 5 (some .int), Cond.fieldLink RX1 9 "CutOnce$Picture" "heights" "[I"]
def wsX5_far : List Cond := .code yX5_far cX5_far 5 (some .int) :: ((wsX5_far_r1 ++ wsX5_far_r2) ++ wsX50 ++ wsX10)
def wsX5_kind_r1 : List Cond := [Cond.fieldLink RX5 12 "CutOnce" "thePicture" "LCutOnce$Picture;", Cond.methodLink RX5 74 yX1_hasSide, Cond.instanceMethod yX1_hasSide, Cond.selects RX1 yX1_hasSide yX1_hasSide, Cond.initialized RX1, Cond.code yX1_hasSide cX1_hasSide 2 (some .boolean), Cond.methodLink RX1 32 yX1_sides, Cond.instanceMethod yX1_sides, Cond.selects RX1 yX1_sides yX1_sides, Cond.code yX1_sides cX1_sides 1 (some .int), Cond.fieldLink RX1 22 "CutOnce$Picture" "w" "I", Cond.fieldLink RX1 26 "CutOnce$Picture" "h" "I", Cond.methodLink RX5 142 yX1_kindAt, Cond.instanceMethod yX1_kindAt, Cond.selects RX1 yX1_kindAt yX1_kindAt, Cond.code yX1_kindAt cX1_kindAt 3 (some .int), Cond.methodLink RX1 60 yX1_bulges, Cond.instanceMethod yX1_bulges, Cond.selects RX1 yX1_bulges yX1_bulges, Cond.code yX1_bulges cX1_bulges 6 (some .boolean), Cond.methodLink RX1 47 yX1_heightAt, Cond.instanceMethod yX1_heightAt, Cond.selects RX1 yX1_heightAt yX1_heightAt, Cond.code yX1_heightAt cX1_heightAt 5 (some .int)]
def wsX5_kind_r2 : List Cond := [Cond.fieldLink RX1 9 "CutOnce$Picture" "heights" "[I", Cond.methodLink RX1 63 yX1_differing, Cond.instanceMethod yX1_differing, Cond.selects RX1 yX1_differing yX1_differing, Cond.code yX1_differing cX1_differing 6 (some .int)]
def wsX5_kind : List Cond := .code yX5_kind cX5_kind 2 (some .int) :: ((wsX5_kind_r1 ++ wsX5_kind_r2) ++ wsX50 ++ wsX10)
def wsX5_unlike_r1 : List Cond := [Cond.fieldLink RX5 12 "CutOnce" "thePicture" "LCutOnce$Picture;", Cond.methodLink RX5 145 yX1_leastFar, Cond.instanceMethod yX1_leastFar, Cond.selects RX1 yX1_leastFar yX1_leastFar, Cond.initialized RX1, Cond.code yX1_leastFar cX1_leastFar 5 (some .int), Cond.methodLink RX1 36 yX1_pieces, Cond.instanceMethod yX1_pieces, Cond.selects RX1 yX1_pieces yX1_pieces, Cond.code yX1_pieces cX1_pieces 1 (some .int), Cond.fieldLink RX1 22 "CutOnce$Picture" "w" "I", Cond.fieldLink RX1 26 "CutOnce$Picture" "h" "I", Cond.methodLink RX1 70 yX1_strangersApart, Cond.instanceMethod yX1_strangersApart, Cond.selects RX1 yX1_strangersApart yX1_strangersApart, Cond.code yX1_strangersApart cX1_strangersApart 7 (some .int), Cond.methodLink RX1 73 yX1_isFlat, Cond.instanceMethod yX1_isFlat, Cond.selects RX1 yX1_isFlat yX1_isFlat, Cond.code yX1_isFlat cX1_isFlat 3 (some .boolean), Cond.methodLink RX1 43 yX1_sideAt, Cond.instanceMethod yX1_sideAt, Cond.selects RX1 yX1_sideAt yX1_sideAt, Cond.code yX1_sideAt cX1_sideAt 4 (some .int)]
def wsX5_unlike_r2 : List Cond := [Cond.fieldLink RX1 15 "CutOnce$Picture" "sideOfEdge" "[I", Cond.methodLink RX1 77 yX1_farness, Cond.instanceMethod yX1_farness, Cond.selects RX1 yX1_farness yX1_farness, Cond.code yX1_farness cX1_farness 7 (some .int), Cond.methodLink RX1 54 Lib.Math.abs.name, Cond.static Lib.Math.abs.name, Cond.initialized "java/lang/Math", Cond.code Lib.Math.abs.name Lib.Math.abs.code 1 (some .int), Cond.methodLink RX1 51 yX1_edgeHeight, Cond.instanceMethod yX1_edgeHeight, Cond.selects RX1 yX1_edgeHeight yX1_edgeHeight, Cond.code yX1_edgeHeight cX1_edgeHeight 5 (some .int), Cond.methodLink RX1 47 yX1_heightAt, Cond.instanceMethod yX1_heightAt, Cond.selects RX1 yX1_heightAt yX1_heightAt, Cond.code yX1_heightAt cX1_heightAt 5 (some .int), Cond.fieldLink RX1 9 "CutOnce$Picture" "heights" "[I"]
def wsX5_unlike : List Cond := .code yX5_unlike cX5_unlike 2 (some .int) :: ((wsX5_unlike_r1 ++ wsX5_unlike_r2) ++ wsX50 ++ wsX10)
def wsX5_traps_r1 : List Cond := [Cond.fieldLink RX5 12 "CutOnce" "thePicture" "LCutOnce$Picture;", Cond.methodLink RX5 148 yX1_pairsWithin, Cond.instanceMethod yX1_pairsWithin, Cond.selects RX1 yX1_pairsWithin yX1_pairsWithin, Cond.initialized RX1, Cond.code yX1_pairsWithin cX1_pairsWithin 6 (some .int), Cond.methodLink RX1 36 yX1_pieces, Cond.instanceMethod yX1_pieces, Cond.selects RX1 yX1_pieces yX1_pieces, Cond.code yX1_pieces cX1_pieces 1 (some .int), Cond.fieldLink RX1 22 "CutOnce$Picture" "w" "I", Cond.fieldLink RX1 26 "CutOnce$Picture" "h" "I", Cond.methodLink RX1 70 yX1_strangersApart, Cond.instanceMethod yX1_strangersApart, Cond.selects RX1 yX1_strangersApart yX1_strangersApart, Cond.code yX1_strangersApart cX1_strangersApart 7 (some .int), Cond.methodLink RX1 73 yX1_isFlat, Cond.instanceMethod yX1_isFlat, Cond.selects RX1 yX1_isFlat yX1_isFlat, Cond.code yX1_isFlat cX1_isFlat 3 (some .boolean), Cond.methodLink RX1 43 yX1_sideAt, Cond.instanceMethod yX1_sideAt, Cond.selects RX1 yX1_sideAt yX1_sideAt, Cond.code yX1_sideAt cX1_sideAt 4 (some .int)]
def wsX5_traps_r2 : List Cond := [Cond.fieldLink RX1 15 "CutOnce$Picture" "sideOfEdge" "[I", Cond.methodLink RX1 77 yX1_farness, Cond.instanceMethod yX1_farness, Cond.selects RX1 yX1_farness yX1_farness, Cond.code yX1_farness cX1_farness 7 (some .int), Cond.methodLink RX1 54 Lib.Math.abs.name, Cond.static Lib.Math.abs.name, Cond.initialized "java/lang/Math", Cond.code Lib.Math.abs.name Lib.Math.abs.code 1 (some .int), Cond.methodLink RX1 51 yX1_edgeHeight, Cond.instanceMethod yX1_edgeHeight, Cond.selects RX1 yX1_edgeHeight yX1_edgeHeight, Cond.code yX1_edgeHeight cX1_edgeHeight 5 (some .int), Cond.methodLink RX1 47 yX1_heightAt, Cond.instanceMethod yX1_heightAt, Cond.selects RX1 yX1_heightAt yX1_heightAt, Cond.code yX1_heightAt cX1_heightAt 5 (some .int), Cond.fieldLink RX1 9 "CutOnce$Picture" "heights" "[I"]
def wsX5_traps : List Cond := .code yX5_traps cX5_traps 2 (some .int) :: ((wsX5_traps_r1 ++ wsX5_traps_r2) ++ wsX50 ++ wsX10)
def wsX5_alike_r1 : List Cond := [Cond.fieldLink RX5 12 "CutOnce" "thePicture" "LCutOnce$Picture;", Cond.fieldLink RX5 30 "CutOnce" "theSearch" "LCutOnce$Search;", Cond.methodLink RX5 74 yX1_hasSide, Cond.instanceMethod yX1_hasSide, Cond.selects RX1 yX1_hasSide yX1_hasSide, Cond.initialized RX1, Cond.code yX1_hasSide cX1_hasSide 2 (some .boolean), Cond.methodLink RX1 32 yX1_sides, Cond.instanceMethod yX1_sides, Cond.selects RX1 yX1_sides yX1_sides, Cond.code yX1_sides cX1_sides 1 (some .int), Cond.fieldLink RX1 22 "CutOnce$Picture" "w" "I", Cond.fieldLink RX1 26 "CutOnce$Picture" "h" "I", Cond.methodLink RX5 55 yX3_forgetJoined, Cond.instanceMethod yX3_forgetJoined, Cond.selects RX3 yX3_forgetJoined yX3_forgetJoined, Cond.initialized RX3, Cond.code yX3_forgetJoined cX3_forgetJoined 1 none, Cond.fieldLink RX3 43 "CutOnce$Search" "joinedOnce" "Z", Cond.methodLink RX5 151 yX1_giveShape, Cond.instanceMethod yX1_giveShape, Cond.selects RX1 yX1_giveShape yX1_giveShape, Cond.code yX1_giveShape cX1_giveShape 6 (some .int), Cond.methodLink RX1 63 yX1_differing]
def wsX5_alike_r2 : List Cond := [Cond.instanceMethod yX1_differing, Cond.selects RX1 yX1_differing yX1_differing, Cond.code yX1_differing cX1_differing 6 (some .int), Cond.methodLink RX1 47 yX1_heightAt, Cond.instanceMethod yX1_heightAt, Cond.selects RX1 yX1_heightAt yX1_heightAt, Cond.code yX1_heightAt cX1_heightAt 5 (some .int), Cond.fieldLink RX1 9 "CutOnce$Picture" "heights" "[I", Cond.methodLink RX1 66 yX1_setHeight, Cond.instanceMethod yX1_setHeight, Cond.selects RX1 yX1_setHeight yX1_setHeight, Cond.code yX1_setHeight cX1_setHeight 5 none]
def wsX5_alike : List Cond := .code yX5_alike cX5_alike 4 (some .int) :: ((wsX5_alike_r1 ++ wsX5_alike_r2) ++ wsX50 ++ wsX10 ++ wsX30)
def wsX5_lay_r1 : List Cond := [Cond.fieldLink RX5 12 "CutOnce" "thePicture" "LCutOnce$Picture;", Cond.fieldLink RX5 21 "CutOnce" "thePile" "LCutOnce$Pile;", Cond.fieldLink RX5 30 "CutOnce" "theSearch" "LCutOnce$Search;", Cond.methodLink RX5 154 yX1_hasPiece, Cond.instanceMethod yX1_hasPiece, Cond.selects RX1 yX1_hasPiece yX1_hasPiece, Cond.initialized RX1, Cond.code yX1_hasPiece cX1_hasPiece 2 (some .boolean), Cond.methodLink RX1 36 yX1_pieces, Cond.instanceMethod yX1_pieces, Cond.selects RX1 yX1_pieces yX1_pieces, Cond.code yX1_pieces cX1_pieces 1 (some .int), Cond.fieldLink RX1 22 "CutOnce$Picture" "w" "I", Cond.fieldLink RX1 26 "CutOnce$Picture" "h" "I", Cond.methodLink RX5 157 yX2_isFull, Cond.instanceMethod yX2_isFull, Cond.selects RX2 yX2_isFull yX2_isFull, Cond.initialized RX2, Cond.code yX2_isFull cX2_isFull 1 (some .boolean), Cond.fieldLink RX2 18 "CutOnce$Pile" "count" "I", Cond.methodLink RX5 160 yX2_append, Cond.instanceMethod yX2_append, Cond.selects RX2 yX2_append yX2_append, Cond.code yX2_append cX2_append 3 none]
def wsX5_lay_r2 : List Cond := [Cond.fieldLink RX2 9 "CutOnce$Pile" "pieceOf" "[I", Cond.fieldLink RX2 15 "CutOnce$Pile" "turnOf" "[I", Cond.methodLink RX2 26 yX2_isFull, Cond.methodLink RX5 55 yX3_forgetJoined, Cond.instanceMethod yX3_forgetJoined, Cond.selects RX3 yX3_forgetJoined yX3_forgetJoined, Cond.initialized RX3, Cond.code yX3_forgetJoined cX3_forgetJoined 1 none, Cond.fieldLink RX3 43 "CutOnce$Search" "joinedOnce" "Z", Cond.methodLink RX5 163 yX2_size, Cond.instanceMethod yX2_size, Cond.selects RX2 yX2_size yX2_size, Cond.code yX2_size cX2_size 1 (some .int)]
def wsX5_lay : List Cond := .code yX5_lay cX5_lay 3 (some .int) :: ((wsX5_lay_r1 ++ wsX5_lay_r2) ++ wsX50 ++ wsX10 ++ wsX20 ++ wsX30)
def wsX5_heap_r1 : List Cond := [Cond.fieldLink RX5 21 "CutOnce" "thePile" "LCutOnce$Pile;", Cond.fieldLink RX5 12 "CutOnce" "thePicture" "LCutOnce$Picture;", Cond.fieldLink RX5 37 "CutOnce" "theDraw" "LCutOnce$Draw;", Cond.fieldLink RX5 30 "CutOnce" "theSearch" "LCutOnce$Search;", Cond.methodLink RX5 52 yX2_clearAll, Cond.instanceMethod yX2_clearAll, Cond.selects RX2 yX2_clearAll yX2_clearAll, Cond.initialized RX2, Cond.code yX2_clearAll cX2_clearAll 1 none, Cond.fieldLink RX2 18 "CutOnce$Pile" "count" "I", Cond.methodLink RX5 166 yX1_pieces, Cond.instanceMethod yX1_pieces, Cond.selects RX1 yX1_pieces yX1_pieces, Cond.initialized RX1, Cond.code yX1_pieces cX1_pieces 1 (some .int), Cond.fieldLink RX1 22 "CutOnce$Picture" "w" "I", Cond.fieldLink RX1 26 "CutOnce$Picture" "h" "I", Cond.methodLink RX5 160 yX2_append, Cond.instanceMethod yX2_append, Cond.selects RX2 yX2_append yX2_append, Cond.code yX2_append cX2_append 3 none, Cond.fieldLink RX2 9 "CutOnce$Pile" "pieceOf" "[I", Cond.fieldLink RX2 15 "CutOnce$Pile" "turnOf" "[I", Cond.methodLink RX2 26 yX2_isFull]
def wsX5_heap_r2 : List Cond := [Cond.instanceMethod yX2_isFull, Cond.selects RX2 yX2_isFull yX2_isFull, Cond.code yX2_isFull cX2_isFull 1 (some .boolean), Cond.methodLink RX5 62 yX0_begin, Cond.instanceMethod yX0_begin, Cond.selects RX0 yX0_begin yX0_begin, Cond.initialized RX0, Cond.code yX0_begin cX0_begin 3 none, Cond.fieldLink RX0 7 "CutOnce$Draw" "now" "J", Cond.methodLink RX5 163 yX2_size, Cond.instanceMethod yX2_size, Cond.selects RX2 yX2_size yX2_size, Cond.code yX2_size cX2_size 1 (some .int), Cond.methodLink RX5 66 yX0_below, Cond.instanceMethod yX0_below, Cond.selects RX0 yX0_below yX0_below, Cond.code yX0_below cX0_below 2 (some .int), Cond.constantLong RX0 13 (6364136223846793005), Cond.constantLong RX0 15 (1442695040888963407), Cond.constantLong RX0 17 (2147483647), Cond.constantLong RX0 19 (4096), Cond.methodLink RX5 169 yX2_swapPieces, Cond.instanceMethod yX2_swapPieces, Cond.selects RX2 yX2_swapPieces yX2_swapPieces]
def wsX5_heap_r3 : List Cond := [Cond.code yX2_swapPieces cX2_swapPieces 4 none, Cond.methodLink RX2 22 yX2_hasPlace, Cond.instanceMethod yX2_hasPlace, Cond.selects RX2 yX2_hasPlace yX2_hasPlace, Cond.code yX2_hasPlace cX2_hasPlace 2 (some .boolean), Cond.methodLink RX5 172 yX2_setTurn, Cond.instanceMethod yX2_setTurn, Cond.selects RX2 yX2_setTurn yX2_setTurn, Cond.code yX2_setTurn cX2_setTurn 3 none, Cond.methodLink RX5 55 yX3_forgetJoined, Cond.instanceMethod yX3_forgetJoined, Cond.selects RX3 yX3_forgetJoined yX3_forgetJoined, Cond.initialized RX3, Cond.code yX3_forgetJoined cX3_forgetJoined 1 none, Cond.fieldLink RX3 43 "CutOnce$Search" "joinedOnce" "Z"]
def wsX5_heap : List Cond := .code yX5_heap cX5_heap 4 (some .int) :: ((wsX5_heap_r1 ++ (wsX5_heap_r2 ++ wsX5_heap_r3)) ++ wsX50 ++ wsX20 ++ wsX10 ++ wsX00 ++ wsX30)
def wsX5_take_r1 : List Cond := [Cond.fieldLink RX5 21 "CutOnce" "thePile" "LCutOnce$Pile;", Cond.fieldLink RX5 30 "CutOnce" "theSearch" "LCutOnce$Search;", Cond.methodLink RX5 175 yX2_hasPlace, Cond.instanceMethod yX2_hasPlace, Cond.selects RX2 yX2_hasPlace yX2_hasPlace, Cond.initialized RX2, Cond.code yX2_hasPlace cX2_hasPlace 2 (some .boolean), Cond.fieldLink RX2 18 "CutOnce$Pile" "count" "I", Cond.methodLink RX5 178 yX2_pieceAt, Cond.instanceMethod yX2_pieceAt, Cond.selects RX2 yX2_pieceAt yX2_pieceAt, Cond.code yX2_pieceAt cX2_pieceAt 2 (some .int), Cond.fieldLink RX2 9 "CutOnce$Pile" "pieceOf" "[I", Cond.methodLink RX2 22 yX2_hasPlace, Cond.methodLink RX5 181 yX2_removeAt, Cond.instanceMethod yX2_removeAt, Cond.selects RX2 yX2_removeAt yX2_removeAt, Cond.code yX2_removeAt cX2_removeAt 3 none, Cond.fieldLink RX2 15 "CutOnce$Pile" "turnOf" "[I", Cond.methodLink RX5 55 yX3_forgetJoined, Cond.instanceMethod yX3_forgetJoined, Cond.selects RX3 yX3_forgetJoined yX3_forgetJoined, Cond.initialized RX3, Cond.code yX3_forgetJoined cX3_forgetJoined 1 none]
def wsX5_take_r2 : List Cond := [Cond.fieldLink RX3 43 "CutOnce$Search" "joinedOnce" "Z"]
def wsX5_take : List Cond := .code yX5_take cX5_take 3 (some .int) :: ((wsX5_take_r1 ++ wsX5_take_r2) ++ wsX50 ++ wsX20 ++ wsX30)
def wsX5_heaped : List Cond := .code yX5_heaped cX5_heaped 3 (some .int) :: ([.fieldLink RX5 21 "CutOnce" "thePile" "LCutOnce$Pile;", .methodLink RX5 175 yX2_hasPlace, .instanceMethod yX2_hasPlace, .selects RX2 yX2_hasPlace yX2_hasPlace, .initialized RX2, .code yX2_hasPlace cX2_hasPlace 2 (some .boolean), .fieldLink RX2 18 "CutOnce$Pile" "count" "I", .methodLink RX5 178 yX2_pieceAt, .instanceMethod yX2_pieceAt, .selects RX2 yX2_pieceAt yX2_pieceAt, .code yX2_pieceAt cX2_pieceAt 2 (some .int), .fieldLink RX2 9 "CutOnce$Pile" "pieceOf" "[I", .methodLink RX2 22 yX2_hasPlace, .methodLink RX5 185 yX2_turnAt, .instanceMethod yX2_turnAt, .selects RX2 yX2_turnAt yX2_turnAt, .code yX2_turnAt cX2_turnAt 2 (some .int), .fieldLink RX2 15 "CutOnce$Pile" "turnOf" "[I"] ++ wsX50 ++ wsX20)
def wsX5_isMissingWhat : List Cond := .code yX5_isMissingWhat cX5_isMissingWhat 1 (some .boolean) :: ([])
def wsX5_isMissing : List Cond := .code yX5_isMissing cX5_isMissing 4 (some .boolean) :: ([.fieldLink RX5 21 "CutOnce" "thePile" "LCutOnce$Pile;", .methodLink RX5 215 yX2_timesOf, .instanceMethod yX2_timesOf, .selects RX2 yX2_timesOf yX2_timesOf, .initialized RX2, .code yX2_timesOf cX2_timesOf 4 (some .int), .fieldLink RX2 18 "CutOnce$Pile" "count" "I", .fieldLink RX2 9 "CutOnce$Pile" "pieceOf" "[I"] ++ wsX50 ++ wsX20)
def wsX5_countMissing : List Cond := .code yX5_countMissing cX5_countMissing 4 (some .int) :: ([.fieldLink RX5 12 "CutOnce" "thePicture" "LCutOnce$Picture;", .methodLink RX5 166 yX1_pieces, .instanceMethod yX1_pieces, .selects RX1 yX1_pieces yX1_pieces, .initialized RX1, .code yX1_pieces cX1_pieces 1 (some .int), .fieldLink RX1 22 "CutOnce$Picture" "w" "I", .fieldLink RX1 26 "CutOnce$Picture" "h" "I", .methodLink RX5 258 yX5_isMissing, .instanceMethod yX5_isMissing, .selects RX5 yX5_isMissing yX5_isMissing, .initialized RX5, .code yX5_isMissing cX5_isMissing 4 (some .boolean), .fieldLink RX5 21 "CutOnce" "thePile" "LCutOnce$Pile;", .methodLink RX5 215 yX2_timesOf, .instanceMethod yX2_timesOf, .selects RX2 yX2_timesOf yX2_timesOf, .initialized RX2, .code yX2_timesOf cX2_timesOf 4 (some .int), .fieldLink RX2 18 "CutOnce$Pile" "count" "I", .fieldLink RX2 9 "CutOnce$Pile" "pieceOf" "[I"] ++ wsX50 ++ wsX10 ++ wsX20)
def wsX5_missing_r1 : List Cond := [Cond.methodLink RX5 188 yX5_isMissingWhat, Cond.static yX5_isMissingWhat, Cond.initialized RX5, Cond.code yX5_isMissingWhat cX5_isMissingWhat 1 (some .boolean), Cond.methodLink RX5 191 yX5_countMissing, Cond.instanceMethod yX5_countMissing, Cond.selects RX5 yX5_countMissing yX5_countMissing, Cond.code yX5_countMissing cX5_countMissing 4 (some .int), Cond.fieldLink RX5 12 "CutOnce" "thePicture" "LCutOnce$Picture;", Cond.methodLink RX5 166 yX1_pieces, Cond.instanceMethod yX1_pieces, Cond.selects RX1 yX1_pieces yX1_pieces, Cond.initialized RX1, Cond.code yX1_pieces cX1_pieces 1 (some .int), Cond.fieldLink RX1 22 "CutOnce$Picture" "w" "I", Cond.fieldLink RX1 26 "CutOnce$Picture" "h" "I", Cond.methodLink RX5 258 yX5_isMissing, Cond.instanceMethod yX5_isMissing, Cond.selects RX5 yX5_isMissing yX5_isMissing, Cond.code yX5_isMissing cX5_isMissing 4 (some .boolean), Cond.fieldLink RX5 21 "CutOnce" "thePile" "LCutOnce$Pile;", Cond.methodLink RX5 215 yX2_timesOf, Cond.instanceMethod yX2_timesOf, Cond.selects RX2 yX2_timesOf yX2_timesOf]
def wsX5_missing_r2 : List Cond := [Cond.initialized RX2, Cond.code yX2_timesOf cX2_timesOf 4 (some .int), Cond.fieldLink RX2 18 "CutOnce$Pile" "count" "I", Cond.fieldLink RX2 9 "CutOnce$Pile" "pieceOf" "[I"]
def wsX5_missing : List Cond := .code yX5_missing cX5_missing 2 (some .int) :: ((wsX5_missing_r1 ++ wsX5_missing_r2) ++ wsX50 ++ wsX10 ++ wsX20)
def wsX5_missingPiece : List Cond := .code yX5_missingPiece cX5_missingPiece 5 (some .int) :: ([.fieldLink RX5 12 "CutOnce" "thePicture" "LCutOnce$Picture;", .methodLink RX5 166 yX1_pieces, .instanceMethod yX1_pieces, .selects RX1 yX1_pieces yX1_pieces, .initialized RX1, .code yX1_pieces cX1_pieces 1 (some .int), .fieldLink RX1 22 "CutOnce$Picture" "w" "I", .fieldLink RX1 26 "CutOnce$Picture" "h" "I", .methodLink RX5 258 yX5_isMissing, .instanceMethod yX5_isMissing, .selects RX5 yX5_isMissing yX5_isMissing, .initialized RX5, .code yX5_isMissing cX5_isMissing 4 (some .boolean), .fieldLink RX5 21 "CutOnce" "thePile" "LCutOnce$Pile;", .methodLink RX5 215 yX2_timesOf, .instanceMethod yX2_timesOf, .selects RX2 yX2_timesOf yX2_timesOf, .initialized RX2, .code yX2_timesOf cX2_timesOf 4 (some .int), .fieldLink RX2 18 "CutOnce$Pile" "count" "I", .fieldLink RX2 9 "CutOnce$Pile" "pieceOf" "[I"] ++ wsX50 ++ wsX10 ++ wsX20)
def wsX5_missed_r1 : List Cond := [Cond.methodLink RX5 188 yX5_isMissingWhat, Cond.static yX5_isMissingWhat, Cond.initialized RX5, Cond.code yX5_isMissingWhat cX5_isMissingWhat 1 (some .boolean), Cond.methodLink RX5 194 yX5_missingPiece, Cond.instanceMethod yX5_missingPiece, Cond.selects RX5 yX5_missingPiece yX5_missingPiece, Cond.code yX5_missingPiece cX5_missingPiece 5 (some .int), Cond.fieldLink RX5 12 "CutOnce" "thePicture" "LCutOnce$Picture;", Cond.methodLink RX5 166 yX1_pieces, Cond.instanceMethod yX1_pieces, Cond.selects RX1 yX1_pieces yX1_pieces, Cond.initialized RX1, Cond.code yX1_pieces cX1_pieces 1 (some .int), Cond.fieldLink RX1 22 "CutOnce$Picture" "w" "I", Cond.fieldLink RX1 26 "CutOnce$Picture" "h" "I", Cond.methodLink RX5 258 yX5_isMissing, Cond.instanceMethod yX5_isMissing, Cond.selects RX5 yX5_isMissing yX5_isMissing, Cond.code yX5_isMissing cX5_isMissing 4 (some .boolean), Cond.fieldLink RX5 21 "CutOnce" "thePile" "LCutOnce$Pile;", Cond.methodLink RX5 215 yX2_timesOf, Cond.instanceMethod yX2_timesOf, Cond.selects RX2 yX2_timesOf yX2_timesOf]
def wsX5_missed_r2 : List Cond := [Cond.initialized RX2, Cond.code yX2_timesOf cX2_timesOf 4 (some .int), Cond.fieldLink RX2 18 "CutOnce$Pile" "count" "I", Cond.fieldLink RX2 9 "CutOnce$Pile" "pieceOf" "[I"]
def wsX5_missed : List Cond := .code yX5_missed cX5_missed 3 (some .int) :: ((wsX5_missed_r1 ++ wsX5_missed_r2) ++ wsX50 ++ wsX10 ++ wsX20)
def wsX5_ways_r1 : List Cond := [Cond.fieldLink RX5 30 "CutOnce" "theSearch" "LCutOnce$Search;", Cond.methodLink RX5 197 yX3_countWays, Cond.instanceMethod yX3_countWays, Cond.selects RX3 yX3_countWays yX3_countWays, Cond.initialized RX3, Cond.code yX3_countWays cX3_countWays 1 (some .int), Cond.fieldLink RX3 57 "CutOnce$Search" "spent" "Z", Cond.fieldLink RX3 60 "CutOnce$Search" "found" "I", Cond.methodLink RX3 53 yX3_run, Cond.instanceMethod yX3_run, Cond.selects RX3 yX3_run yX3_run, Cond.code yX3_run cX3_run 3 none, Cond.fieldLink RX3 35 "CutOnce$Search" "pile" "LCutOnce$Pile;", Cond.fieldLink RX3 21 "CutOnce$Search" "used" "[Z", Cond.fieldLink RX3 76 "CutOnce$Search" "firstOnly" "Z", Cond.fieldLink RX3 39 "CutOnce$Search" "trialCount" "I", Cond.methodLink RX3 67 yX2_size, Cond.instanceMethod yX2_size, Cond.selects RX2 yX2_size yX2_size, Cond.initialized RX2, Cond.code yX2_size cX2_size 1 (some .int), Cond.fieldLink RX2 18 "CutOnce$Pile" "count" "I", Cond.methodLink RX3 72 yX3_readEdges, Cond.instanceMethod yX3_readEdges]
def wsX5_ways_r2 : List Cond := [Cond.selects RX3 yX3_readEdges yX3_readEdges, Cond.code yX3_readEdges cX3_readEdges 9 none, Cond.fieldLink RX3 31 "CutOnce$Search" "goal" "LCutOnce$Picture;", Cond.fieldLink RX3 9 "CutOnce$Search" "shown" "[I", Cond.fieldLink RX3 15 "CutOnce$Search" "fitting" "[I", Cond.methodLink RX3 82 yX2_pieceAt, Cond.instanceMethod yX2_pieceAt, Cond.selects RX2 yX2_pieceAt yX2_pieceAt, Cond.code yX2_pieceAt cX2_pieceAt 2 (some .int), Cond.fieldLink RX2 9 "CutOnce$Pile" "pieceOf" "[I", Cond.methodLink RX2 22 yX2_hasPlace, Cond.instanceMethod yX2_hasPlace, Cond.selects RX2 yX2_hasPlace yX2_hasPlace, Cond.code yX2_hasPlace cX2_hasPlace 2 (some .boolean), Cond.methodLink RX3 86 yX1_isFlat, Cond.instanceMethod yX1_isFlat, Cond.selects RX1 yX1_isFlat yX1_isFlat, Cond.initialized RX1, Cond.code yX1_isFlat cX1_isFlat 3 (some .boolean), Cond.methodLink RX1 43 yX1_sideAt, Cond.instanceMethod yX1_sideAt, Cond.selects RX1 yX1_sideAt yX1_sideAt, Cond.code yX1_sideAt cX1_sideAt 4 (some .int), Cond.fieldLink RX1 15 "CutOnce$Picture" "sideOfEdge" "[I"]
def wsX5_ways_r3 : List Cond := [Cond.methodLink RX3 90 yX3_codeOf, Cond.instanceMethod yX3_codeOf, Cond.selects RX3 yX3_codeOf yX3_codeOf, Cond.code yX3_codeOf cX3_codeOf 5 (some .int), Cond.methodLink RX3 100 yX1_edgeHeight, Cond.instanceMethod yX1_edgeHeight, Cond.selects RX1 yX1_edgeHeight yX1_edgeHeight, Cond.code yX1_edgeHeight cX1_edgeHeight 5 (some .int), Cond.methodLink RX1 47 yX1_heightAt, Cond.instanceMethod yX1_heightAt, Cond.selects RX1 yX1_heightAt yX1_heightAt, Cond.code yX1_heightAt cX1_heightAt 5 (some .int), Cond.fieldLink RX1 9 "CutOnce$Picture" "heights" "[I", Cond.methodLink RX3 94 yX3_mateOf, Cond.instanceMethod yX3_mateOf, Cond.selects RX3 yX3_mateOf yX3_mateOf, Cond.code yX3_mateOf cX3_mateOf 5 (some .int), Cond.methodLink RX3 97 yX2_turnAt, Cond.instanceMethod yX2_turnAt, Cond.selects RX2 yX2_turnAt yX2_turnAt, Cond.code yX2_turnAt cX2_turnAt 2 (some .int), Cond.fieldLink RX2 15 "CutOnce$Pile" "turnOf" "[I", Cond.methodLink RX3 79 yX3_fillFrom, Cond.instanceMethod yX3_fillFrom]
def wsX5_ways_r4 : List Cond := [Cond.selects RX3 yX3_fillFrom yX3_fillFrom, Cond.code yX3_fillFrom cX3_fillFrom 4 none, Cond.constant RX3 107 (60000), Cond.fieldLink RX3 25 "CutOnce$Search" "lying" "[I", Cond.methodLink RX3 63 yX1_pieces, Cond.instanceMethod yX1_pieces, Cond.selects RX1 yX1_pieces yX1_pieces, Cond.code yX1_pieces cX1_pieces 1 (some .int), Cond.fieldLink RX1 22 "CutOnce$Picture" "w" "I", Cond.fieldLink RX1 26 "CutOnce$Picture" "h" "I", Cond.methodLink RX3 104 yX3_lookAround, Cond.instanceMethod yX3_lookAround, Cond.selects RX3 yX3_lookAround yX3_lookAround, Cond.code yX3_lookAround cX3_lookAround 5 none, Cond.fieldLink RX3 18 "CutOnce$Search" "wanted" "[I", Cond.methodLink RX3 111 yX1_nextTo, Cond.instanceMethod yX1_nextTo, Cond.selects RX1 yX1_nextTo yX1_nextTo, Cond.code yX1_nextTo cX1_nextTo 3 (some .int), Cond.methodLink RX3 108 yX3_fits, Cond.instanceMethod yX3_fits, Cond.selects RX3 yX3_fits yX3_fits, Cond.code yX3_fits cX3_fits 5 (some .boolean)]
def wsX5_ways : List Cond := .code yX5_ways cX5_ways 1 (some .int) :: ((wsX5_ways_r1 ++ (wsX5_ways_r2 ++ (wsX5_ways_r3 ++ wsX5_ways_r4))) ++ wsX50 ++ wsX30 ++ wsX20 ++ wsX10)
def wsX5_join_r1 : List Cond := [Cond.fieldLink RX5 30 "CutOnce" "theSearch" "LCutOnce$Search;", Cond.methodLink RX5 200 yX3_findFirst, Cond.instanceMethod yX3_findFirst, Cond.selects RX3 yX3_findFirst yX3_findFirst, Cond.initialized RX3, Cond.code yX3_findFirst cX3_findFirst 2 (some .int), Cond.fieldLink RX3 57 "CutOnce$Search" "spent" "Z", Cond.fieldLink RX3 60 "CutOnce$Search" "found" "I", Cond.fieldLink RX3 43 "CutOnce$Search" "joinedOnce" "Z", Cond.fieldLink RX3 31 "CutOnce$Search" "goal" "LCutOnce$Picture;", Cond.fieldLink RX3 28 "CutOnce$Search" "joinedLying" "[I", Cond.fieldLink RX3 25 "CutOnce$Search" "lying" "[I", Cond.methodLink RX3 53 yX3_run, Cond.instanceMethod yX3_run, Cond.selects RX3 yX3_run yX3_run, Cond.code yX3_run cX3_run 3 none, Cond.fieldLink RX3 35 "CutOnce$Search" "pile" "LCutOnce$Pile;", Cond.fieldLink RX3 21 "CutOnce$Search" "used" "[Z", Cond.fieldLink RX3 76 "CutOnce$Search" "firstOnly" "Z", Cond.fieldLink RX3 39 "CutOnce$Search" "trialCount" "I", Cond.methodLink RX3 67 yX2_size, Cond.instanceMethod yX2_size, Cond.selects RX2 yX2_size yX2_size, Cond.initialized RX2]
def wsX5_join_r2 : List Cond := [Cond.code yX2_size cX2_size 1 (some .int), Cond.fieldLink RX2 18 "CutOnce$Pile" "count" "I", Cond.methodLink RX3 72 yX3_readEdges, Cond.instanceMethod yX3_readEdges, Cond.selects RX3 yX3_readEdges yX3_readEdges, Cond.code yX3_readEdges cX3_readEdges 9 none, Cond.fieldLink RX3 9 "CutOnce$Search" "shown" "[I", Cond.fieldLink RX3 15 "CutOnce$Search" "fitting" "[I", Cond.methodLink RX3 82 yX2_pieceAt, Cond.instanceMethod yX2_pieceAt, Cond.selects RX2 yX2_pieceAt yX2_pieceAt, Cond.code yX2_pieceAt cX2_pieceAt 2 (some .int), Cond.fieldLink RX2 9 "CutOnce$Pile" "pieceOf" "[I", Cond.methodLink RX2 22 yX2_hasPlace, Cond.instanceMethod yX2_hasPlace, Cond.selects RX2 yX2_hasPlace yX2_hasPlace, Cond.code yX2_hasPlace cX2_hasPlace 2 (some .boolean), Cond.methodLink RX3 86 yX1_isFlat, Cond.instanceMethod yX1_isFlat, Cond.selects RX1 yX1_isFlat yX1_isFlat, Cond.initialized RX1, Cond.code yX1_isFlat cX1_isFlat 3 (some .boolean), Cond.methodLink RX1 43 yX1_sideAt, Cond.instanceMethod yX1_sideAt]
def wsX5_join_r3 : List Cond := [Cond.selects RX1 yX1_sideAt yX1_sideAt, Cond.code yX1_sideAt cX1_sideAt 4 (some .int), Cond.fieldLink RX1 15 "CutOnce$Picture" "sideOfEdge" "[I", Cond.methodLink RX3 90 yX3_codeOf, Cond.instanceMethod yX3_codeOf, Cond.selects RX3 yX3_codeOf yX3_codeOf, Cond.code yX3_codeOf cX3_codeOf 5 (some .int), Cond.methodLink RX3 100 yX1_edgeHeight, Cond.instanceMethod yX1_edgeHeight, Cond.selects RX1 yX1_edgeHeight yX1_edgeHeight, Cond.code yX1_edgeHeight cX1_edgeHeight 5 (some .int), Cond.methodLink RX1 47 yX1_heightAt, Cond.instanceMethod yX1_heightAt, Cond.selects RX1 yX1_heightAt yX1_heightAt, Cond.code yX1_heightAt cX1_heightAt 5 (some .int), Cond.fieldLink RX1 9 "CutOnce$Picture" "heights" "[I", Cond.methodLink RX3 94 yX3_mateOf, Cond.instanceMethod yX3_mateOf, Cond.selects RX3 yX3_mateOf yX3_mateOf, Cond.code yX3_mateOf cX3_mateOf 5 (some .int), Cond.methodLink RX3 97 yX2_turnAt, Cond.instanceMethod yX2_turnAt, Cond.selects RX2 yX2_turnAt yX2_turnAt, Cond.code yX2_turnAt cX2_turnAt 2 (some .int)]
def wsX5_join_r4 : List Cond := [Cond.fieldLink RX2 15 "CutOnce$Pile" "turnOf" "[I", Cond.methodLink RX3 79 yX3_fillFrom, Cond.instanceMethod yX3_fillFrom, Cond.selects RX3 yX3_fillFrom yX3_fillFrom, Cond.code yX3_fillFrom cX3_fillFrom 4 none, Cond.constant RX3 107 (60000), Cond.methodLink RX3 63 yX1_pieces, Cond.instanceMethod yX1_pieces, Cond.selects RX1 yX1_pieces yX1_pieces, Cond.code yX1_pieces cX1_pieces 1 (some .int), Cond.fieldLink RX1 22 "CutOnce$Picture" "w" "I", Cond.fieldLink RX1 26 "CutOnce$Picture" "h" "I", Cond.methodLink RX3 104 yX3_lookAround, Cond.instanceMethod yX3_lookAround, Cond.selects RX3 yX3_lookAround yX3_lookAround, Cond.code yX3_lookAround cX3_lookAround 5 none, Cond.fieldLink RX3 18 "CutOnce$Search" "wanted" "[I", Cond.methodLink RX3 111 yX1_nextTo, Cond.instanceMethod yX1_nextTo, Cond.selects RX1 yX1_nextTo yX1_nextTo, Cond.code yX1_nextTo cX1_nextTo 3 (some .int), Cond.methodLink RX3 108 yX3_fits, Cond.instanceMethod yX3_fits, Cond.selects RX3 yX3_fits yX3_fits]
def wsX5_join_r5 : List Cond := [Cond.code yX3_fits cX3_fits 5 (some .boolean)]
def wsX5_join : List Cond := .code yX5_join cX5_join 1 (some .int) :: ((wsX5_join_r1 ++ (wsX5_join_r2 ++ (wsX5_join_r3 ++ (wsX5_join_r4 ++ wsX5_join_r5)))) ++ wsX50 ++ wsX30 ++ wsX20 ++ wsX10)
def wsX5_joined_r1 : List Cond := [Cond.fieldLink RX5 30 "CutOnce" "theSearch" "LCutOnce$Search;", Cond.fieldLink RX5 12 "CutOnce" "thePicture" "LCutOnce$Picture;", Cond.methodLink RX5 203 yX3_hasJoined, Cond.instanceMethod yX3_hasJoined, Cond.selects RX3 yX3_hasJoined yX3_hasJoined, Cond.initialized RX3, Cond.code yX3_hasJoined cX3_hasJoined 1 (some .boolean), Cond.fieldLink RX3 43 "CutOnce$Search" "joinedOnce" "Z", Cond.methodLink RX5 154 yX1_hasPiece, Cond.instanceMethod yX1_hasPiece, Cond.selects RX1 yX1_hasPiece yX1_hasPiece, Cond.initialized RX1, Cond.code yX1_hasPiece cX1_hasPiece 2 (some .boolean), Cond.methodLink RX1 36 yX1_pieces, Cond.instanceMethod yX1_pieces, Cond.selects RX1 yX1_pieces yX1_pieces, Cond.code yX1_pieces cX1_pieces 1 (some .int), Cond.fieldLink RX1 22 "CutOnce$Picture" "w" "I", Cond.fieldLink RX1 26 "CutOnce$Picture" "h" "I", Cond.methodLink RX5 206 yX3_joinedFrom, Cond.instanceMethod yX3_joinedFrom, Cond.selects RX3 yX3_joinedFrom yX3_joinedFrom, Cond.code yX3_joinedFrom cX3_joinedFrom 2 (some .int), Cond.fieldLink RX3 31 "CutOnce$Search" "goal" "LCutOnce$Picture;"]
def wsX5_joined_r2 : List Cond := [Cond.fieldLink RX3 28 "CutOnce$Search" "joinedLying" "[I", Cond.methodLink RX3 47 yX1_hasPiece, Cond.methodLink RX5 209 yX3_joinedTurn, Cond.instanceMethod yX3_joinedTurn, Cond.selects RX3 yX3_joinedTurn yX3_joinedTurn, Cond.code yX3_joinedTurn cX3_joinedTurn 2 (some .int)]
def wsX5_joined : List Cond := .code yX5_joined cX5_joined 3 (some .int) :: ((wsX5_joined_r1 ++ wsX5_joined_r2) ++ wsX50 ++ wsX30 ++ wsX10)
def wsX5_trials : List Cond := .code yX5_trials cX5_trials 1 (some .int) :: ([.fieldLink RX5 30 "CutOnce" "theSearch" "LCutOnce$Search;", .methodLink RX5 212 yX3_trialsCounted, .instanceMethod yX3_trialsCounted, .selects RX3 yX3_trialsCounted yX3_trialsCounted, .initialized RX3, .code yX3_trialsCounted cX3_trialsCounted 1 (some .int), .fieldLink RX3 39 "CutOnce$Search" "trialCount" "I"] ++ wsX50 ++ wsX30)
def wsX5_known_r1 : List Cond := [Cond.fieldLink RX5 12 "CutOnce" "thePicture" "LCutOnce$Picture;", Cond.fieldLink RX5 21 "CutOnce" "thePile" "LCutOnce$Pile;", Cond.methodLink RX5 154 yX1_hasPiece, Cond.instanceMethod yX1_hasPiece, Cond.selects RX1 yX1_hasPiece yX1_hasPiece, Cond.initialized RX1, Cond.code yX1_hasPiece cX1_hasPiece 2 (some .boolean), Cond.methodLink RX1 36 yX1_pieces, Cond.instanceMethod yX1_pieces, Cond.selects RX1 yX1_pieces yX1_pieces, Cond.code yX1_pieces cX1_pieces 1 (some .int), Cond.fieldLink RX1 22 "CutOnce$Picture" "w" "I", Cond.fieldLink RX1 26 "CutOnce$Picture" "h" "I", Cond.methodLink RX5 215 yX2_timesOf, Cond.instanceMethod yX2_timesOf, Cond.selects RX2 yX2_timesOf yX2_timesOf, Cond.initialized RX2, Cond.code yX2_timesOf cX2_timesOf 4 (some .int), Cond.fieldLink RX2 18 "CutOnce$Pile" "count" "I", Cond.fieldLink RX2 9 "CutOnce$Pile" "pieceOf" "[I", Cond.methodLink RX5 132 yX1_isFlat, Cond.instanceMethod yX1_isFlat, Cond.selects RX1 yX1_isFlat yX1_isFlat, Cond.code yX1_isFlat cX1_isFlat 3 (some .boolean)]
def wsX5_known_r2 : List Cond := [Cond.methodLink RX1 43 yX1_sideAt, Cond.instanceMethod yX1_sideAt, Cond.selects RX1 yX1_sideAt yX1_sideAt, Cond.code yX1_sideAt cX1_sideAt 4 (some .int), Cond.fieldLink RX1 15 "CutOnce$Picture" "sideOfEdge" "[I", Cond.methodLink RX5 218 yX1_nextTo, Cond.instanceMethod yX1_nextTo, Cond.selects RX1 yX1_nextTo yX1_nextTo, Cond.code yX1_nextTo cX1_nextTo 3 (some .int)]
def wsX5_known : List Cond := .code yX5_known cX5_known 4 (some .int) :: ((wsX5_known_r1 ++ wsX5_known_r2) ++ wsX50 ++ wsX10 ++ wsX20)
def wsX5_sheet_r1 : List Cond := [Cond.fieldLink RX5 90 "CutOnce" "latestFault" "I", Cond.fieldLink RX5 43 "CutOnce" "sheets" "[LCutOnce$Sheet;", Cond.methodLink RX5 94 yX5_isSheet, Cond.static yX5_isSheet, Cond.initialized RX5, Cond.code yX5_isSheet cX5_isSheet 1 (some .boolean), Cond.methodLink RX5 97 yX5_isLane, Cond.static yX5_isLane, Cond.code yX5_isLane cX5_isLane 1 (some .boolean), Cond.methodLink RX5 103 yX5_come, Cond.instanceMethod yX5_come, Cond.selects RX5 yX5_come yX5_come, Cond.code yX5_come cX5_come 2 (some .int), Cond.methodLink RX5 221 yX4_renew, Cond.instanceMethod yX4_renew, Cond.selects RX4 yX4_renew yX4_renew, Cond.initialized RX4, Cond.code yX4_renew cX4_renew 4 none, Cond.fieldLink RX4 15 "CutOnce$Sheet" "there" "Z", Cond.fieldLink RX4 19 "CutOnce$Sheet" "lane" "I", Cond.methodLink RX4 23 Lib.Math.max.name, Cond.static Lib.Math.max.name, Cond.initialized "java/lang/Math", Cond.code Lib.Math.max.name Lib.Math.max.code 2 (some .int)]
def wsX5_sheet_r2 : List Cond := [Cond.methodLink RX4 29 Lib.Math.min.name, Cond.static Lib.Math.min.name, Cond.code Lib.Math.min.name Lib.Math.min.code 2 (some .int), Cond.fieldLink RX4 32 "CutOnce$Sheet" "length" "I", Cond.fieldLink RX4 9 "CutOnce$Sheet" "cells" "[I"]
def wsX5_sheet : List Cond := .code yX5_sheet cX5_sheet 4 (some .int) :: ((wsX5_sheet_r1 ++ wsX5_sheet_r2) ++ wsX50 ++ wsX40)
def wsX5_lose : List Cond := .code yX5_lose cX5_lose 3 (some .int) :: ([.fieldLink RX5 43 "CutOnce" "sheets" "[LCutOnce$Sheet;", .methodLink RX5 94 yX5_isSheet, .static yX5_isSheet, .initialized RX5, .code yX5_isSheet cX5_isSheet 1 (some .boolean), .methodLink RX5 106 yX4_isThere, .instanceMethod yX4_isThere, .selects RX4 yX4_isThere yX4_isThere, .initialized RX4, .code yX4_isThere cX4_isThere 1 (some .boolean), .fieldLink RX4 15 "CutOnce$Sheet" "there" "Z", .methodLink RX5 224 yX4_drop, .instanceMethod yX4_drop, .selects RX4 yX4_drop yX4_drop, .code yX4_drop cX4_drop 1 none, .fieldLink RX4 32 "CutOnce$Sheet" "length" "I"] ++ wsX50 ++ wsX40)
def wsX5_put_r1 : List Cond := [Cond.fieldLink RX5 90 "CutOnce" "latestFault" "I", Cond.fieldLink RX5 43 "CutOnce" "sheets" "[LCutOnce$Sheet;", Cond.methodLink RX5 94 yX5_isSheet, Cond.static yX5_isSheet, Cond.initialized RX5, Cond.code yX5_isSheet cX5_isSheet 1 (some .boolean), Cond.methodLink RX5 106 yX4_isThere, Cond.instanceMethod yX4_isThere, Cond.selects RX4 yX4_isThere yX4_isThere, Cond.initialized RX4, Cond.code yX4_isThere cX4_isThere 1 (some .boolean), Cond.fieldLink RX4 15 "CutOnce$Sheet" "there" "Z", Cond.methodLink RX5 103 yX5_come, Cond.instanceMethod yX5_come, Cond.selects RX5 yX5_come yX5_come, Cond.code yX5_come cX5_come 2 (some .int), Cond.methodLink RX5 112 yX4_holds, Cond.instanceMethod yX4_holds, Cond.selects RX4 yX4_holds yX4_holds, Cond.code yX4_holds cX4_holds 4 (some .boolean), Cond.fieldLink RX4 32 "CutOnce$Sheet" "length" "I", Cond.methodLink RX5 227 yX4_write, Cond.instanceMethod yX4_write, Cond.selects RX4 yX4_write yX4_write]
def wsX5_put_r2 : List Cond := [Cond.code yX4_write cX4_write 3 none, Cond.fieldLink RX4 9 "CutOnce$Sheet" "cells" "[I", Cond.methodLink RX4 35 yX4_holds, Cond.methodLink RX4 39 yX4_cutToLane, Cond.instanceMethod yX4_cutToLane, Cond.selects RX4 yX4_cutToLane yX4_cutToLane, Cond.code yX4_cutToLane cX4_cutToLane 2 (some .int), Cond.fieldLink RX4 19 "CutOnce$Sheet" "lane" "I"]
def wsX5_put : List Cond := .code yX5_put cX5_put 4 (some .int) :: ((wsX5_put_r1 ++ wsX5_put_r2) ++ wsX50 ++ wsX40)
def wsX5_comeLost : List Cond := .code yX5_comeLost cX5_comeLost 2 (some .long) :: ([.fieldLink RX5 90 "CutOnce" "latestFault" "I", .constantLong RX5 84 (-9223372036854775808)] ++ wsX50)
def wsX5_cell_r1 : List Cond := [Cond.fieldLink RX5 90 "CutOnce" "latestFault" "I", Cond.constantLong RX5 84 (-9223372036854775808), Cond.fieldLink RX5 43 "CutOnce" "sheets" "[LCutOnce$Sheet;", Cond.methodLink RX5 94 yX5_isSheet, Cond.static yX5_isSheet, Cond.initialized RX5, Cond.code yX5_isSheet cX5_isSheet 1 (some .boolean), Cond.methodLink RX5 97 yX5_isLane, Cond.static yX5_isLane, Cond.code yX5_isLane cX5_isLane 1 (some .boolean), Cond.methodLink RX5 100 yX4_isOfOther, Cond.instanceMethod yX4_isOfOther, Cond.selects RX4 yX4_isOfOther yX4_isOfOther, Cond.initialized RX4, Cond.code yX4_isOfOther cX4_isOfOther 2 (some .boolean), Cond.fieldLink RX4 15 "CutOnce$Sheet" "there" "Z", Cond.fieldLink RX4 19 "CutOnce$Sheet" "lane" "I", Cond.methodLink RX5 230 yX5_comeLost, Cond.instanceMethod yX5_comeLost, Cond.selects RX5 yX5_comeLost yX5_comeLost, Cond.code yX5_comeLost cX5_comeLost 2 (some .long), Cond.methodLink RX5 106 yX4_isThere, Cond.instanceMethod yX4_isThere, Cond.selects RX4 yX4_isThere yX4_isThere]
def wsX5_cell_r2 : List Cond := [Cond.code yX4_isThere cX4_isThere 1 (some .boolean), Cond.methodLink RX5 112 yX4_holds, Cond.instanceMethod yX4_holds, Cond.selects RX4 yX4_holds yX4_holds, Cond.code yX4_holds cX4_holds 4 (some .boolean), Cond.fieldLink RX4 32 "CutOnce$Sheet" "length" "I", Cond.methodLink RX5 234 yX4_read, Cond.instanceMethod yX4_read, Cond.selects RX4 yX4_read yX4_read, Cond.code yX4_read cX4_read 2 (some .int), Cond.fieldLink RX4 9 "CutOnce$Sheet" "cells" "[I", Cond.methodLink RX4 35 yX4_holds]
def wsX5_cell : List Cond := .code yX5_cell cX5_cell 4 (some .long) :: ((wsX5_cell_r1 ++ wsX5_cell_r2) ++ wsX50 ++ wsX40)
def wsX5_copy_r1 : List Cond := [Cond.fieldLink RX5 90 "CutOnce" "latestFault" "I", Cond.fieldLink RX5 43 "CutOnce" "sheets" "[LCutOnce$Sheet;", Cond.methodLink RX5 94 yX5_isSheet, Cond.static yX5_isSheet, Cond.initialized RX5, Cond.code yX5_isSheet cX5_isSheet 1 (some .boolean), Cond.methodLink RX5 106 yX4_isThere, Cond.instanceMethod yX4_isThere, Cond.selects RX4 yX4_isThere yX4_isThere, Cond.initialized RX4, Cond.code yX4_isThere cX4_isThere 1 (some .boolean), Cond.fieldLink RX4 15 "CutOnce$Sheet" "there" "Z", Cond.methodLink RX5 103 yX5_come, Cond.instanceMethod yX5_come, Cond.selects RX5 yX5_come yX5_come, Cond.code yX5_come cX5_come 2 (some .int), Cond.methodLink RX5 237 yX4_laneHeld, Cond.instanceMethod yX4_laneHeld, Cond.selects RX4 yX4_laneHeld yX4_laneHeld, Cond.code yX4_laneHeld cX4_laneHeld 1 (some .int), Cond.fieldLink RX4 19 "CutOnce$Sheet" "lane" "I", Cond.methodLink RX5 100 yX4_isOfOther, Cond.instanceMethod yX4_isOfOther, Cond.selects RX4 yX4_isOfOther yX4_isOfOther]
def wsX5_copy_r2 : List Cond := [Cond.code yX4_isOfOther cX4_isOfOther 2 (some .boolean), Cond.methodLink RX5 112 yX4_holds, Cond.instanceMethod yX4_holds, Cond.selects RX4 yX4_holds yX4_holds, Cond.code yX4_holds cX4_holds 4 (some .boolean), Cond.fieldLink RX4 32 "CutOnce$Sheet" "length" "I", Cond.methodLink RX5 240 yX4_writeFrom, Cond.instanceMethod yX4_writeFrom, Cond.selects RX4 yX4_writeFrom yX4_writeFrom, Cond.code yX4_writeFrom cX4_writeFrom 5 none, Cond.fieldLink RX4 9 "CutOnce$Sheet" "cells" "[I", Cond.methodLink RX4 43 arraycopyName, Cond.native arraycopyName, Cond.static arraycopyName, Cond.initialized "java/lang/System", Cond.methodLink RX4 35 yX4_holds]
def wsX5_copy : List Cond := .code yX5_copy cX5_copy 8 (some .int) :: ((wsX5_copy_r1 ++ wsX5_copy_r2) ++ wsX50 ++ wsX40)
def wsX5_leave : List Cond := .code yX5_leave cX5_leave 2 none :: ([.fieldLink RX5 249 "CutOnce" "traceLeft" "I"] ++ wsX50)
def wsX5_sumBody : List Cond := .code yX5_sumBody cX5_sumBody 2 (some .int) :: ([.fieldLink RX5 12 "CutOnce" "thePicture" "LCutOnce$Picture;", .methodLink RX5 243 yX5_leave, .instanceMethod yX5_leave, .selects RX5 yX5_leave yX5_leave, .initialized RX5, .code yX5_leave cX5_leave 2 none, .fieldLink RX5 249 "CutOnce" "traceLeft" "I", .methodLink RX5 261 yX1_sumOf, .instanceMethod yX1_sumOf, .selects RX1 yX1_sumOf yX1_sumOf, .initialized RX1, .code yX1_sumOf cX1_sumOf 4 (some .int), .methodLink RX1 47 yX1_heightAt, .instanceMethod yX1_heightAt, .selects RX1 yX1_heightAt yX1_heightAt, .code yX1_heightAt cX1_heightAt 5 (some .int), .fieldLink RX1 9 "CutOnce$Picture" "heights" "[I"] ++ wsX50 ++ wsX10)
def wsX5_tell_r1 : List Cond := [Cond.fieldLink RX5 12 "CutOnce" "thePicture" "LCutOnce$Picture;", Cond.methodLink RX5 74 yX1_hasSide, Cond.instanceMethod yX1_hasSide, Cond.selects RX1 yX1_hasSide yX1_hasSide, Cond.initialized RX1, Cond.code yX1_hasSide cX1_hasSide 2 (some .boolean), Cond.methodLink RX1 32 yX1_sides, Cond.instanceMethod yX1_sides, Cond.selects RX1 yX1_sides yX1_sides, Cond.code yX1_sides cX1_sides 1 (some .int), Cond.fieldLink RX1 22 "CutOnce$Picture" "w" "I", Cond.fieldLink RX1 26 "CutOnce$Picture" "h" "I", Cond.methodLink RX5 142 yX1_kindAt, Cond.instanceMethod yX1_kindAt, Cond.selects RX1 yX1_kindAt yX1_kindAt, Cond.code yX1_kindAt cX1_kindAt 3 (some .int), Cond.methodLink RX1 60 yX1_bulges, Cond.instanceMethod yX1_bulges, Cond.selects RX1 yX1_bulges yX1_bulges, Cond.code yX1_bulges cX1_bulges 6 (some .boolean), Cond.methodLink RX1 47 yX1_heightAt, Cond.instanceMethod yX1_heightAt, Cond.selects RX1 yX1_heightAt yX1_heightAt, Cond.code yX1_heightAt cX1_heightAt 5 (some .int)]
def wsX5_tell_r2 : List Cond := [Cond.fieldLink RX1 9 "CutOnce$Picture" "heights" "[I", Cond.methodLink RX1 63 yX1_differing, Cond.instanceMethod yX1_differing, Cond.selects RX1 yX1_differing yX1_differing, Cond.code yX1_differing cX1_differing 6 (some .int), Cond.methodLink RX5 243 yX5_leave, Cond.instanceMethod yX5_leave, Cond.selects RX5 yX5_leave yX5_leave, Cond.initialized RX5, Cond.code yX5_leave cX5_leave 2 none, Cond.fieldLink RX5 249 "CutOnce" "traceLeft" "I", Cond.methodLink RX5 246 yX5_sumBody, Cond.instanceMethod yX5_sumBody, Cond.selects RX5 yX5_sumBody yX5_sumBody, Cond.code yX5_sumBody cX5_sumBody 2 (some .int), Cond.methodLink RX5 261 yX1_sumOf, Cond.instanceMethod yX1_sumOf, Cond.selects RX1 yX1_sumOf yX1_sumOf, Cond.code yX1_sumOf cX1_sumOf 4 (some .int)]
def wsX5_tell : List Cond := .code yX5_tell cX5_tell 2 (some .int) :: ((wsX5_tell_r1 ++ wsX5_tell_r2) ++ wsX50 ++ wsX10)
def wsX5_mark_r1 : List Cond := [Cond.fieldLink RX5 12 "CutOnce" "thePicture" "LCutOnce$Picture;", Cond.methodLink RX5 74 yX1_hasSide, Cond.instanceMethod yX1_hasSide, Cond.selects RX1 yX1_hasSide yX1_hasSide, Cond.initialized RX1, Cond.code yX1_hasSide cX1_hasSide 2 (some .boolean), Cond.methodLink RX1 32 yX1_sides, Cond.instanceMethod yX1_sides, Cond.selects RX1 yX1_sides yX1_sides, Cond.code yX1_sides cX1_sides 1 (some .int), Cond.fieldLink RX1 22 "CutOnce$Picture" "w" "I", Cond.fieldLink RX1 26 "CutOnce$Picture" "h" "I", Cond.methodLink RX5 142 yX1_kindAt, Cond.instanceMethod yX1_kindAt, Cond.selects RX1 yX1_kindAt yX1_kindAt, Cond.code yX1_kindAt cX1_kindAt 3 (some .int), Cond.methodLink RX1 60 yX1_bulges, Cond.instanceMethod yX1_bulges, Cond.selects RX1 yX1_bulges yX1_bulges, Cond.code yX1_bulges cX1_bulges 6 (some .boolean), Cond.methodLink RX1 47 yX1_heightAt, Cond.instanceMethod yX1_heightAt, Cond.selects RX1 yX1_heightAt yX1_heightAt, Cond.code yX1_heightAt cX1_heightAt 5 (some .int)]
def wsX5_mark_r2 : List Cond := [Cond.fieldLink RX1 9 "CutOnce$Picture" "heights" "[I", Cond.methodLink RX1 63 yX1_differing, Cond.instanceMethod yX1_differing, Cond.selects RX1 yX1_differing yX1_differing, Cond.code yX1_differing cX1_differing 6 (some .int), Cond.methodLink RX5 243 yX5_leave, Cond.instanceMethod yX5_leave, Cond.selects RX5 yX5_leave yX5_leave, Cond.initialized RX5, Cond.code yX5_leave cX5_leave 2 none, Cond.fieldLink RX5 249 "CutOnce" "traceLeft" "I"]
def wsX5_mark : List Cond := .code yX5_mark cX5_mark 2 (some .int) :: ((wsX5_mark_r1 ++ wsX5_mark_r2) ++ wsX50 ++ wsX10)
def wsX5_as_r1 : List Cond := [Cond.fieldLink RX5 90 "CutOnce" "latestFault" "I", Cond.fieldLink RX5 12 "CutOnce" "thePicture" "LCutOnce$Picture;", Cond.methodLink RX5 74 yX1_hasSide, Cond.instanceMethod yX1_hasSide, Cond.selects RX1 yX1_hasSide yX1_hasSide, Cond.initialized RX1, Cond.code yX1_hasSide cX1_hasSide 2 (some .boolean), Cond.methodLink RX1 32 yX1_sides, Cond.instanceMethod yX1_sides, Cond.selects RX1 yX1_sides yX1_sides, Cond.code yX1_sides cX1_sides 1 (some .int), Cond.fieldLink RX1 22 "CutOnce$Picture" "w" "I", Cond.fieldLink RX1 26 "CutOnce$Picture" "h" "I", Cond.methodLink RX5 142 yX1_kindAt, Cond.instanceMethod yX1_kindAt, Cond.selects RX1 yX1_kindAt yX1_kindAt, Cond.code yX1_kindAt cX1_kindAt 3 (some .int), Cond.methodLink RX1 60 yX1_bulges, Cond.instanceMethod yX1_bulges, Cond.selects RX1 yX1_bulges yX1_bulges, Cond.code yX1_bulges cX1_bulges 6 (some .boolean), Cond.methodLink RX1 47 yX1_heightAt, Cond.instanceMethod yX1_heightAt, Cond.selects RX1 yX1_heightAt yX1_heightAt]
def wsX5_as_r2 : List Cond := [Cond.code yX1_heightAt cX1_heightAt 5 (some .int), Cond.fieldLink RX1 9 "CutOnce$Picture" "heights" "[I", Cond.methodLink RX1 63 yX1_differing, Cond.instanceMethod yX1_differing, Cond.selects RX1 yX1_differing yX1_differing, Cond.code yX1_differing cX1_differing 6 (some .int), Cond.methodLink RX5 103 yX5_come, Cond.instanceMethod yX5_come, Cond.selects RX5 yX5_come yX5_come, Cond.initialized RX5, Cond.code yX5_come cX5_come 2 (some .int)]
def wsX5_as : List Cond := .code yX5_as cX5_as 3 (some .int) :: ((wsX5_as_r1 ++ wsX5_as_r2) ++ wsX50 ++ wsX10)
def wsX5_trace : List Cond := .code yX5_trace cX5_trace 1 (some .int) :: ([.fieldLink RX5 249 "CutOnce" "traceLeft" "I"] ++ wsX50)
def wsX5_fault : List Cond := .code yX5_fault cX5_fault 1 (some .int) :: ([.fieldLink RX5 90 "CutOnce" "latestFault" "I"] ++ wsX50)
def wsX5_told_r1 : List Cond := [Cond.fieldLink RX5 12 "CutOnce" "thePicture" "LCutOnce$Picture;", Cond.fieldLink RX5 21 "CutOnce" "thePile" "LCutOnce$Pile;", Cond.methodLink RX5 252 yX1_width, Cond.instanceMethod yX1_width, Cond.selects RX1 yX1_width yX1_width, Cond.initialized RX1, Cond.code yX1_width cX1_width 1 (some .int), Cond.fieldLink RX1 22 "CutOnce$Picture" "w" "I", Cond.methodLink RX5 255 yX1_depth, Cond.instanceMethod yX1_depth, Cond.selects RX1 yX1_depth yX1_depth, Cond.code yX1_depth cX1_depth 1 (some .int), Cond.fieldLink RX1 26 "CutOnce$Picture" "h" "I", Cond.methodLink RX5 166 yX1_pieces, Cond.instanceMethod yX1_pieces, Cond.selects RX1 yX1_pieces yX1_pieces, Cond.code yX1_pieces cX1_pieces 1 (some .int), Cond.methodLink RX5 58 yX1_sides, Cond.instanceMethod yX1_sides, Cond.selects RX1 yX1_sides yX1_sides, Cond.code yX1_sides cX1_sides 1 (some .int), Cond.methodLink RX5 163 yX2_size, Cond.instanceMethod yX2_size, Cond.selects RX2 yX2_size yX2_size]
def wsX5_told_r2 : List Cond := [Cond.initialized RX2, Cond.code yX2_size cX2_size 1 (some .int), Cond.fieldLink RX2 18 "CutOnce$Pile" "count" "I"]
def wsX5_told : List Cond := .code yX5_told cX5_told 2 (some .int) :: ((wsX5_told_r1 ++ wsX5_told_r2) ++ wsX50 ++ wsX10 ++ wsX20)
def wsX6_init : List Cond := .code yX6_init cX6_init 2 none :: ([.methodLink RX6 1 objectInit, .instanceMethod objectInit, .code objectInit ⟨#[0xb1]⟩ 1 none, .arrayClass .int, .fieldLink RX6 7 "CutOnceModel" "heights" "[I", .fieldLink RX6 13 "CutOnceModel" "piece" "[I", .fieldLink RX6 16 "CutOnceModel" "turn" "[I", .fieldLink RX6 19 "CutOnceModel" "at" "[I", .fieldLink RX6 22 "CutOnceModel" "further" "[I", .arrayClass .boolean, .fieldLink RX6 25 "CutOnceModel" "isUsed" "[Z", .fieldLink RX6 29 "CutOnceModel" "joinedAt" "[I", .fieldLink RX6 32 "CutOnceModel" "joinedTurn" "[I", .fieldLink RX6 35 "CutOnceModel" "sheetSize" "[I", .fieldLink RX6 38 "CutOnceModel" "sheetLane" "[I", .fieldLink RX6 41 "CutOnceModel" "sheet" "[I", .fieldLink RX6 44 "CutOnceModel" "hands" "[I", .fieldLink RX6 47 "CutOnceModel" "wide" "I", .fieldLink RX6 51 "CutOnceModel" "high" "I"] ++ wsX60)
def wsX6_in : List Cond := .code yX6_in cX6_in 6 (some .boolean) :: ([])
def wsX6_lost : List Cond := .code yX6_lost cX6_lost 0 (some .long) :: ([.constantLong RX6 54 (-9223372036854775808)])
def wsX6_refused : List Cond := .code yX6_refused cX6_refused 2 (some .int) :: ([.fieldLink RX6 56 "CutOnceModel" "fault" "I"] ++ wsX60)
def wsX6_failed : List Cond := .code yX6_failed cX6_failed 2 (some .int) :: ([.fieldLink RX6 56 "CutOnceModel" "fault" "I"] ++ wsX60)
def wsX6_failedLong : List Cond := .code yX6_failedLong cX6_failedLong 2 (some .long) :: ([.fieldLink RX6 56 "CutOnceModel" "fault" "I", .methodLink RX6 59 yX6_lost, .static yX6_lost, .initialized RX6, .code yX6_lost cX6_lost 0 (some .long), .constantLong RX6 54 (-9223372036854775808)] ++ wsX60)
def wsX6_sizeOf : List Cond := .code yX6_sizeOf cX6_sizeOf 1 (some .int) :: ([])
def wsX6_across : List Cond := .code yX6_across cX6_across 1 (some .int) :: ([.fieldLink RX6 47 "CutOnceModel" "wide" "I", .fieldLink RX6 51 "CutOnceModel" "high" "I"] ++ wsX60)
def wsX6_sides : List Cond := .code yX6_sides cX6_sides 1 (some .int) :: ([.fieldLink RX6 47 "CutOnceModel" "wide" "I", .fieldLink RX6 51 "CutOnceModel" "high" "I", .methodLink RX6 63 yX6_across, .instanceMethod yX6_across, .selects RX6 yX6_across yX6_across, .initialized RX6, .code yX6_across cX6_across 1 (some .int)] ++ wsX60)
def wsX6_pieces : List Cond := .code yX6_pieces cX6_pieces 1 (some .int) :: ([.fieldLink RX6 47 "CutOnceModel" "wide" "I", .fieldLink RX6 51 "CutOnceModel" "high" "I"] ++ wsX60)
def wsX6_noSide : List Cond := .code yX6_noSide cX6_noSide 2 (some .boolean) :: ([.methodLink RX6 67 yX6_sides, .instanceMethod yX6_sides, .selects RX6 yX6_sides yX6_sides, .initialized RX6, .code yX6_sides cX6_sides 1 (some .int), .fieldLink RX6 47 "CutOnceModel" "wide" "I", .fieldLink RX6 51 "CutOnceModel" "high" "I", .methodLink RX6 63 yX6_across, .instanceMethod yX6_across, .selects RX6 yX6_across yX6_across, .code yX6_across cX6_across 1 (some .int), .methodLink RX6 70 yX6_in, .static yX6_in, .code yX6_in cX6_in 6 (some .boolean)] ++ wsX60)
def wsX6_noPiece : List Cond := .code yX6_noPiece cX6_noPiece 2 (some .boolean) :: ([.methodLink RX6 74 yX6_pieces, .instanceMethod yX6_pieces, .selects RX6 yX6_pieces yX6_pieces, .initialized RX6, .code yX6_pieces cX6_pieces 1 (some .int), .fieldLink RX6 47 "CutOnceModel" "wide" "I", .fieldLink RX6 51 "CutOnceModel" "high" "I", .methodLink RX6 70 yX6_in, .static yX6_in, .code yX6_in cX6_in 6 (some .boolean)] ++ wsX60)
def wsX6_changed : List Cond := .code yX6_changed cX6_changed 1 none :: ([.fieldLink RX6 77 "CutOnceModel" "isJoined" "Z"] ++ wsX60)
def wsX6_picture : List Cond := .code yX6_picture cX6_picture 4 (some .int) :: ([.constantLong RX6 81 (5), .fieldLink RX6 47 "CutOnceModel" "wide" "I", .fieldLink RX6 51 "CutOnceModel" "high" "I", .fieldLink RX6 7 "CutOnceModel" "heights" "[I", .fieldLink RX6 83 "CutOnceModel" "heaped" "I", .methodLink RX6 70 yX6_in, .static yX6_in, .initialized RX6, .code yX6_in cX6_in 6 (some .boolean), .methodLink RX6 86 yX6_changed, .instanceMethod yX6_changed, .selects RX6 yX6_changed yX6_changed, .code yX6_changed cX6_changed 1 none, .fieldLink RX6 77 "CutOnceModel" "isJoined" "Z", .methodLink RX6 67 yX6_sides, .instanceMethod yX6_sides, .selects RX6 yX6_sides yX6_sides, .code yX6_sides cX6_sides 1 (some .int), .methodLink RX6 63 yX6_across, .instanceMethod yX6_across, .selects RX6 yX6_across yX6_across, .code yX6_across cX6_across 1 (some .int)] ++ wsX60)
def wsX6_numberBelow : List Cond := .code yX6_numberBelow cX6_numberBelow 2 (some .int) :: ([.fieldLink RX6 89 "CutOnceModel" "draw" "J", .constantLong RX6 93 (6364136223846793005), .constantLong RX6 95 (1442695040888963407), .constantLong RX6 97 (2147483647), .constantLong RX6 99 (4096)] ++ wsX60)
def wsX6_make_r1 : List Cond := [Cond.fieldLink RX6 89 "CutOnceModel" "draw" "J", Cond.fieldLink RX6 7 "CutOnceModel" "heights" "[I", Cond.methodLink RX6 67 yX6_sides, Cond.instanceMethod yX6_sides, Cond.selects RX6 yX6_sides yX6_sides, Cond.initialized RX6, Cond.code yX6_sides cX6_sides 1 (some .int), Cond.fieldLink RX6 47 "CutOnceModel" "wide" "I", Cond.fieldLink RX6 51 "CutOnceModel" "high" "I", Cond.methodLink RX6 63 yX6_across, Cond.instanceMethod yX6_across, Cond.selects RX6 yX6_across yX6_across, Cond.code yX6_across cX6_across 1 (some .int), Cond.methodLink RX6 101 yX6_numberBelow, Cond.instanceMethod yX6_numberBelow, Cond.selects RX6 yX6_numberBelow yX6_numberBelow, Cond.code yX6_numberBelow cX6_numberBelow 2 (some .int), Cond.constantLong RX6 93 (6364136223846793005), Cond.constantLong RX6 95 (1442695040888963407), Cond.constantLong RX6 97 (2147483647), Cond.constantLong RX6 99 (4096), Cond.methodLink RX6 86 yX6_changed, Cond.instanceMethod yX6_changed, Cond.selects RX6 yX6_changed yX6_changed]
def wsX6_make_r2 : List Cond := [Cond.code yX6_changed cX6_changed 1 none, Cond.fieldLink RX6 77 "CutOnceModel" "isJoined" "Z"]
def wsX6_make : List Cond := .code yX6_make cX6_make 4 (some .int) :: ((wsX6_make_r1 ++ wsX6_make_r2) ++ wsX60)
def wsX6_bend_r1 : List Cond := [Cond.constantLong RX6 109 (4), Cond.constantLong RX6 111 (-9), Cond.constantLong RX6 113 (9), Cond.fieldLink RX6 7 "CutOnceModel" "heights" "[I", Cond.methodLink RX6 105 yX6_noSide, Cond.instanceMethod yX6_noSide, Cond.selects RX6 yX6_noSide yX6_noSide, Cond.initialized RX6, Cond.code yX6_noSide cX6_noSide 2 (some .boolean), Cond.methodLink RX6 67 yX6_sides, Cond.instanceMethod yX6_sides, Cond.selects RX6 yX6_sides yX6_sides, Cond.code yX6_sides cX6_sides 1 (some .int), Cond.fieldLink RX6 47 "CutOnceModel" "wide" "I", Cond.fieldLink RX6 51 "CutOnceModel" "high" "I", Cond.methodLink RX6 63 yX6_across, Cond.instanceMethod yX6_across, Cond.selects RX6 yX6_across yX6_across, Cond.code yX6_across cX6_across 1 (some .int), Cond.methodLink RX6 70 yX6_in, Cond.static yX6_in, Cond.code yX6_in cX6_in 6 (some .boolean), Cond.methodLink RX6 59 yX6_lost, Cond.static yX6_lost]
def wsX6_bend_r2 : List Cond := [Cond.code yX6_lost cX6_lost 0 (some .long), Cond.constantLong RX6 54 (-9223372036854775808), Cond.methodLink RX6 86 yX6_changed, Cond.instanceMethod yX6_changed, Cond.selects RX6 yX6_changed yX6_changed, Cond.code yX6_changed cX6_changed 1 none, Cond.fieldLink RX6 77 "CutOnceModel" "isJoined" "Z"]
def wsX6_bend : List Cond := .code yX6_bend cX6_bend 6 (some .long) :: ((wsX6_bend_r1 ++ wsX6_bend_r2) ++ wsX60)
def wsX6_height : List Cond := .code yX6_height cX6_height 3 (some .long) :: ([.constantLong RX6 109 (4), .fieldLink RX6 7 "CutOnceModel" "heights" "[I", .methodLink RX6 105 yX6_noSide, .instanceMethod yX6_noSide, .selects RX6 yX6_noSide yX6_noSide, .initialized RX6, .code yX6_noSide cX6_noSide 2 (some .boolean), .methodLink RX6 67 yX6_sides, .instanceMethod yX6_sides, .selects RX6 yX6_sides yX6_sides, .code yX6_sides cX6_sides 1 (some .int), .fieldLink RX6 47 "CutOnceModel" "wide" "I", .fieldLink RX6 51 "CutOnceModel" "high" "I", .methodLink RX6 63 yX6_across, .instanceMethod yX6_across, .selects RX6 yX6_across yX6_across, .code yX6_across cX6_across 1 (some .int), .methodLink RX6 70 yX6_in, .static yX6_in, .code yX6_in cX6_in 6 (some .boolean), .methodLink RX6 59 yX6_lost, .static yX6_lost, .code yX6_lost cX6_lost 0 (some .long), .constantLong RX6 54 (-9223372036854775808)] ++ wsX60)
def wsX6_sideAt : List Cond := .code yX6_sideAt cX6_sideAt 6 (some .int) :: ([.fieldLink RX6 47 "CutOnceModel" "wide" "I", .fieldLink RX6 51 "CutOnceModel" "high" "I", .methodLink RX6 63 yX6_across, .instanceMethod yX6_across, .selects RX6 yX6_across yX6_across, .initialized RX6, .code yX6_across cX6_across 1 (some .int)] ++ wsX60)
def wsX6_sideOf : List Cond := .code yX6_sideOf cX6_sideOf 3 (some .int) :: ([.constantLong RX6 118 (3), .methodLink RX6 115 yX6_noPiece, .instanceMethod yX6_noPiece, .selects RX6 yX6_noPiece yX6_noPiece, .initialized RX6, .code yX6_noPiece cX6_noPiece 2 (some .boolean), .methodLink RX6 74 yX6_pieces, .instanceMethod yX6_pieces, .selects RX6 yX6_pieces yX6_pieces, .code yX6_pieces cX6_pieces 1 (some .int), .fieldLink RX6 47 "CutOnceModel" "wide" "I", .fieldLink RX6 51 "CutOnceModel" "high" "I", .methodLink RX6 70 yX6_in, .static yX6_in, .code yX6_in cX6_in 6 (some .boolean), .methodLink RX6 120 yX6_sideAt, .instanceMethod yX6_sideAt, .selects RX6 yX6_sideAt yX6_sideAt, .code yX6_sideAt cX6_sideAt 6 (some .int), .methodLink RX6 63 yX6_across, .instanceMethod yX6_across, .selects RX6 yX6_across yX6_across, .code yX6_across cX6_across 1 (some .int)] ++ wsX60)
def wsX6_heightAt : List Cond := .code yX6_heightAt cX6_heightAt 5 (some .int) :: ([.fieldLink RX6 7 "CutOnceModel" "heights" "[I", .methodLink RX6 120 yX6_sideAt, .instanceMethod yX6_sideAt, .selects RX6 yX6_sideAt yX6_sideAt, .initialized RX6, .code yX6_sideAt cX6_sideAt 6 (some .int), .fieldLink RX6 47 "CutOnceModel" "wide" "I", .fieldLink RX6 51 "CutOnceModel" "high" "I", .methodLink RX6 63 yX6_across, .instanceMethod yX6_across, .selects RX6 yX6_across yX6_across, .code yX6_across cX6_across 1 (some .int)] ++ wsX60)
def wsX6_edge_r1 : List Cond := [Cond.constantLong RX6 118 (3), Cond.constantLong RX6 109 (4), Cond.methodLink RX6 115 yX6_noPiece, Cond.instanceMethod yX6_noPiece, Cond.selects RX6 yX6_noPiece yX6_noPiece, Cond.initialized RX6, Cond.code yX6_noPiece cX6_noPiece 2 (some .boolean), Cond.methodLink RX6 74 yX6_pieces, Cond.instanceMethod yX6_pieces, Cond.selects RX6 yX6_pieces yX6_pieces, Cond.code yX6_pieces cX6_pieces 1 (some .int), Cond.fieldLink RX6 47 "CutOnceModel" "wide" "I", Cond.fieldLink RX6 51 "CutOnceModel" "high" "I", Cond.methodLink RX6 70 yX6_in, Cond.static yX6_in, Cond.code yX6_in cX6_in 6 (some .boolean), Cond.methodLink RX6 120 yX6_sideAt, Cond.instanceMethod yX6_sideAt, Cond.selects RX6 yX6_sideAt yX6_sideAt, Cond.code yX6_sideAt cX6_sideAt 6 (some .int), Cond.methodLink RX6 63 yX6_across, Cond.instanceMethod yX6_across, Cond.selects RX6 yX6_across yX6_across, Cond.code yX6_across cX6_across 1 (some .int)]
def wsX6_edge_r2 : List Cond := [Cond.methodLink RX6 59 yX6_lost, Cond.static yX6_lost, Cond.code yX6_lost cX6_lost 0 (some .long), Cond.constantLong RX6 54 (-9223372036854775808), Cond.methodLink RX6 124 yX6_heightAt, Cond.instanceMethod yX6_heightAt, Cond.selects RX6 yX6_heightAt yX6_heightAt, Cond.code yX6_heightAt cX6_heightAt 5 (some .int), Cond.fieldLink RX6 7 "CutOnceModel" "heights" "[I"]
def wsX6_edge : List Cond := .code yX6_edge cX6_edge 4 (some .long) :: ((wsX6_edge_r1 ++ wsX6_edge_r2) ++ wsX60)
def wsX6_farOf : List Cond := .code yX6_farOf cX6_farOf 7 (some .int) :: ([.methodLink RX6 124 yX6_heightAt, .instanceMethod yX6_heightAt, .selects RX6 yX6_heightAt yX6_heightAt, .initialized RX6, .code yX6_heightAt cX6_heightAt 5 (some .int), .fieldLink RX6 7 "CutOnceModel" "heights" "[I", .methodLink RX6 120 yX6_sideAt, .instanceMethod yX6_sideAt, .selects RX6 yX6_sideAt yX6_sideAt, .code yX6_sideAt cX6_sideAt 6 (some .int), .fieldLink RX6 47 "CutOnceModel" "wide" "I", .fieldLink RX6 51 "CutOnceModel" "high" "I", .methodLink RX6 63 yX6_across, .instanceMethod yX6_across, .selects RX6 yX6_across yX6_across, .code yX6_across cX6_across 1 (some .int), .methodLink RX6 128 yX6_sizeOf, .static yX6_sizeOf, .code yX6_sizeOf cX6_sizeOf 1 (some .int)] ++ wsX60)
def wsX6_far_r1 : List Cond := [Cond.constantLong RX6 118 (3), Cond.methodLink RX6 115 yX6_noPiece, Cond.instanceMethod yX6_noPiece, Cond.selects RX6 yX6_noPiece yX6_noPiece, Cond.initialized RX6, Cond.code yX6_noPiece cX6_noPiece 2 (some .boolean), Cond.methodLink RX6 74 yX6_pieces, Cond.instanceMethod yX6_pieces, Cond.selects RX6 yX6_pieces yX6_pieces, Cond.code yX6_pieces cX6_pieces 1 (some .int), Cond.fieldLink RX6 47 "CutOnceModel" "wide" "I", Cond.fieldLink RX6 51 "CutOnceModel" "high" "I", Cond.methodLink RX6 70 yX6_in, Cond.static yX6_in, Cond.code yX6_in cX6_in 6 (some .boolean), Cond.methodLink RX6 120 yX6_sideAt, Cond.instanceMethod yX6_sideAt, Cond.selects RX6 yX6_sideAt yX6_sideAt, Cond.code yX6_sideAt cX6_sideAt 6 (some .int), Cond.methodLink RX6 63 yX6_across, Cond.instanceMethod yX6_across, Cond.selects RX6 yX6_across yX6_across, Cond.code yX6_across cX6_across 1 (some .int), Cond.methodLink RX6 131 yX6_farOf]
def wsX6_far_r2 : List Cond := [Cond.instanceMethod yX6_farOf, Cond.selects RX6 yX6_farOf yX6_farOf, Cond.code yX6_farOf cX6_farOf 7 (some .int), Cond.methodLink RX6 124 yX6_heightAt, Cond.instanceMethod yX6_heightAt, Cond.selects RX6 yX6_heightAt yX6_heightAt, Cond.code yX6_heightAt cX6_heightAt 5 (some .int), Cond.fieldLink RX6 7 "CutOnceModel" "heights" "[I", Cond.methodLink RX6 128 yX6_sizeOf, Cond.static yX6_sizeOf, Cond.code yX6_sizeOf cX6_sizeOf 1 (some .int)]
def wsX6_far : List Cond := .code yX6_far cX6_far 5 (some .int) :: ((wsX6_far_r1 ++ wsX6_far_r2) ++ wsX60)
def wsX6_isBulge : List Cond := .code yX6_isBulge cX6_isBulge 5 (some .boolean) :: ([.fieldLink RX6 7 "CutOnceModel" "heights" "[I"] ++ wsX60)
def wsX6_isLike : List Cond := .code yX6_isLike cX6_isLike 6 (some .boolean) :: ([.fieldLink RX6 7 "CutOnceModel" "heights" "[I"] ++ wsX60)
def wsX6_kindOf : List Cond := .code yX6_kindOf cX6_kindOf 3 (some .int) :: ([.methodLink RX6 135 yX6_isBulge, .instanceMethod yX6_isBulge, .selects RX6 yX6_isBulge yX6_isBulge, .initialized RX6, .code yX6_isBulge cX6_isBulge 5 (some .boolean), .fieldLink RX6 7 "CutOnceModel" "heights" "[I", .methodLink RX6 67 yX6_sides, .instanceMethod yX6_sides, .selects RX6 yX6_sides yX6_sides, .code yX6_sides cX6_sides 1 (some .int), .fieldLink RX6 47 "CutOnceModel" "wide" "I", .fieldLink RX6 51 "CutOnceModel" "high" "I", .methodLink RX6 63 yX6_across, .instanceMethod yX6_across, .selects RX6 yX6_across yX6_across, .code yX6_across cX6_across 1 (some .int), .methodLink RX6 138 yX6_isLike, .instanceMethod yX6_isLike, .selects RX6 yX6_isLike yX6_isLike, .code yX6_isLike cX6_isLike 6 (some .boolean)] ++ wsX60)
def wsX6_kind_r1 : List Cond := [Cond.methodLink RX6 105 yX6_noSide, Cond.instanceMethod yX6_noSide, Cond.selects RX6 yX6_noSide yX6_noSide, Cond.initialized RX6, Cond.code yX6_noSide cX6_noSide 2 (some .boolean), Cond.methodLink RX6 67 yX6_sides, Cond.instanceMethod yX6_sides, Cond.selects RX6 yX6_sides yX6_sides, Cond.code yX6_sides cX6_sides 1 (some .int), Cond.fieldLink RX6 47 "CutOnceModel" "wide" "I", Cond.fieldLink RX6 51 "CutOnceModel" "high" "I", Cond.methodLink RX6 63 yX6_across, Cond.instanceMethod yX6_across, Cond.selects RX6 yX6_across yX6_across, Cond.code yX6_across cX6_across 1 (some .int), Cond.methodLink RX6 70 yX6_in, Cond.static yX6_in, Cond.code yX6_in cX6_in 6 (some .boolean), Cond.methodLink RX6 142 yX6_kindOf, Cond.instanceMethod yX6_kindOf, Cond.selects RX6 yX6_kindOf yX6_kindOf, Cond.code yX6_kindOf cX6_kindOf 3 (some .int), Cond.methodLink RX6 135 yX6_isBulge, Cond.instanceMethod yX6_isBulge]
def wsX6_kind_r2 : List Cond := [Cond.selects RX6 yX6_isBulge yX6_isBulge, Cond.code yX6_isBulge cX6_isBulge 5 (some .boolean), Cond.fieldLink RX6 7 "CutOnceModel" "heights" "[I", Cond.methodLink RX6 138 yX6_isLike, Cond.instanceMethod yX6_isLike, Cond.selects RX6 yX6_isLike yX6_isLike, Cond.code yX6_isLike cX6_isLike 6 (some .boolean)]
def wsX6_kind : List Cond := .code yX6_kind cX6_kind 2 (some .int) :: ((wsX6_kind_r1 ++ wsX6_kind_r2) ++ wsX60)
def wsX6_goThrough_r1 : List Cond := [Cond.fieldLink RX6 145 "CutOnceModel" "leastFar" "I", Cond.fieldLink RX6 148 "CutOnceModel" "near" "I", Cond.methodLink RX6 74 yX6_pieces, Cond.instanceMethod yX6_pieces, Cond.selects RX6 yX6_pieces yX6_pieces, Cond.initialized RX6, Cond.code yX6_pieces cX6_pieces 1 (some .int), Cond.fieldLink RX6 47 "CutOnceModel" "wide" "I", Cond.fieldLink RX6 51 "CutOnceModel" "high" "I", Cond.methodLink RX6 120 yX6_sideAt, Cond.instanceMethod yX6_sideAt, Cond.selects RX6 yX6_sideAt yX6_sideAt, Cond.code yX6_sideAt cX6_sideAt 6 (some .int), Cond.methodLink RX6 63 yX6_across, Cond.instanceMethod yX6_across, Cond.selects RX6 yX6_across yX6_across, Cond.code yX6_across cX6_across 1 (some .int), Cond.methodLink RX6 131 yX6_farOf, Cond.instanceMethod yX6_farOf, Cond.selects RX6 yX6_farOf yX6_farOf, Cond.code yX6_farOf cX6_farOf 7 (some .int), Cond.methodLink RX6 124 yX6_heightAt, Cond.instanceMethod yX6_heightAt, Cond.selects RX6 yX6_heightAt yX6_heightAt]
def wsX6_goThrough_r2 : List Cond := [Cond.code yX6_heightAt cX6_heightAt 5 (some .int), Cond.fieldLink RX6 7 "CutOnceModel" "heights" "[I", Cond.methodLink RX6 128 yX6_sizeOf, Cond.static yX6_sizeOf, Cond.code yX6_sizeOf cX6_sizeOf 1 (some .int)]
def wsX6_goThrough : List Cond := .code yX6_goThrough cX6_goThrough 7 none :: ((wsX6_goThrough_r1 ++ wsX6_goThrough_r2) ++ wsX60)
def wsX6_unlike_r1 : List Cond := [Cond.fieldLink RX6 145 "CutOnceModel" "leastFar" "I", Cond.methodLink RX6 151 yX6_goThrough, Cond.instanceMethod yX6_goThrough, Cond.selects RX6 yX6_goThrough yX6_goThrough, Cond.initialized RX6, Cond.code yX6_goThrough cX6_goThrough 7 none, Cond.fieldLink RX6 148 "CutOnceModel" "near" "I", Cond.methodLink RX6 74 yX6_pieces, Cond.instanceMethod yX6_pieces, Cond.selects RX6 yX6_pieces yX6_pieces, Cond.code yX6_pieces cX6_pieces 1 (some .int), Cond.fieldLink RX6 47 "CutOnceModel" "wide" "I", Cond.fieldLink RX6 51 "CutOnceModel" "high" "I", Cond.methodLink RX6 120 yX6_sideAt, Cond.instanceMethod yX6_sideAt, Cond.selects RX6 yX6_sideAt yX6_sideAt, Cond.code yX6_sideAt cX6_sideAt 6 (some .int), Cond.methodLink RX6 63 yX6_across, Cond.instanceMethod yX6_across, Cond.selects RX6 yX6_across yX6_across, Cond.code yX6_across cX6_across 1 (some .int), Cond.methodLink RX6 131 yX6_farOf, Cond.instanceMethod yX6_farOf, Cond.selects RX6 yX6_farOf yX6_farOf]
def wsX6_unlike_r2 : List Cond := [Cond.code yX6_farOf cX6_farOf 7 (some .int), Cond.methodLink RX6 124 yX6_heightAt, Cond.instanceMethod yX6_heightAt, Cond.selects RX6 yX6_heightAt yX6_heightAt, Cond.code yX6_heightAt cX6_heightAt 5 (some .int), Cond.fieldLink RX6 7 "CutOnceModel" "heights" "[I", Cond.methodLink RX6 128 yX6_sizeOf, Cond.static yX6_sizeOf, Cond.code yX6_sizeOf cX6_sizeOf 1 (some .int)]
def wsX6_unlike : List Cond := .code yX6_unlike cX6_unlike 1 (some .int) :: ((wsX6_unlike_r1 ++ wsX6_unlike_r2) ++ wsX60)
def wsX6_traps_r1 : List Cond := [Cond.fieldLink RX6 148 "CutOnceModel" "near" "I", Cond.methodLink RX6 151 yX6_goThrough, Cond.instanceMethod yX6_goThrough, Cond.selects RX6 yX6_goThrough yX6_goThrough, Cond.initialized RX6, Cond.code yX6_goThrough cX6_goThrough 7 none, Cond.fieldLink RX6 145 "CutOnceModel" "leastFar" "I", Cond.methodLink RX6 74 yX6_pieces, Cond.instanceMethod yX6_pieces, Cond.selects RX6 yX6_pieces yX6_pieces, Cond.code yX6_pieces cX6_pieces 1 (some .int), Cond.fieldLink RX6 47 "CutOnceModel" "wide" "I", Cond.fieldLink RX6 51 "CutOnceModel" "high" "I", Cond.methodLink RX6 120 yX6_sideAt, Cond.instanceMethod yX6_sideAt, Cond.selects RX6 yX6_sideAt yX6_sideAt, Cond.code yX6_sideAt cX6_sideAt 6 (some .int), Cond.methodLink RX6 63 yX6_across, Cond.instanceMethod yX6_across, Cond.selects RX6 yX6_across yX6_across, Cond.code yX6_across cX6_across 1 (some .int), Cond.methodLink RX6 131 yX6_farOf, Cond.instanceMethod yX6_farOf, Cond.selects RX6 yX6_farOf yX6_farOf]
def wsX6_traps_r2 : List Cond := [Cond.code yX6_farOf cX6_farOf 7 (some .int), Cond.methodLink RX6 124 yX6_heightAt, Cond.instanceMethod yX6_heightAt, Cond.selects RX6 yX6_heightAt yX6_heightAt, Cond.code yX6_heightAt cX6_heightAt 5 (some .int), Cond.fieldLink RX6 7 "CutOnceModel" "heights" "[I", Cond.methodLink RX6 128 yX6_sizeOf, Cond.static yX6_sizeOf, Cond.code yX6_sizeOf cX6_sizeOf 1 (some .int)]
def wsX6_traps : List Cond := .code yX6_traps cX6_traps 2 (some .int) :: ((wsX6_traps_r1 ++ wsX6_traps_r2) ++ wsX60)
def wsX6_alike : List Cond := .code yX6_alike cX6_alike 7 (some .int) :: ([.fieldLink RX6 7 "CutOnceModel" "heights" "[I", .methodLink RX6 105 yX6_noSide, .instanceMethod yX6_noSide, .selects RX6 yX6_noSide yX6_noSide, .initialized RX6, .code yX6_noSide cX6_noSide 2 (some .boolean), .methodLink RX6 67 yX6_sides, .instanceMethod yX6_sides, .selects RX6 yX6_sides yX6_sides, .code yX6_sides cX6_sides 1 (some .int), .fieldLink RX6 47 "CutOnceModel" "wide" "I", .fieldLink RX6 51 "CutOnceModel" "high" "I", .methodLink RX6 63 yX6_across, .instanceMethod yX6_across, .selects RX6 yX6_across yX6_across, .code yX6_across cX6_across 1 (some .int), .methodLink RX6 70 yX6_in, .static yX6_in, .code yX6_in cX6_in 6 (some .boolean), .methodLink RX6 86 yX6_changed, .instanceMethod yX6_changed, .selects RX6 yX6_changed yX6_changed, .code yX6_changed cX6_changed 1 none, .fieldLink RX6 77 "CutOnceModel" "isJoined" "Z"] ++ wsX60)
def wsX6_lay : List Cond := .code yX6_lay cX6_lay 3 (some .int) :: ([.constantLong RX6 118 (3), .fieldLink RX6 83 "CutOnceModel" "heaped" "I", .fieldLink RX6 13 "CutOnceModel" "piece" "[I", .fieldLink RX6 16 "CutOnceModel" "turn" "[I", .methodLink RX6 115 yX6_noPiece, .instanceMethod yX6_noPiece, .selects RX6 yX6_noPiece yX6_noPiece, .initialized RX6, .code yX6_noPiece cX6_noPiece 2 (some .boolean), .methodLink RX6 74 yX6_pieces, .instanceMethod yX6_pieces, .selects RX6 yX6_pieces yX6_pieces, .code yX6_pieces cX6_pieces 1 (some .int), .fieldLink RX6 47 "CutOnceModel" "wide" "I", .fieldLink RX6 51 "CutOnceModel" "high" "I", .methodLink RX6 70 yX6_in, .static yX6_in, .code yX6_in cX6_in 6 (some .boolean), .methodLink RX6 86 yX6_changed, .instanceMethod yX6_changed, .selects RX6 yX6_changed yX6_changed, .code yX6_changed cX6_changed 1 none, .fieldLink RX6 77 "CutOnceModel" "isJoined" "Z"] ++ wsX60)
def wsX6_heap : List Cond := .code yX6_heap cX6_heap 6 (some .int) :: ([.fieldLink RX6 89 "CutOnceModel" "draw" "J", .fieldLink RX6 83 "CutOnceModel" "heaped" "I", .fieldLink RX6 13 "CutOnceModel" "piece" "[I", .fieldLink RX6 16 "CutOnceModel" "turn" "[I", .methodLink RX6 74 yX6_pieces, .instanceMethod yX6_pieces, .selects RX6 yX6_pieces yX6_pieces, .initialized RX6, .code yX6_pieces cX6_pieces 1 (some .int), .fieldLink RX6 47 "CutOnceModel" "wide" "I", .fieldLink RX6 51 "CutOnceModel" "high" "I", .methodLink RX6 101 yX6_numberBelow, .instanceMethod yX6_numberBelow, .selects RX6 yX6_numberBelow yX6_numberBelow, .code yX6_numberBelow cX6_numberBelow 2 (some .int), .constantLong RX6 93 (6364136223846793005), .constantLong RX6 95 (1442695040888963407), .constantLong RX6 97 (2147483647), .constantLong RX6 99 (4096), .methodLink RX6 86 yX6_changed, .instanceMethod yX6_changed, .selects RX6 yX6_changed yX6_changed, .code yX6_changed cX6_changed 1 none, .fieldLink RX6 77 "CutOnceModel" "isJoined" "Z"] ++ wsX60)
def wsX6_noPlace : List Cond := .code yX6_noPlace cX6_noPlace 2 (some .boolean) :: ([.fieldLink RX6 83 "CutOnceModel" "heaped" "I", .methodLink RX6 70 yX6_in, .static yX6_in, .initialized RX6, .code yX6_in cX6_in 6 (some .boolean)] ++ wsX60)
def wsX6_take : List Cond := .code yX6_take cX6_take 4 (some .int) :: ([.fieldLink RX6 13 "CutOnceModel" "piece" "[I", .fieldLink RX6 83 "CutOnceModel" "heaped" "I", .fieldLink RX6 16 "CutOnceModel" "turn" "[I", .methodLink RX6 155 yX6_noPlace, .instanceMethod yX6_noPlace, .selects RX6 yX6_noPlace yX6_noPlace, .initialized RX6, .code yX6_noPlace cX6_noPlace 2 (some .boolean), .methodLink RX6 70 yX6_in, .static yX6_in, .code yX6_in cX6_in 6 (some .boolean), .methodLink RX6 86 yX6_changed, .instanceMethod yX6_changed, .selects RX6 yX6_changed yX6_changed, .code yX6_changed cX6_changed 1 none, .fieldLink RX6 77 "CutOnceModel" "isJoined" "Z"] ++ wsX60)
def wsX6_heaped : List Cond := .code yX6_heaped cX6_heaped 3 (some .int) :: ([.fieldLink RX6 13 "CutOnceModel" "piece" "[I", .fieldLink RX6 16 "CutOnceModel" "turn" "[I", .methodLink RX6 155 yX6_noPlace, .instanceMethod yX6_noPlace, .selects RX6 yX6_noPlace yX6_noPlace, .initialized RX6, .code yX6_noPlace cX6_noPlace 2 (some .boolean), .fieldLink RX6 83 "CutOnceModel" "heaped" "I", .methodLink RX6 70 yX6_in, .static yX6_in, .code yX6_in cX6_in 6 (some .boolean)] ++ wsX60)
def wsX6_timesIn : List Cond := .code yX6_timesIn cX6_timesIn 4 (some .int) :: ([.fieldLink RX6 83 "CutOnceModel" "heaped" "I", .fieldLink RX6 13 "CutOnceModel" "piece" "[I"] ++ wsX60)
def wsX6_isMissing : List Cond := .code yX6_isMissing cX6_isMissing 3 (some .boolean) :: ([.methodLink RX6 158 yX6_timesIn, .instanceMethod yX6_timesIn, .selects RX6 yX6_timesIn yX6_timesIn, .initialized RX6, .code yX6_timesIn cX6_timesIn 4 (some .int), .fieldLink RX6 83 "CutOnceModel" "heaped" "I", .fieldLink RX6 13 "CutOnceModel" "piece" "[I"] ++ wsX60)
def wsX6_missing : List Cond := .code yX6_missing cX6_missing 4 (some .int) :: ([.methodLink RX6 70 yX6_in, .static yX6_in, .initialized RX6, .code yX6_in cX6_in 6 (some .boolean), .methodLink RX6 74 yX6_pieces, .instanceMethod yX6_pieces, .selects RX6 yX6_pieces yX6_pieces, .code yX6_pieces cX6_pieces 1 (some .int), .fieldLink RX6 47 "CutOnceModel" "wide" "I", .fieldLink RX6 51 "CutOnceModel" "high" "I", .methodLink RX6 161 yX6_isMissing, .instanceMethod yX6_isMissing, .selects RX6 yX6_isMissing yX6_isMissing, .code yX6_isMissing cX6_isMissing 3 (some .boolean), .methodLink RX6 158 yX6_timesIn, .instanceMethod yX6_timesIn, .selects RX6 yX6_timesIn yX6_timesIn, .code yX6_timesIn cX6_timesIn 4 (some .int), .fieldLink RX6 83 "CutOnceModel" "heaped" "I", .fieldLink RX6 13 "CutOnceModel" "piece" "[I"] ++ wsX60)
def wsX6_missed : List Cond := .code yX6_missed cX6_missed 5 (some .int) :: ([.methodLink RX6 70 yX6_in, .static yX6_in, .initialized RX6, .code yX6_in cX6_in 6 (some .boolean), .methodLink RX6 164 yX6_missing, .instanceMethod yX6_missing, .selects RX6 yX6_missing yX6_missing, .code yX6_missing cX6_missing 4 (some .int), .methodLink RX6 74 yX6_pieces, .instanceMethod yX6_pieces, .selects RX6 yX6_pieces yX6_pieces, .code yX6_pieces cX6_pieces 1 (some .int), .fieldLink RX6 47 "CutOnceModel" "wide" "I", .fieldLink RX6 51 "CutOnceModel" "high" "I", .methodLink RX6 161 yX6_isMissing, .instanceMethod yX6_isMissing, .selects RX6 yX6_isMissing yX6_isMissing, .code yX6_isMissing cX6_isMissing 3 (some .boolean), .methodLink RX6 158 yX6_timesIn, .instanceMethod yX6_timesIn, .selects RX6 yX6_timesIn yX6_timesIn, .code yX6_timesIn cX6_timesIn 4 (some .int), .fieldLink RX6 83 "CutOnceModel" "heaped" "I", .fieldLink RX6 13 "CutOnceModel" "piece" "[I"] ++ wsX60)
def wsX6_edgeOn : List Cond := .code yX6_edgeOn cX6_edgeOn 3 (some .int) :: ([.fieldLink RX6 16 "CutOnceModel" "turn" "[I", .fieldLink RX6 19 "CutOnceModel" "at" "[I", .fieldLink RX6 22 "CutOnceModel" "further" "[I"] ++ wsX60)
def wsX6_isFlat : List Cond := .code yX6_isFlat cX6_isFlat 3 (some .boolean) :: ([.fieldLink RX6 13 "CutOnceModel" "piece" "[I", .fieldLink RX6 19 "CutOnceModel" "at" "[I", .methodLink RX6 167 yX6_edgeOn, .instanceMethod yX6_edgeOn, .selects RX6 yX6_edgeOn yX6_edgeOn, .initialized RX6, .code yX6_edgeOn cX6_edgeOn 3 (some .int), .fieldLink RX6 16 "CutOnceModel" "turn" "[I", .fieldLink RX6 22 "CutOnceModel" "further" "[I", .methodLink RX6 120 yX6_sideAt, .instanceMethod yX6_sideAt, .selects RX6 yX6_sideAt yX6_sideAt, .code yX6_sideAt cX6_sideAt 6 (some .int), .fieldLink RX6 47 "CutOnceModel" "wide" "I", .fieldLink RX6 51 "CutOnceModel" "high" "I", .methodLink RX6 63 yX6_across, .instanceMethod yX6_across, .selects RX6 yX6_across yX6_across, .code yX6_across cX6_across 1 (some .int)] ++ wsX60)
def wsX6_meets_r1 : List Cond := [Cond.fieldLink RX6 13 "CutOnceModel" "piece" "[I", Cond.fieldLink RX6 19 "CutOnceModel" "at" "[I", Cond.methodLink RX6 170 yX6_isFlat, Cond.instanceMethod yX6_isFlat, Cond.selects RX6 yX6_isFlat yX6_isFlat, Cond.initialized RX6, Cond.code yX6_isFlat cX6_isFlat 3 (some .boolean), Cond.methodLink RX6 167 yX6_edgeOn, Cond.instanceMethod yX6_edgeOn, Cond.selects RX6 yX6_edgeOn yX6_edgeOn, Cond.code yX6_edgeOn cX6_edgeOn 3 (some .int), Cond.fieldLink RX6 16 "CutOnceModel" "turn" "[I", Cond.fieldLink RX6 22 "CutOnceModel" "further" "[I", Cond.methodLink RX6 120 yX6_sideAt, Cond.instanceMethod yX6_sideAt, Cond.selects RX6 yX6_sideAt yX6_sideAt, Cond.code yX6_sideAt cX6_sideAt 6 (some .int), Cond.fieldLink RX6 47 "CutOnceModel" "wide" "I", Cond.fieldLink RX6 51 "CutOnceModel" "high" "I", Cond.methodLink RX6 63 yX6_across, Cond.instanceMethod yX6_across, Cond.selects RX6 yX6_across yX6_across, Cond.code yX6_across cX6_across 1 (some .int), Cond.methodLink RX6 131 yX6_farOf]
def wsX6_meets_r2 : List Cond := [Cond.instanceMethod yX6_farOf, Cond.selects RX6 yX6_farOf yX6_farOf, Cond.code yX6_farOf cX6_farOf 7 (some .int), Cond.methodLink RX6 124 yX6_heightAt, Cond.instanceMethod yX6_heightAt, Cond.selects RX6 yX6_heightAt yX6_heightAt, Cond.code yX6_heightAt cX6_heightAt 5 (some .int), Cond.fieldLink RX6 7 "CutOnceModel" "heights" "[I", Cond.methodLink RX6 128 yX6_sizeOf, Cond.static yX6_sizeOf, Cond.code yX6_sizeOf cX6_sizeOf 1 (some .int)]
def wsX6_meets : List Cond := .code yX6_meets cX6_meets 5 (some .boolean) :: ((wsX6_meets_r1 ++ wsX6_meets_r2) ++ wsX60)
def wsX6_fits_r1 : List Cond := [Cond.fieldLink RX6 47 "CutOnceModel" "wide" "I", Cond.fieldLink RX6 51 "CutOnceModel" "high" "I", Cond.methodLink RX6 170 yX6_isFlat, Cond.instanceMethod yX6_isFlat, Cond.selects RX6 yX6_isFlat yX6_isFlat, Cond.initialized RX6, Cond.code yX6_isFlat cX6_isFlat 3 (some .boolean), Cond.fieldLink RX6 13 "CutOnceModel" "piece" "[I", Cond.fieldLink RX6 19 "CutOnceModel" "at" "[I", Cond.methodLink RX6 167 yX6_edgeOn, Cond.instanceMethod yX6_edgeOn, Cond.selects RX6 yX6_edgeOn yX6_edgeOn, Cond.code yX6_edgeOn cX6_edgeOn 3 (some .int), Cond.fieldLink RX6 16 "CutOnceModel" "turn" "[I", Cond.fieldLink RX6 22 "CutOnceModel" "further" "[I", Cond.methodLink RX6 120 yX6_sideAt, Cond.instanceMethod yX6_sideAt, Cond.selects RX6 yX6_sideAt yX6_sideAt, Cond.code yX6_sideAt cX6_sideAt 6 (some .int), Cond.methodLink RX6 63 yX6_across, Cond.instanceMethod yX6_across, Cond.selects RX6 yX6_across yX6_across, Cond.code yX6_across cX6_across 1 (some .int), Cond.methodLink RX6 173 yX6_meets]
def wsX6_fits_r2 : List Cond := [Cond.instanceMethod yX6_meets, Cond.selects RX6 yX6_meets yX6_meets, Cond.code yX6_meets cX6_meets 5 (some .boolean), Cond.methodLink RX6 131 yX6_farOf, Cond.instanceMethod yX6_farOf, Cond.selects RX6 yX6_farOf yX6_farOf, Cond.code yX6_farOf cX6_farOf 7 (some .int), Cond.methodLink RX6 124 yX6_heightAt, Cond.instanceMethod yX6_heightAt, Cond.selects RX6 yX6_heightAt yX6_heightAt, Cond.code yX6_heightAt cX6_heightAt 5 (some .int), Cond.fieldLink RX6 7 "CutOnceModel" "heights" "[I", Cond.methodLink RX6 128 yX6_sizeOf, Cond.static yX6_sizeOf, Cond.code yX6_sizeOf cX6_sizeOf 1 (some .int)]
def wsX6_fits : List Cond := .code yX6_fits cX6_fits 5 (some .boolean) :: ((wsX6_fits_r1 ++ wsX6_fits_r2) ++ wsX60)
def wsX6_search_r1 : List Cond := [Cond.fieldLink RX6 177 "CutOnceModel" "tried" "I", Cond.fieldLink RX6 180 "CutOnceModel" "found" "I", Cond.fieldLink RX6 25 "CutOnceModel" "isUsed" "[Z", Cond.fieldLink RX6 19 "CutOnceModel" "at" "[I", Cond.fieldLink RX6 22 "CutOnceModel" "further" "[I", Cond.fieldLink RX6 83 "CutOnceModel" "heaped" "I", Cond.constant RX6 183 (60000), Cond.methodLink RX6 184 yX6_fits, Cond.instanceMethod yX6_fits, Cond.selects RX6 yX6_fits yX6_fits, Cond.initialized RX6, Cond.code yX6_fits cX6_fits 5 (some .boolean), Cond.fieldLink RX6 47 "CutOnceModel" "wide" "I", Cond.fieldLink RX6 51 "CutOnceModel" "high" "I", Cond.methodLink RX6 170 yX6_isFlat, Cond.instanceMethod yX6_isFlat, Cond.selects RX6 yX6_isFlat yX6_isFlat, Cond.code yX6_isFlat cX6_isFlat 3 (some .boolean), Cond.fieldLink RX6 13 "CutOnceModel" "piece" "[I", Cond.methodLink RX6 167 yX6_edgeOn, Cond.instanceMethod yX6_edgeOn, Cond.selects RX6 yX6_edgeOn yX6_edgeOn, Cond.code yX6_edgeOn cX6_edgeOn 3 (some .int), Cond.fieldLink RX6 16 "CutOnceModel" "turn" "[I"]
def wsX6_search_r2 : List Cond := [Cond.methodLink RX6 120 yX6_sideAt, Cond.instanceMethod yX6_sideAt, Cond.selects RX6 yX6_sideAt yX6_sideAt, Cond.code yX6_sideAt cX6_sideAt 6 (some .int), Cond.methodLink RX6 63 yX6_across, Cond.instanceMethod yX6_across, Cond.selects RX6 yX6_across yX6_across, Cond.code yX6_across cX6_across 1 (some .int), Cond.methodLink RX6 173 yX6_meets, Cond.instanceMethod yX6_meets, Cond.selects RX6 yX6_meets yX6_meets, Cond.code yX6_meets cX6_meets 5 (some .boolean), Cond.methodLink RX6 131 yX6_farOf, Cond.instanceMethod yX6_farOf, Cond.selects RX6 yX6_farOf yX6_farOf, Cond.code yX6_farOf cX6_farOf 7 (some .int), Cond.methodLink RX6 124 yX6_heightAt, Cond.instanceMethod yX6_heightAt, Cond.selects RX6 yX6_heightAt yX6_heightAt, Cond.code yX6_heightAt cX6_heightAt 5 (some .int), Cond.fieldLink RX6 7 "CutOnceModel" "heights" "[I", Cond.methodLink RX6 128 yX6_sizeOf, Cond.static yX6_sizeOf, Cond.code yX6_sizeOf cX6_sizeOf 1 (some .int)]
def wsX6_search_r3 : List Cond := [Cond.methodLink RX6 74 yX6_pieces, Cond.instanceMethod yX6_pieces, Cond.selects RX6 yX6_pieces yX6_pieces, Cond.code yX6_pieces cX6_pieces 1 (some .int)]
def wsX6_search : List Cond := .code yX6_search cX6_search 3 (some .boolean) :: ((wsX6_search_r1 ++ (wsX6_search_r2 ++ wsX6_search_r3)) ++ wsX60)
def wsX6_ways_r1 : List Cond := [Cond.fieldLink RX6 180 "CutOnceModel" "found" "I", Cond.methodLink RX6 187 yX6_search, Cond.instanceMethod yX6_search, Cond.selects RX6 yX6_search yX6_search, Cond.initialized RX6, Cond.code yX6_search cX6_search 3 (some .boolean), Cond.fieldLink RX6 177 "CutOnceModel" "tried" "I", Cond.fieldLink RX6 25 "CutOnceModel" "isUsed" "[Z", Cond.fieldLink RX6 19 "CutOnceModel" "at" "[I", Cond.fieldLink RX6 22 "CutOnceModel" "further" "[I", Cond.fieldLink RX6 83 "CutOnceModel" "heaped" "I", Cond.constant RX6 183 (60000), Cond.methodLink RX6 184 yX6_fits, Cond.instanceMethod yX6_fits, Cond.selects RX6 yX6_fits yX6_fits, Cond.code yX6_fits cX6_fits 5 (some .boolean), Cond.fieldLink RX6 47 "CutOnceModel" "wide" "I", Cond.fieldLink RX6 51 "CutOnceModel" "high" "I", Cond.methodLink RX6 170 yX6_isFlat, Cond.instanceMethod yX6_isFlat, Cond.selects RX6 yX6_isFlat yX6_isFlat, Cond.code yX6_isFlat cX6_isFlat 3 (some .boolean), Cond.fieldLink RX6 13 "CutOnceModel" "piece" "[I", Cond.methodLink RX6 167 yX6_edgeOn]
def wsX6_ways_r2 : List Cond := [Cond.instanceMethod yX6_edgeOn, Cond.selects RX6 yX6_edgeOn yX6_edgeOn, Cond.code yX6_edgeOn cX6_edgeOn 3 (some .int), Cond.fieldLink RX6 16 "CutOnceModel" "turn" "[I", Cond.methodLink RX6 120 yX6_sideAt, Cond.instanceMethod yX6_sideAt, Cond.selects RX6 yX6_sideAt yX6_sideAt, Cond.code yX6_sideAt cX6_sideAt 6 (some .int), Cond.methodLink RX6 63 yX6_across, Cond.instanceMethod yX6_across, Cond.selects RX6 yX6_across yX6_across, Cond.code yX6_across cX6_across 1 (some .int), Cond.methodLink RX6 173 yX6_meets, Cond.instanceMethod yX6_meets, Cond.selects RX6 yX6_meets yX6_meets, Cond.code yX6_meets cX6_meets 5 (some .boolean), Cond.methodLink RX6 131 yX6_farOf, Cond.instanceMethod yX6_farOf, Cond.selects RX6 yX6_farOf yX6_farOf, Cond.code yX6_farOf cX6_farOf 7 (some .int), Cond.methodLink RX6 124 yX6_heightAt, Cond.instanceMethod yX6_heightAt, Cond.selects RX6 yX6_heightAt yX6_heightAt, Cond.code yX6_heightAt cX6_heightAt 5 (some .int)]
def wsX6_ways_r3 : List Cond := [Cond.fieldLink RX6 7 "CutOnceModel" "heights" "[I", Cond.methodLink RX6 128 yX6_sizeOf, Cond.static yX6_sizeOf, Cond.code yX6_sizeOf cX6_sizeOf 1 (some .int), Cond.methodLink RX6 74 yX6_pieces, Cond.instanceMethod yX6_pieces, Cond.selects RX6 yX6_pieces yX6_pieces, Cond.code yX6_pieces cX6_pieces 1 (some .int)]
def wsX6_ways : List Cond := .code yX6_ways cX6_ways 1 (some .int) :: ((wsX6_ways_r1 ++ (wsX6_ways_r2 ++ wsX6_ways_r3)) ++ wsX60)
def wsX6_join_r1 : List Cond := [Cond.fieldLink RX6 180 "CutOnceModel" "found" "I", Cond.fieldLink RX6 77 "CutOnceModel" "isJoined" "Z", Cond.fieldLink RX6 29 "CutOnceModel" "joinedAt" "[I", Cond.fieldLink RX6 19 "CutOnceModel" "at" "[I", Cond.fieldLink RX6 32 "CutOnceModel" "joinedTurn" "[I", Cond.fieldLink RX6 22 "CutOnceModel" "further" "[I", Cond.methodLink RX6 187 yX6_search, Cond.instanceMethod yX6_search, Cond.selects RX6 yX6_search yX6_search, Cond.initialized RX6, Cond.code yX6_search cX6_search 3 (some .boolean), Cond.fieldLink RX6 177 "CutOnceModel" "tried" "I", Cond.fieldLink RX6 25 "CutOnceModel" "isUsed" "[Z", Cond.fieldLink RX6 83 "CutOnceModel" "heaped" "I", Cond.constant RX6 183 (60000), Cond.methodLink RX6 184 yX6_fits, Cond.instanceMethod yX6_fits, Cond.selects RX6 yX6_fits yX6_fits, Cond.code yX6_fits cX6_fits 5 (some .boolean), Cond.fieldLink RX6 47 "CutOnceModel" "wide" "I", Cond.fieldLink RX6 51 "CutOnceModel" "high" "I", Cond.methodLink RX6 170 yX6_isFlat, Cond.instanceMethod yX6_isFlat, Cond.selects RX6 yX6_isFlat yX6_isFlat]
def wsX6_join_r2 : List Cond := [Cond.code yX6_isFlat cX6_isFlat 3 (some .boolean), Cond.fieldLink RX6 13 "CutOnceModel" "piece" "[I", Cond.methodLink RX6 167 yX6_edgeOn, Cond.instanceMethod yX6_edgeOn, Cond.selects RX6 yX6_edgeOn yX6_edgeOn, Cond.code yX6_edgeOn cX6_edgeOn 3 (some .int), Cond.fieldLink RX6 16 "CutOnceModel" "turn" "[I", Cond.methodLink RX6 120 yX6_sideAt, Cond.instanceMethod yX6_sideAt, Cond.selects RX6 yX6_sideAt yX6_sideAt, Cond.code yX6_sideAt cX6_sideAt 6 (some .int), Cond.methodLink RX6 63 yX6_across, Cond.instanceMethod yX6_across, Cond.selects RX6 yX6_across yX6_across, Cond.code yX6_across cX6_across 1 (some .int), Cond.methodLink RX6 173 yX6_meets, Cond.instanceMethod yX6_meets, Cond.selects RX6 yX6_meets yX6_meets, Cond.code yX6_meets cX6_meets 5 (some .boolean), Cond.methodLink RX6 131 yX6_farOf, Cond.instanceMethod yX6_farOf, Cond.selects RX6 yX6_farOf yX6_farOf, Cond.code yX6_farOf cX6_farOf 7 (some .int), Cond.methodLink RX6 124 yX6_heightAt]
def wsX6_join_r3 : List Cond := [Cond.instanceMethod yX6_heightAt, Cond.selects RX6 yX6_heightAt yX6_heightAt, Cond.code yX6_heightAt cX6_heightAt 5 (some .int), Cond.fieldLink RX6 7 "CutOnceModel" "heights" "[I", Cond.methodLink RX6 128 yX6_sizeOf, Cond.static yX6_sizeOf, Cond.code yX6_sizeOf cX6_sizeOf 1 (some .int), Cond.methodLink RX6 74 yX6_pieces, Cond.instanceMethod yX6_pieces, Cond.selects RX6 yX6_pieces yX6_pieces, Cond.code yX6_pieces cX6_pieces 1 (some .int)]
def wsX6_join : List Cond := .code yX6_join cX6_join 2 (some .int) :: ((wsX6_join_r1 ++ (wsX6_join_r2 ++ wsX6_join_r3)) ++ wsX60)
def wsX6_joined : List Cond := .code yX6_joined cX6_joined 3 (some .int) :: ([.fieldLink RX6 77 "CutOnceModel" "isJoined" "Z", .fieldLink RX6 29 "CutOnceModel" "joinedAt" "[I", .fieldLink RX6 32 "CutOnceModel" "joinedTurn" "[I", .methodLink RX6 115 yX6_noPiece, .instanceMethod yX6_noPiece, .selects RX6 yX6_noPiece yX6_noPiece, .initialized RX6, .code yX6_noPiece cX6_noPiece 2 (some .boolean), .methodLink RX6 74 yX6_pieces, .instanceMethod yX6_pieces, .selects RX6 yX6_pieces yX6_pieces, .code yX6_pieces cX6_pieces 1 (some .int), .fieldLink RX6 47 "CutOnceModel" "wide" "I", .fieldLink RX6 51 "CutOnceModel" "high" "I", .methodLink RX6 70 yX6_in, .static yX6_in, .code yX6_in cX6_in 6 (some .boolean)] ++ wsX60)
def wsX6_trials : List Cond := .code yX6_trials cX6_trials 1 (some .int) :: ([.fieldLink RX6 177 "CutOnceModel" "tried" "I"] ++ wsX60)
def wsX6_neighbour : List Cond := .code yX6_neighbour cX6_neighbour 3 (some .int) :: ([.fieldLink RX6 47 "CutOnceModel" "wide" "I"] ++ wsX60)
def wsX6_known_r1 : List Cond := [Cond.methodLink RX6 115 yX6_noPiece, Cond.instanceMethod yX6_noPiece, Cond.selects RX6 yX6_noPiece yX6_noPiece, Cond.initialized RX6, Cond.code yX6_noPiece cX6_noPiece 2 (some .boolean), Cond.methodLink RX6 74 yX6_pieces, Cond.instanceMethod yX6_pieces, Cond.selects RX6 yX6_pieces yX6_pieces, Cond.code yX6_pieces cX6_pieces 1 (some .int), Cond.fieldLink RX6 47 "CutOnceModel" "wide" "I", Cond.fieldLink RX6 51 "CutOnceModel" "high" "I", Cond.methodLink RX6 70 yX6_in, Cond.static yX6_in, Cond.code yX6_in cX6_in 6 (some .boolean), Cond.methodLink RX6 158 yX6_timesIn, Cond.instanceMethod yX6_timesIn, Cond.selects RX6 yX6_timesIn yX6_timesIn, Cond.code yX6_timesIn cX6_timesIn 4 (some .int), Cond.fieldLink RX6 83 "CutOnceModel" "heaped" "I", Cond.fieldLink RX6 13 "CutOnceModel" "piece" "[I", Cond.methodLink RX6 120 yX6_sideAt, Cond.instanceMethod yX6_sideAt, Cond.selects RX6 yX6_sideAt yX6_sideAt, Cond.code yX6_sideAt cX6_sideAt 6 (some .int)]
def wsX6_known_r2 : List Cond := [Cond.methodLink RX6 63 yX6_across, Cond.instanceMethod yX6_across, Cond.selects RX6 yX6_across yX6_across, Cond.code yX6_across cX6_across 1 (some .int), Cond.methodLink RX6 190 yX6_neighbour, Cond.instanceMethod yX6_neighbour, Cond.selects RX6 yX6_neighbour yX6_neighbour, Cond.code yX6_neighbour cX6_neighbour 3 (some .int)]
def wsX6_known : List Cond := .code yX6_known cX6_known 4 (some .int) :: ((wsX6_known_r1 ++ wsX6_known_r2) ++ wsX60)
def wsX6_noSheet : List Cond := .code yX6_noSheet cX6_noSheet 1 (some .boolean) :: ([.constantLong RX6 118 (3), .methodLink RX6 70 yX6_in, .static yX6_in, .initialized RX6, .code yX6_in cX6_in 6 (some .boolean)])
def wsX6_sheet : List Cond := .code yX6_sheet cX6_sheet 5 (some .int) :: ([.constantLong RX6 199 (2), .fieldLink RX6 35 "CutOnceModel" "sheetSize" "[I", .fieldLink RX6 38 "CutOnceModel" "sheetLane" "[I", .fieldLink RX6 41 "CutOnceModel" "sheet" "[I", .methodLink RX6 193 yX6_noSheet, .static yX6_noSheet, .initialized RX6, .code yX6_noSheet cX6_noSheet 1 (some .boolean), .constantLong RX6 118 (3), .methodLink RX6 70 yX6_in, .static yX6_in, .code yX6_in cX6_in 6 (some .boolean), .methodLink RX6 196 yX6_refused, .instanceMethod yX6_refused, .selects RX6 yX6_refused yX6_refused, .code yX6_refused cX6_refused 2 (some .int), .fieldLink RX6 56 "CutOnceModel" "fault" "I", .methodLink RX6 201 yX6_failed, .instanceMethod yX6_failed, .selects RX6 yX6_failed yX6_failed, .code yX6_failed cX6_failed 2 (some .int)] ++ wsX60)
def wsX6_lose : List Cond := .code yX6_lose cX6_lose 3 (some .int) :: ([.fieldLink RX6 35 "CutOnceModel" "sheetSize" "[I", .methodLink RX6 193 yX6_noSheet, .static yX6_noSheet, .initialized RX6, .code yX6_noSheet cX6_noSheet 1 (some .boolean), .constantLong RX6 118 (3), .methodLink RX6 70 yX6_in, .static yX6_in, .code yX6_in cX6_in 6 (some .boolean)] ++ wsX60)
def wsX6_noCell : List Cond := .code yX6_noCell cX6_noCell 3 (some .int) :: ([.fieldLink RX6 35 "CutOnceModel" "sheetSize" "[I", .methodLink RX6 70 yX6_in, .static yX6_in, .initialized RX6, .code yX6_in cX6_in 6 (some .boolean)] ++ wsX60)
def wsX6_put : List Cond := .code yX6_put cX6_put 4 (some .int) :: ([.fieldLink RX6 41 "CutOnceModel" "sheet" "[I", .fieldLink RX6 38 "CutOnceModel" "sheetLane" "[I", .methodLink RX6 193 yX6_noSheet, .static yX6_noSheet, .initialized RX6, .code yX6_noSheet cX6_noSheet 1 (some .boolean), .constantLong RX6 118 (3), .methodLink RX6 70 yX6_in, .static yX6_in, .code yX6_in cX6_in 6 (some .boolean), .methodLink RX6 196 yX6_refused, .instanceMethod yX6_refused, .selects RX6 yX6_refused yX6_refused, .code yX6_refused cX6_refused 2 (some .int), .fieldLink RX6 56 "CutOnceModel" "fault" "I", .methodLink RX6 204 yX6_noCell, .instanceMethod yX6_noCell, .selects RX6 yX6_noCell yX6_noCell, .code yX6_noCell cX6_noCell 3 (some .int), .fieldLink RX6 35 "CutOnceModel" "sheetSize" "[I", .methodLink RX6 201 yX6_failed, .instanceMethod yX6_failed, .selects RX6 yX6_failed yX6_failed, .code yX6_failed cX6_failed 2 (some .int)] ++ wsX60)
def wsX6_cell_r1 : List Cond := [Cond.fieldLink RX6 56 "CutOnceModel" "fault" "I", Cond.constantLong RX6 199 (2), Cond.fieldLink RX6 35 "CutOnceModel" "sheetSize" "[I", Cond.fieldLink RX6 38 "CutOnceModel" "sheetLane" "[I", Cond.fieldLink RX6 41 "CutOnceModel" "sheet" "[I", Cond.methodLink RX6 193 yX6_noSheet, Cond.static yX6_noSheet, Cond.initialized RX6, Cond.code yX6_noSheet cX6_noSheet 1 (some .boolean), Cond.constantLong RX6 118 (3), Cond.methodLink RX6 70 yX6_in, Cond.static yX6_in, Cond.code yX6_in cX6_in 6 (some .boolean), Cond.methodLink RX6 59 yX6_lost, Cond.static yX6_lost, Cond.code yX6_lost cX6_lost 0 (some .long), Cond.constantLong RX6 54 (-9223372036854775808), Cond.methodLink RX6 207 yX6_failedLong, Cond.instanceMethod yX6_failedLong, Cond.selects RX6 yX6_failedLong yX6_failedLong, Cond.code yX6_failedLong cX6_failedLong 2 (some .long), Cond.methodLink RX6 204 yX6_noCell, Cond.instanceMethod yX6_noCell, Cond.selects RX6 yX6_noCell yX6_noCell]
def wsX6_cell_r2 : List Cond := [Cond.code yX6_noCell cX6_noCell 3 (some .int)]
def wsX6_cell : List Cond := .code yX6_cell cX6_cell 4 (some .long) :: ((wsX6_cell_r1 ++ wsX6_cell_r2) ++ wsX60)
def wsX6_isBeyond : List Cond := .code yX6_isBeyond cX6_isBeyond 4 (some .boolean) :: ([])
def wsX6_copy : List Cond := .code yX6_copy cX6_copy 7 (some .int) :: ([.fieldLink RX6 35 "CutOnceModel" "sheetSize" "[I", .fieldLink RX6 38 "CutOnceModel" "sheetLane" "[I", .fieldLink RX6 44 "CutOnceModel" "hands" "[I", .fieldLink RX6 41 "CutOnceModel" "sheet" "[I", .methodLink RX6 193 yX6_noSheet, .static yX6_noSheet, .initialized RX6, .code yX6_noSheet cX6_noSheet 1 (some .boolean), .constantLong RX6 118 (3), .methodLink RX6 70 yX6_in, .static yX6_in, .code yX6_in cX6_in 6 (some .boolean), .methodLink RX6 196 yX6_refused, .instanceMethod yX6_refused, .selects RX6 yX6_refused yX6_refused, .code yX6_refused cX6_refused 2 (some .int), .fieldLink RX6 56 "CutOnceModel" "fault" "I", .methodLink RX6 201 yX6_failed, .instanceMethod yX6_failed, .selects RX6 yX6_failed yX6_failed, .code yX6_failed cX6_failed 2 (some .int), .methodLink RX6 211 yX6_isBeyond, .static yX6_isBeyond, .code yX6_isBeyond cX6_isBeyond 4 (some .boolean)] ++ wsX60)
def wsX6_shape_r1 : List Cond := [Cond.constantLong RX6 199 (2), Cond.fieldLink RX6 35 "CutOnceModel" "sheetSize" "[I", Cond.fieldLink RX6 38 "CutOnceModel" "sheetLane" "[I", Cond.constantLong RX6 81 (5), Cond.fieldLink RX6 41 "CutOnceModel" "sheet" "[I", Cond.constantLong RX6 111 (-9), Cond.constantLong RX6 113 (9), Cond.fieldLink RX6 7 "CutOnceModel" "heights" "[I", Cond.methodLink RX6 193 yX6_noSheet, Cond.static yX6_noSheet, Cond.initialized RX6, Cond.code yX6_noSheet cX6_noSheet 1 (some .boolean), Cond.constantLong RX6 118 (3), Cond.methodLink RX6 70 yX6_in, Cond.static yX6_in, Cond.code yX6_in cX6_in 6 (some .boolean), Cond.methodLink RX6 105 yX6_noSide, Cond.instanceMethod yX6_noSide, Cond.selects RX6 yX6_noSide yX6_noSide, Cond.code yX6_noSide cX6_noSide 2 (some .boolean), Cond.methodLink RX6 67 yX6_sides, Cond.instanceMethod yX6_sides, Cond.selects RX6 yX6_sides yX6_sides, Cond.code yX6_sides cX6_sides 1 (some .int)]
def wsX6_shape_r2 : List Cond := [Cond.fieldLink RX6 47 "CutOnceModel" "wide" "I", Cond.fieldLink RX6 51 "CutOnceModel" "high" "I", Cond.methodLink RX6 63 yX6_across, Cond.instanceMethod yX6_across, Cond.selects RX6 yX6_across yX6_across, Cond.code yX6_across cX6_across 1 (some .int), Cond.methodLink RX6 196 yX6_refused, Cond.instanceMethod yX6_refused, Cond.selects RX6 yX6_refused yX6_refused, Cond.code yX6_refused cX6_refused 2 (some .int), Cond.fieldLink RX6 56 "CutOnceModel" "fault" "I", Cond.methodLink RX6 201 yX6_failed, Cond.instanceMethod yX6_failed, Cond.selects RX6 yX6_failed yX6_failed, Cond.code yX6_failed cX6_failed 2 (some .int), Cond.methodLink RX6 211 yX6_isBeyond, Cond.static yX6_isBeyond, Cond.code yX6_isBeyond cX6_isBeyond 4 (some .boolean), Cond.methodLink RX6 86 yX6_changed, Cond.instanceMethod yX6_changed, Cond.selects RX6 yX6_changed yX6_changed, Cond.code yX6_changed cX6_changed 1 none, Cond.fieldLink RX6 77 "CutOnceModel" "isJoined" "Z"]
def wsX6_shape : List Cond := .code yX6_shape cX6_shape 7 (some .int) :: ((wsX6_shape_r1 ++ wsX6_shape_r2) ++ wsX60)
def wsX6_traced : List Cond := .code yX6_traced cX6_traced 2 none :: ([.fieldLink RX6 215 "CutOnceModel" "trace" "I"] ++ wsX60)
def wsX6_tell_r1 : List Cond := [Cond.fieldLink RX6 7 "CutOnceModel" "heights" "[I", Cond.methodLink RX6 105 yX6_noSide, Cond.instanceMethod yX6_noSide, Cond.selects RX6 yX6_noSide yX6_noSide, Cond.initialized RX6, Cond.code yX6_noSide cX6_noSide 2 (some .boolean), Cond.methodLink RX6 67 yX6_sides, Cond.instanceMethod yX6_sides, Cond.selects RX6 yX6_sides yX6_sides, Cond.code yX6_sides cX6_sides 1 (some .int), Cond.fieldLink RX6 47 "CutOnceModel" "wide" "I", Cond.fieldLink RX6 51 "CutOnceModel" "high" "I", Cond.methodLink RX6 63 yX6_across, Cond.instanceMethod yX6_across, Cond.selects RX6 yX6_across yX6_across, Cond.code yX6_across cX6_across 1 (some .int), Cond.methodLink RX6 70 yX6_in, Cond.static yX6_in, Cond.code yX6_in cX6_in 6 (some .boolean), Cond.methodLink RX6 142 yX6_kindOf, Cond.instanceMethod yX6_kindOf, Cond.selects RX6 yX6_kindOf yX6_kindOf, Cond.code yX6_kindOf cX6_kindOf 3 (some .int), Cond.methodLink RX6 135 yX6_isBulge]
def wsX6_tell_r2 : List Cond := [Cond.instanceMethod yX6_isBulge, Cond.selects RX6 yX6_isBulge yX6_isBulge, Cond.code yX6_isBulge cX6_isBulge 5 (some .boolean), Cond.methodLink RX6 138 yX6_isLike, Cond.instanceMethod yX6_isLike, Cond.selects RX6 yX6_isLike yX6_isLike, Cond.code yX6_isLike cX6_isLike 6 (some .boolean), Cond.methodLink RX6 218 yX6_traced, Cond.instanceMethod yX6_traced, Cond.selects RX6 yX6_traced yX6_traced, Cond.code yX6_traced cX6_traced 2 none, Cond.fieldLink RX6 215 "CutOnceModel" "trace" "I"]
def wsX6_tell : List Cond := .code yX6_tell cX6_tell 5 (some .int) :: ((wsX6_tell_r1 ++ wsX6_tell_r2) ++ wsX60)
def wsX6_mark_r1 : List Cond := [Cond.methodLink RX6 105 yX6_noSide, Cond.instanceMethod yX6_noSide, Cond.selects RX6 yX6_noSide yX6_noSide, Cond.initialized RX6, Cond.code yX6_noSide cX6_noSide 2 (some .boolean), Cond.methodLink RX6 67 yX6_sides, Cond.instanceMethod yX6_sides, Cond.selects RX6 yX6_sides yX6_sides, Cond.code yX6_sides cX6_sides 1 (some .int), Cond.fieldLink RX6 47 "CutOnceModel" "wide" "I", Cond.fieldLink RX6 51 "CutOnceModel" "high" "I", Cond.methodLink RX6 63 yX6_across, Cond.instanceMethod yX6_across, Cond.selects RX6 yX6_across yX6_across, Cond.code yX6_across cX6_across 1 (some .int), Cond.methodLink RX6 70 yX6_in, Cond.static yX6_in, Cond.code yX6_in cX6_in 6 (some .boolean), Cond.methodLink RX6 142 yX6_kindOf, Cond.instanceMethod yX6_kindOf, Cond.selects RX6 yX6_kindOf yX6_kindOf, Cond.code yX6_kindOf cX6_kindOf 3 (some .int), Cond.methodLink RX6 135 yX6_isBulge, Cond.instanceMethod yX6_isBulge]
def wsX6_mark_r2 : List Cond := [Cond.selects RX6 yX6_isBulge yX6_isBulge, Cond.code yX6_isBulge cX6_isBulge 5 (some .boolean), Cond.fieldLink RX6 7 "CutOnceModel" "heights" "[I", Cond.methodLink RX6 138 yX6_isLike, Cond.instanceMethod yX6_isLike, Cond.selects RX6 yX6_isLike yX6_isLike, Cond.code yX6_isLike cX6_isLike 6 (some .boolean), Cond.methodLink RX6 218 yX6_traced, Cond.instanceMethod yX6_traced, Cond.selects RX6 yX6_traced yX6_traced, Cond.code yX6_traced cX6_traced 2 none, Cond.fieldLink RX6 215 "CutOnceModel" "trace" "I"]
def wsX6_mark : List Cond := .code yX6_mark cX6_mark 3 (some .int) :: ((wsX6_mark_r1 ++ wsX6_mark_r2) ++ wsX60)
def wsX6_as_r1 : List Cond := [Cond.constantLong RX6 199 (2), Cond.methodLink RX6 105 yX6_noSide, Cond.instanceMethod yX6_noSide, Cond.selects RX6 yX6_noSide yX6_noSide, Cond.initialized RX6, Cond.code yX6_noSide cX6_noSide 2 (some .boolean), Cond.methodLink RX6 67 yX6_sides, Cond.instanceMethod yX6_sides, Cond.selects RX6 yX6_sides yX6_sides, Cond.code yX6_sides cX6_sides 1 (some .int), Cond.fieldLink RX6 47 "CutOnceModel" "wide" "I", Cond.fieldLink RX6 51 "CutOnceModel" "high" "I", Cond.methodLink RX6 63 yX6_across, Cond.instanceMethod yX6_across, Cond.selects RX6 yX6_across yX6_across, Cond.code yX6_across cX6_across 1 (some .int), Cond.methodLink RX6 70 yX6_in, Cond.static yX6_in, Cond.code yX6_in cX6_in 6 (some .boolean), Cond.methodLink RX6 196 yX6_refused, Cond.instanceMethod yX6_refused, Cond.selects RX6 yX6_refused yX6_refused, Cond.code yX6_refused cX6_refused 2 (some .int), Cond.fieldLink RX6 56 "CutOnceModel" "fault" "I"]
def wsX6_as_r2 : List Cond := [Cond.methodLink RX6 142 yX6_kindOf, Cond.instanceMethod yX6_kindOf, Cond.selects RX6 yX6_kindOf yX6_kindOf, Cond.code yX6_kindOf cX6_kindOf 3 (some .int), Cond.methodLink RX6 135 yX6_isBulge, Cond.instanceMethod yX6_isBulge, Cond.selects RX6 yX6_isBulge yX6_isBulge, Cond.code yX6_isBulge cX6_isBulge 5 (some .boolean), Cond.fieldLink RX6 7 "CutOnceModel" "heights" "[I", Cond.methodLink RX6 138 yX6_isLike, Cond.instanceMethod yX6_isLike, Cond.selects RX6 yX6_isLike yX6_isLike, Cond.code yX6_isLike cX6_isLike 6 (some .boolean), Cond.methodLink RX6 201 yX6_failed, Cond.instanceMethod yX6_failed, Cond.selects RX6 yX6_failed yX6_failed, Cond.code yX6_failed cX6_failed 2 (some .int)]
def wsX6_as : List Cond := .code yX6_as cX6_as 3 (some .int) :: ((wsX6_as_r1 ++ wsX6_as_r2) ++ wsX60)
def wsX6_trace : List Cond := .code yX6_trace cX6_trace 1 (some .int) :: ([.fieldLink RX6 215 "CutOnceModel" "trace" "I"] ++ wsX60)
def wsX6_fault : List Cond := .code yX6_fault cX6_fault 1 (some .int) :: ([.fieldLink RX6 56 "CutOnceModel" "fault" "I"] ++ wsX60)
def wsX6_told : List Cond := .code yX6_told cX6_told 2 (some .int) :: ([.fieldLink RX6 47 "CutOnceModel" "wide" "I", .fieldLink RX6 51 "CutOnceModel" "high" "I", .fieldLink RX6 83 "CutOnceModel" "heaped" "I", .methodLink RX6 74 yX6_pieces, .instanceMethod yX6_pieces, .selects RX6 yX6_pieces yX6_pieces, .initialized RX6, .code yX6_pieces cX6_pieces 1 (some .int), .methodLink RX6 67 yX6_sides, .instanceMethod yX6_sides, .selects RX6 yX6_sides yX6_sides, .code yX6_sides cX6_sides 1 (some .int), .methodLink RX6 63 yX6_across, .instanceMethod yX6_across, .selects RX6 yX6_across yX6_across, .code yX6_across cX6_across 1 (some .int)] ++ wsX60)
def wsJ9_abs_0f7a4 : List Cond := .code yJ9_abs_0f7a4 cJ9_abs_0f7a4 1 (some .int) :: ([])
def wsJ9_max_7cf53 : List Cond := .code yJ9_max_7cf53 cJ9_max_7cf53 2 (some .int) :: ([])
def wsJ9_min_7cf53 : List Cond := .code yJ9_min_7cf53 cJ9_min_7cf53 2 (some .int) :: ([])
def wsL_law_r1 : List Cond := [Cond.classLink RL 7 RX5, Cond.instantiable RX5 7, Cond.initialized RX5, Cond.classLink RL 10 RX6, Cond.instantiable RX6 23, Cond.initialized RX6, Cond.constantLong RL 18 (4294967295), Cond.methodLink RL 9 yX5_init, Cond.instanceMethod yX5_init, Cond.code yX5_init cX5_init 2 none, Cond.methodLink RX5 3 objectInit, Cond.instanceMethod objectInit, Cond.code objectInit ⟨#[0xb1]⟩ 1 none, Cond.classLink RX5 9 RX1, Cond.instantiable RX1 4, Cond.initialized RX1, Cond.fieldLink RX5 12 "CutOnce" "thePicture" "LCutOnce$Picture;", Cond.classLink RX5 18 RX2, Cond.instantiable RX2 3, Cond.initialized RX2, Cond.fieldLink RX5 21 "CutOnce" "thePile" "LCutOnce$Pile;", Cond.classLink RX5 25 RX3, Cond.instantiable RX3 13, Cond.initialized RX3]
def wsL_law_r2 : List Cond := [Cond.fieldLink RX5 30 "CutOnce" "theSearch" "LCutOnce$Search;", Cond.classLink RX5 34 RX0, Cond.instantiable RX0 1, Cond.initialized RX0, Cond.fieldLink RX5 37 "CutOnce" "theDraw" "LCutOnce$Draw;", Cond.classLink RX5 41 RX4, Cond.fieldLink RX5 43 "CutOnce" "sheets" "[LCutOnce$Sheet;", Cond.instantiable RX4 4, Cond.initialized RX4, Cond.methodLink RX5 11 yX1_init, Cond.instanceMethod yX1_init, Cond.code yX1_init cX1_init 1 none, Cond.methodLink RX1 3 objectInit, Cond.arrayClass .int, Cond.fieldLink RX1 9 "CutOnce$Picture" "heights" "[I", Cond.fieldLink RX1 15 "CutOnce$Picture" "sideOfEdge" "[I", Cond.methodLink RX1 18 yX1_cutAnew, Cond.instanceMethod yX1_cutAnew, Cond.selects RX1 yX1_cutAnew yX1_cutAnew, Cond.code yX1_cutAnew cX1_cutAnew 5 none, Cond.fieldLink RX1 22 "CutOnce$Picture" "w" "I", Cond.fieldLink RX1 26 "CutOnce$Picture" "h" "I", Cond.methodLink RX1 29 yX1_layEdges, Cond.instanceMethod yX1_layEdges]
def wsL_law_r3 : List Cond := [Cond.selects RX1 yX1_layEdges yX1_layEdges, Cond.code yX1_layEdges cX1_layEdges 6 none, Cond.instanceMethod yX2_init, Cond.code yX2_init cX2_init 1 none, Cond.methodLink RX2 3 objectInit, Cond.fieldLink RX2 9 "CutOnce$Pile" "pieceOf" "[I", Cond.fieldLink RX2 15 "CutOnce$Pile" "turnOf" "[I", Cond.methodLink RX5 27 yX3_init, Cond.instanceMethod yX3_init, Cond.code yX3_init cX3_init 3 none, Cond.methodLink RX3 3 objectInit, Cond.fieldLink RX3 9 "CutOnce$Search" "shown" "[I", Cond.fieldLink RX3 15 "CutOnce$Search" "fitting" "[I", Cond.fieldLink RX3 18 "CutOnce$Search" "wanted" "[I", Cond.arrayClass .boolean, Cond.fieldLink RX3 21 "CutOnce$Search" "used" "[Z", Cond.fieldLink RX3 25 "CutOnce$Search" "lying" "[I", Cond.fieldLink RX3 28 "CutOnce$Search" "joinedLying" "[I", Cond.fieldLink RX3 31 "CutOnce$Search" "goal" "LCutOnce$Picture;", Cond.fieldLink RX3 35 "CutOnce$Search" "pile" "LCutOnce$Pile;", Cond.instanceMethod yX0_init, Cond.code yX0_init cX0_init 1 none, Cond.methodLink RX0 1 objectInit, Cond.instanceMethod yX4_init]
def wsL_law_r4 : List Cond := [Cond.code yX4_init cX4_init 1 none, Cond.methodLink RX4 3 objectInit, Cond.fieldLink RX4 9 "CutOnce$Sheet" "cells" "[I", Cond.methodLink RL 12 yX6_init, Cond.instanceMethod yX6_init, Cond.code yX6_init cX6_init 2 none, Cond.methodLink RX6 1 objectInit, Cond.fieldLink RX6 7 "CutOnceModel" "heights" "[I", Cond.fieldLink RX6 13 "CutOnceModel" "piece" "[I", Cond.fieldLink RX6 16 "CutOnceModel" "turn" "[I", Cond.fieldLink RX6 19 "CutOnceModel" "at" "[I", Cond.fieldLink RX6 22 "CutOnceModel" "further" "[I", Cond.fieldLink RX6 25 "CutOnceModel" "isUsed" "[Z", Cond.fieldLink RX6 29 "CutOnceModel" "joinedAt" "[I", Cond.fieldLink RX6 32 "CutOnceModel" "joinedTurn" "[I", Cond.fieldLink RX6 35 "CutOnceModel" "sheetSize" "[I", Cond.fieldLink RX6 38 "CutOnceModel" "sheetLane" "[I", Cond.fieldLink RX6 41 "CutOnceModel" "sheet" "[I", Cond.fieldLink RX6 44 "CutOnceModel" "hands" "[I", Cond.fieldLink RX6 47 "CutOnceModel" "wide" "I", Cond.fieldLink RX6 51 "CutOnceModel" "high" "I", Cond.methodLink RL 13 yX5_picture, Cond.instanceMethod yX5_picture, Cond.selects RX5 yX5_picture yX5_picture]
def wsL_law_r5 : List Cond := [Cond.code yX5_picture cX5_picture 3 (some .int), Cond.methodLink RX5 48 yX1_cutAnew, Cond.methodLink RX5 52 yX2_clearAll, Cond.instanceMethod yX2_clearAll, Cond.selects RX2 yX2_clearAll yX2_clearAll, Cond.code yX2_clearAll cX2_clearAll 1 none, Cond.fieldLink RX2 18 "CutOnce$Pile" "count" "I", Cond.methodLink RX5 55 yX3_forgetJoined, Cond.instanceMethod yX3_forgetJoined, Cond.selects RX3 yX3_forgetJoined yX3_forgetJoined, Cond.code yX3_forgetJoined cX3_forgetJoined 1 none, Cond.fieldLink RX3 43 "CutOnce$Search" "joinedOnce" "Z", Cond.methodLink RX5 58 yX1_sides, Cond.instanceMethod yX1_sides, Cond.selects RX1 yX1_sides yX1_sides, Cond.code yX1_sides cX1_sides 1 (some .int), Cond.methodLink RL 17 yX6_picture, Cond.instanceMethod yX6_picture, Cond.selects RX6 yX6_picture yX6_picture, Cond.code yX6_picture cX6_picture 4 (some .int), Cond.constantLong RX6 81 (5), Cond.fieldLink RX6 83 "CutOnceModel" "heaped" "I", Cond.methodLink RX6 70 yX6_in, Cond.static yX6_in]
def wsL_law_r6 : List Cond := [Cond.code yX6_in cX6_in 6 (some .boolean), Cond.methodLink RX6 86 yX6_changed, Cond.instanceMethod yX6_changed, Cond.selects RX6 yX6_changed yX6_changed, Cond.code yX6_changed cX6_changed 1 none, Cond.fieldLink RX6 77 "CutOnceModel" "isJoined" "Z", Cond.methodLink RX6 67 yX6_sides, Cond.instanceMethod yX6_sides, Cond.selects RX6 yX6_sides yX6_sides, Cond.code yX6_sides cX6_sides 1 (some .int), Cond.methodLink RX6 63 yX6_across, Cond.instanceMethod yX6_across, Cond.selects RX6 yX6_across yX6_across, Cond.code yX6_across cX6_across 1 (some .int), Cond.methodLink RL 20 yX5_make, Cond.instanceMethod yX5_make, Cond.selects RX5 yX5_make yX5_make, Cond.code yX5_make cX5_make 5 (some .int), Cond.methodLink RX5 62 yX0_begin, Cond.instanceMethod yX0_begin, Cond.selects RX0 yX0_begin yX0_begin, Cond.code yX0_begin cX0_begin 3 none, Cond.fieldLink RX0 7 "CutOnce$Draw" "now" "J", Cond.methodLink RX5 66 yX0_below]
def wsL_law_r7 : List Cond := [Cond.instanceMethod yX0_below, Cond.selects RX0 yX0_below yX0_below, Cond.code yX0_below cX0_below 2 (some .int), Cond.constantLong RX0 13 (6364136223846793005), Cond.constantLong RX0 15 (1442695040888963407), Cond.constantLong RX0 17 (2147483647), Cond.constantLong RX0 19 (4096), Cond.methodLink RX5 70 yX1_setHeight, Cond.instanceMethod yX1_setHeight, Cond.selects RX1 yX1_setHeight yX1_setHeight, Cond.code yX1_setHeight cX1_setHeight 5 none, Cond.methodLink RL 24 yX6_make, Cond.instanceMethod yX6_make, Cond.selects RX6 yX6_make yX6_make, Cond.code yX6_make cX6_make 4 (some .int), Cond.fieldLink RX6 89 "CutOnceModel" "draw" "J", Cond.methodLink RX6 101 yX6_numberBelow, Cond.instanceMethod yX6_numberBelow, Cond.selects RX6 yX6_numberBelow yX6_numberBelow, Cond.code yX6_numberBelow cX6_numberBelow 2 (some .int), Cond.constantLong RX6 93 (6364136223846793005), Cond.constantLong RX6 95 (1442695040888963407), Cond.constantLong RX6 97 (2147483647), Cond.constantLong RX6 99 (4096)]
def wsL_law_r8 : List Cond := [Cond.methodLink RL 25 yX5_bend, Cond.instanceMethod yX5_bend, Cond.selects RX5 yX5_bend yX5_bend, Cond.code yX5_bend cX5_bend 5 (some .long), Cond.constantLong RX5 84 (-9223372036854775808), Cond.methodLink RX5 74 yX1_hasSide, Cond.instanceMethod yX1_hasSide, Cond.selects RX1 yX1_hasSide yX1_hasSide, Cond.code yX1_hasSide cX1_hasSide 2 (some .boolean), Cond.methodLink RX1 32 yX1_sides, Cond.methodLink RX5 78 yX5_isHeightPlace, Cond.static yX5_isHeightPlace, Cond.code yX5_isHeightPlace cX5_isHeightPlace 1 (some .boolean), Cond.methodLink RX5 81 yX5_isHeight, Cond.static yX5_isHeight, Cond.code yX5_isHeight cX5_isHeight 1 (some .boolean), Cond.methodLink RX5 86 yX1_heightAt, Cond.instanceMethod yX1_heightAt, Cond.selects RX1 yX1_heightAt yX1_heightAt, Cond.code yX1_heightAt cX1_heightAt 5 (some .int), Cond.methodLink RL 29 yX6_bend, Cond.instanceMethod yX6_bend, Cond.selects RX6 yX6_bend yX6_bend, Cond.code yX6_bend cX6_bend 6 (some .long)]
def wsL_law_r9 : List Cond := [Cond.constantLong RX6 109 (4), Cond.constantLong RX6 111 (-9), Cond.constantLong RX6 113 (9), Cond.methodLink RX6 105 yX6_noSide, Cond.instanceMethod yX6_noSide, Cond.selects RX6 yX6_noSide yX6_noSide, Cond.code yX6_noSide cX6_noSide 2 (some .boolean), Cond.methodLink RX6 59 yX6_lost, Cond.static yX6_lost, Cond.code yX6_lost cX6_lost 0 (some .long), Cond.constantLong RX6 54 (-9223372036854775808), Cond.methodLink RL 30 yX5_height, Cond.instanceMethod yX5_height, Cond.selects RX5 yX5_height yX5_height, Cond.code yX5_height cX5_height 3 (some .long), Cond.methodLink RL 34 yX6_height, Cond.instanceMethod yX6_height, Cond.selects RX6 yX6_height yX6_height, Cond.code yX6_height cX6_height 3 (some .long), Cond.methodLink RL 35 yX5_shape, Cond.instanceMethod yX5_shape, Cond.selects RX5 yX5_shape yX5_shape, Cond.code yX5_shape cX5_shape 7 (some .int), Cond.fieldLink RX5 90 "CutOnce" "latestFault" "I"]
def wsL_law_r10 : List Cond := [Cond.constantLong RX5 110 (5), Cond.methodLink RX5 94 yX5_isSheet, Cond.static yX5_isSheet, Cond.code yX5_isSheet cX5_isSheet 1 (some .boolean), Cond.methodLink RX5 97 yX5_isLane, Cond.static yX5_isLane, Cond.code yX5_isLane cX5_isLane 1 (some .boolean), Cond.methodLink RX5 100 yX4_isOfOther, Cond.instanceMethod yX4_isOfOther, Cond.selects RX4 yX4_isOfOther yX4_isOfOther, Cond.code yX4_isOfOther cX4_isOfOther 2 (some .boolean), Cond.fieldLink RX4 15 "CutOnce$Sheet" "there" "Z", Cond.fieldLink RX4 19 "CutOnce$Sheet" "lane" "I", Cond.methodLink RX5 103 yX5_come, Cond.instanceMethod yX5_come, Cond.selects RX5 yX5_come yX5_come, Cond.code yX5_come cX5_come 2 (some .int), Cond.methodLink RX5 106 yX4_isThere, Cond.instanceMethod yX4_isThere, Cond.selects RX4 yX4_isThere yX4_isThere, Cond.code yX4_isThere cX4_isThere 1 (some .boolean), Cond.methodLink RX5 112 yX4_holds, Cond.instanceMethod yX4_holds, Cond.selects RX4 yX4_holds yX4_holds]
def wsL_law_r11 : List Cond := [Cond.code yX4_holds cX4_holds 4 (some .boolean), Cond.fieldLink RX4 32 "CutOnce$Sheet" "length" "I", Cond.methodLink RX5 116 yX5_areHeights, Cond.static yX5_areHeights, Cond.code yX5_areHeights cX5_areHeights 4 (some .boolean), Cond.methodLink RX5 234 yX4_read, Cond.instanceMethod yX4_read, Cond.selects RX4 yX4_read yX4_read, Cond.code yX4_read cX4_read 2 (some .int), Cond.methodLink RX4 35 yX4_holds, Cond.methodLink RX5 120 yX5_shapeFrom, Cond.instanceMethod yX5_shapeFrom, Cond.selects RX5 yX5_shapeFrom yX5_shapeFrom, Cond.code yX5_shapeFrom cX5_shapeFrom 7 none, Cond.methodLink RL 39 yX6_shape, Cond.instanceMethod yX6_shape, Cond.selects RX6 yX6_shape yX6_shape, Cond.code yX6_shape cX6_shape 7 (some .int), Cond.constantLong RX6 199 (2), Cond.methodLink RX6 193 yX6_noSheet, Cond.static yX6_noSheet, Cond.code yX6_noSheet cX6_noSheet 1 (some .boolean), Cond.constantLong RX6 118 (3), Cond.methodLink RX6 196 yX6_refused]
def wsL_law_r12 : List Cond := [Cond.instanceMethod yX6_refused, Cond.selects RX6 yX6_refused yX6_refused, Cond.code yX6_refused cX6_refused 2 (some .int), Cond.fieldLink RX6 56 "CutOnceModel" "fault" "I", Cond.methodLink RX6 201 yX6_failed, Cond.instanceMethod yX6_failed, Cond.selects RX6 yX6_failed yX6_failed, Cond.code yX6_failed cX6_failed 2 (some .int), Cond.methodLink RX6 211 yX6_isBeyond, Cond.static yX6_isBeyond, Cond.code yX6_isBeyond cX6_isBeyond 4 (some .boolean), Cond.methodLink RL 40 yX5_sideOf, Cond.instanceMethod yX5_sideOf, Cond.selects RX5 yX5_sideOf yX5_sideOf, Cond.code yX5_sideOf cX5_sideOf 3 (some .int), Cond.methodLink RX5 124 yX1_hasEdge, Cond.instanceMethod yX1_hasEdge, Cond.selects RX1 yX1_hasEdge yX1_hasEdge, Cond.code yX1_hasEdge cX1_hasEdge 3 (some .boolean), Cond.methodLink RX1 39 yX1_hasPiece, Cond.instanceMethod yX1_hasPiece, Cond.selects RX1 yX1_hasPiece yX1_hasPiece, Cond.code yX1_hasPiece cX1_hasPiece 2 (some .boolean), Cond.methodLink RX1 36 yX1_pieces]
def wsL_law_r13 : List Cond := [Cond.instanceMethod yX1_pieces, Cond.selects RX1 yX1_pieces yX1_pieces, Cond.code yX1_pieces cX1_pieces 1 (some .int), Cond.methodLink RX5 128 yX1_sideAt, Cond.instanceMethod yX1_sideAt, Cond.selects RX1 yX1_sideAt yX1_sideAt, Cond.code yX1_sideAt cX1_sideAt 4 (some .int), Cond.methodLink RL 43 yX6_sideOf, Cond.instanceMethod yX6_sideOf, Cond.selects RX6 yX6_sideOf yX6_sideOf, Cond.code yX6_sideOf cX6_sideOf 3 (some .int), Cond.methodLink RX6 115 yX6_noPiece, Cond.instanceMethod yX6_noPiece, Cond.selects RX6 yX6_noPiece yX6_noPiece, Cond.code yX6_noPiece cX6_noPiece 2 (some .boolean), Cond.methodLink RX6 74 yX6_pieces, Cond.instanceMethod yX6_pieces, Cond.selects RX6 yX6_pieces yX6_pieces, Cond.code yX6_pieces cX6_pieces 1 (some .int), Cond.methodLink RX6 120 yX6_sideAt, Cond.instanceMethod yX6_sideAt, Cond.selects RX6 yX6_sideAt yX6_sideAt, Cond.code yX6_sideAt cX6_sideAt 6 (some .int), Cond.methodLink RL 44 yX5_edge]
def wsL_law_r14 : List Cond := [Cond.instanceMethod yX5_edge, Cond.selects RX5 yX5_edge yX5_edge, Cond.code yX5_edge cX5_edge 4 (some .long), Cond.methodLink RX5 132 yX1_isFlat, Cond.instanceMethod yX1_isFlat, Cond.selects RX1 yX1_isFlat yX1_isFlat, Cond.code yX1_isFlat cX1_isFlat 3 (some .boolean), Cond.methodLink RX1 43 yX1_sideAt, Cond.methodLink RX5 135 yX1_edgeHeight, Cond.instanceMethod yX1_edgeHeight, Cond.selects RX1 yX1_edgeHeight yX1_edgeHeight, Cond.code yX1_edgeHeight cX1_edgeHeight 5 (some .int), Cond.methodLink RX1 47 yX1_heightAt, Cond.methodLink RL 47 yX6_edge, Cond.instanceMethod yX6_edge, Cond.selects RX6 yX6_edge yX6_edge, Cond.code yX6_edge cX6_edge 4 (some .long), Cond.methodLink RX6 124 yX6_heightAt, Cond.instanceMethod yX6_heightAt, Cond.selects RX6 yX6_heightAt yX6_heightAt, Cond.code yX6_heightAt cX6_heightAt 5 (some .int), Cond.methodLink RL 48 yX5_far, Cond.instanceMethod yX5_far, Cond.selects RX5 yX5_far yX5_far]
def wsL_law_r15 : List Cond := [Cond.code yX5_far cX5_far 5 (some .int), Cond.methodLink RX5 138 yX1_farness, Cond.instanceMethod yX1_farness, Cond.selects RX1 yX1_farness yX1_farness, Cond.code yX1_farness cX1_farness 7 (some .int), Cond.methodLink RX1 54 Lib.Math.abs.name, Cond.static Lib.Math.abs.name, Cond.initialized "java/lang/Math", Cond.code Lib.Math.abs.name Lib.Math.abs.code 1 (some .int), Cond.methodLink RX1 51 yX1_edgeHeight, Cond.methodLink RL 52 yX6_far, Cond.instanceMethod yX6_far, Cond.selects RX6 yX6_far yX6_far, Cond.code yX6_far cX6_far 5 (some .int), Cond.methodLink RX6 131 yX6_farOf, Cond.instanceMethod yX6_farOf, Cond.selects RX6 yX6_farOf yX6_farOf, Cond.code yX6_farOf cX6_farOf 7 (some .int), Cond.methodLink RX6 128 yX6_sizeOf, Cond.static yX6_sizeOf, Cond.code yX6_sizeOf cX6_sizeOf 1 (some .int), Cond.methodLink RL 53 yX5_kind, Cond.instanceMethod yX5_kind, Cond.selects RX5 yX5_kind yX5_kind]
def wsL_law_r16 : List Cond := [Cond.code yX5_kind cX5_kind 2 (some .int), Cond.methodLink RX5 142 yX1_kindAt, Cond.instanceMethod yX1_kindAt, Cond.selects RX1 yX1_kindAt yX1_kindAt, Cond.code yX1_kindAt cX1_kindAt 3 (some .int), Cond.methodLink RX1 60 yX1_bulges, Cond.instanceMethod yX1_bulges, Cond.selects RX1 yX1_bulges yX1_bulges, Cond.code yX1_bulges cX1_bulges 6 (some .boolean), Cond.methodLink RX1 63 yX1_differing, Cond.instanceMethod yX1_differing, Cond.selects RX1 yX1_differing yX1_differing, Cond.code yX1_differing cX1_differing 6 (some .int), Cond.methodLink RL 57 yX6_kind, Cond.instanceMethod yX6_kind, Cond.selects RX6 yX6_kind yX6_kind, Cond.code yX6_kind cX6_kind 2 (some .int), Cond.methodLink RX6 142 yX6_kindOf, Cond.instanceMethod yX6_kindOf, Cond.selects RX6 yX6_kindOf yX6_kindOf, Cond.code yX6_kindOf cX6_kindOf 3 (some .int), Cond.methodLink RX6 135 yX6_isBulge, Cond.instanceMethod yX6_isBulge, Cond.selects RX6 yX6_isBulge yX6_isBulge]
def wsL_law_r17 : List Cond := [Cond.code yX6_isBulge cX6_isBulge 5 (some .boolean), Cond.methodLink RX6 138 yX6_isLike, Cond.instanceMethod yX6_isLike, Cond.selects RX6 yX6_isLike yX6_isLike, Cond.code yX6_isLike cX6_isLike 6 (some .boolean), Cond.methodLink RL 58 yX5_unlike, Cond.instanceMethod yX5_unlike, Cond.selects RX5 yX5_unlike yX5_unlike, Cond.code yX5_unlike cX5_unlike 2 (some .int), Cond.methodLink RX5 145 yX1_leastFar, Cond.instanceMethod yX1_leastFar, Cond.selects RX1 yX1_leastFar yX1_leastFar, Cond.code yX1_leastFar cX1_leastFar 5 (some .int), Cond.methodLink RX1 70 yX1_strangersApart, Cond.instanceMethod yX1_strangersApart, Cond.selects RX1 yX1_strangersApart yX1_strangersApart, Cond.code yX1_strangersApart cX1_strangersApart 7 (some .int), Cond.methodLink RX1 73 yX1_isFlat, Cond.methodLink RX1 77 yX1_farness, Cond.methodLink RL 62 yX6_unlike, Cond.instanceMethod yX6_unlike, Cond.selects RX6 yX6_unlike yX6_unlike, Cond.code yX6_unlike cX6_unlike 1 (some .int), Cond.fieldLink RX6 145 "CutOnceModel" "leastFar" "I"]
def wsL_law_r18 : List Cond := [Cond.methodLink RX6 151 yX6_goThrough, Cond.instanceMethod yX6_goThrough, Cond.selects RX6 yX6_goThrough yX6_goThrough, Cond.code yX6_goThrough cX6_goThrough 7 none, Cond.fieldLink RX6 148 "CutOnceModel" "near" "I", Cond.methodLink RL 63 yX5_traps, Cond.instanceMethod yX5_traps, Cond.selects RX5 yX5_traps yX5_traps, Cond.code yX5_traps cX5_traps 2 (some .int), Cond.methodLink RX5 148 yX1_pairsWithin, Cond.instanceMethod yX1_pairsWithin, Cond.selects RX1 yX1_pairsWithin yX1_pairsWithin, Cond.code yX1_pairsWithin cX1_pairsWithin 6 (some .int), Cond.methodLink RL 66 yX6_traps, Cond.instanceMethod yX6_traps, Cond.selects RX6 yX6_traps yX6_traps, Cond.code yX6_traps cX6_traps 2 (some .int), Cond.methodLink RL 67 yX5_alike, Cond.instanceMethod yX5_alike, Cond.selects RX5 yX5_alike yX5_alike, Cond.code yX5_alike cX5_alike 4 (some .int), Cond.methodLink RX5 151 yX1_giveShape, Cond.instanceMethod yX1_giveShape, Cond.selects RX1 yX1_giveShape yX1_giveShape]
def wsL_law_r19 : List Cond := [Cond.code yX1_giveShape cX1_giveShape 6 (some .int), Cond.methodLink RX1 66 yX1_setHeight, Cond.methodLink RL 71 yX6_alike, Cond.instanceMethod yX6_alike, Cond.selects RX6 yX6_alike yX6_alike, Cond.code yX6_alike cX6_alike 7 (some .int), Cond.methodLink RL 72 yX5_lay, Cond.instanceMethod yX5_lay, Cond.selects RX5 yX5_lay yX5_lay, Cond.code yX5_lay cX5_lay 3 (some .int), Cond.methodLink RX5 154 yX1_hasPiece, Cond.methodLink RX5 157 yX2_isFull, Cond.instanceMethod yX2_isFull, Cond.selects RX2 yX2_isFull yX2_isFull, Cond.code yX2_isFull cX2_isFull 1 (some .boolean), Cond.methodLink RX5 160 yX2_append, Cond.instanceMethod yX2_append, Cond.selects RX2 yX2_append yX2_append, Cond.code yX2_append cX2_append 3 none, Cond.methodLink RX2 26 yX2_isFull, Cond.methodLink RX5 163 yX2_size, Cond.instanceMethod yX2_size, Cond.selects RX2 yX2_size yX2_size, Cond.code yX2_size cX2_size 1 (some .int)]
def wsL_law_r20 : List Cond := [Cond.methodLink RL 75 yX6_lay, Cond.instanceMethod yX6_lay, Cond.selects RX6 yX6_lay yX6_lay, Cond.code yX6_lay cX6_lay 3 (some .int), Cond.methodLink RL 76 yX5_heap, Cond.instanceMethod yX5_heap, Cond.selects RX5 yX5_heap yX5_heap, Cond.code yX5_heap cX5_heap 4 (some .int), Cond.methodLink RX5 166 yX1_pieces, Cond.methodLink RX5 169 yX2_swapPieces, Cond.instanceMethod yX2_swapPieces, Cond.selects RX2 yX2_swapPieces yX2_swapPieces, Cond.code yX2_swapPieces cX2_swapPieces 4 none, Cond.methodLink RX2 22 yX2_hasPlace, Cond.instanceMethod yX2_hasPlace, Cond.selects RX2 yX2_hasPlace yX2_hasPlace, Cond.code yX2_hasPlace cX2_hasPlace 2 (some .boolean), Cond.methodLink RX5 172 yX2_setTurn, Cond.instanceMethod yX2_setTurn, Cond.selects RX2 yX2_setTurn yX2_setTurn, Cond.code yX2_setTurn cX2_setTurn 3 none, Cond.methodLink RL 79 yX6_heap, Cond.instanceMethod yX6_heap, Cond.selects RX6 yX6_heap yX6_heap]
def wsL_law_r21 : List Cond := [Cond.code yX6_heap cX6_heap 6 (some .int), Cond.methodLink RL 80 yX5_take, Cond.instanceMethod yX5_take, Cond.selects RX5 yX5_take yX5_take, Cond.code yX5_take cX5_take 3 (some .int), Cond.methodLink RX5 175 yX2_hasPlace, Cond.methodLink RX5 178 yX2_pieceAt, Cond.instanceMethod yX2_pieceAt, Cond.selects RX2 yX2_pieceAt yX2_pieceAt, Cond.code yX2_pieceAt cX2_pieceAt 2 (some .int), Cond.methodLink RX5 181 yX2_removeAt, Cond.instanceMethod yX2_removeAt, Cond.selects RX2 yX2_removeAt yX2_removeAt, Cond.code yX2_removeAt cX2_removeAt 3 none, Cond.methodLink RL 83 yX6_take, Cond.instanceMethod yX6_take, Cond.selects RX6 yX6_take yX6_take, Cond.code yX6_take cX6_take 4 (some .int), Cond.methodLink RX6 155 yX6_noPlace, Cond.instanceMethod yX6_noPlace, Cond.selects RX6 yX6_noPlace yX6_noPlace, Cond.code yX6_noPlace cX6_noPlace 2 (some .boolean), Cond.methodLink RL 84 yX5_heaped, Cond.instanceMethod yX5_heaped]
def wsL_law_r22 : List Cond := [Cond.selects RX5 yX5_heaped yX5_heaped, Cond.code yX5_heaped cX5_heaped 3 (some .int), Cond.methodLink RX5 185 yX2_turnAt, Cond.instanceMethod yX2_turnAt, Cond.selects RX2 yX2_turnAt yX2_turnAt, Cond.code yX2_turnAt cX2_turnAt 2 (some .int), Cond.methodLink RL 87 yX6_heaped, Cond.instanceMethod yX6_heaped, Cond.selects RX6 yX6_heaped yX6_heaped, Cond.code yX6_heaped cX6_heaped 3 (some .int), Cond.methodLink RL 88 yX5_missing, Cond.instanceMethod yX5_missing, Cond.selects RX5 yX5_missing yX5_missing, Cond.code yX5_missing cX5_missing 2 (some .int), Cond.methodLink RX5 188 yX5_isMissingWhat, Cond.static yX5_isMissingWhat, Cond.code yX5_isMissingWhat cX5_isMissingWhat 1 (some .boolean), Cond.methodLink RX5 191 yX5_countMissing, Cond.instanceMethod yX5_countMissing, Cond.selects RX5 yX5_countMissing yX5_countMissing, Cond.code yX5_countMissing cX5_countMissing 4 (some .int), Cond.methodLink RX5 258 yX5_isMissing, Cond.instanceMethod yX5_isMissing, Cond.selects RX5 yX5_isMissing yX5_isMissing]
def wsL_law_r23 : List Cond := [Cond.code yX5_isMissing cX5_isMissing 4 (some .boolean), Cond.methodLink RX5 215 yX2_timesOf, Cond.instanceMethod yX2_timesOf, Cond.selects RX2 yX2_timesOf yX2_timesOf, Cond.code yX2_timesOf cX2_timesOf 4 (some .int), Cond.methodLink RL 91 yX6_missing, Cond.instanceMethod yX6_missing, Cond.selects RX6 yX6_missing yX6_missing, Cond.code yX6_missing cX6_missing 4 (some .int), Cond.methodLink RX6 161 yX6_isMissing, Cond.instanceMethod yX6_isMissing, Cond.selects RX6 yX6_isMissing yX6_isMissing, Cond.code yX6_isMissing cX6_isMissing 3 (some .boolean), Cond.methodLink RX6 158 yX6_timesIn, Cond.instanceMethod yX6_timesIn, Cond.selects RX6 yX6_timesIn yX6_timesIn, Cond.code yX6_timesIn cX6_timesIn 4 (some .int), Cond.methodLink RL 92 yX5_missed, Cond.instanceMethod yX5_missed, Cond.selects RX5 yX5_missed yX5_missed, Cond.code yX5_missed cX5_missed 3 (some .int), Cond.methodLink RX5 194 yX5_missingPiece, Cond.instanceMethod yX5_missingPiece, Cond.selects RX5 yX5_missingPiece yX5_missingPiece]
def wsL_law_r24 : List Cond := [Cond.code yX5_missingPiece cX5_missingPiece 5 (some .int), Cond.methodLink RL 95 yX6_missed, Cond.instanceMethod yX6_missed, Cond.selects RX6 yX6_missed yX6_missed, Cond.code yX6_missed cX6_missed 5 (some .int), Cond.methodLink RX6 164 yX6_missing, Cond.methodLink RL 96 yX5_ways, Cond.instanceMethod yX5_ways, Cond.selects RX5 yX5_ways yX5_ways, Cond.code yX5_ways cX5_ways 1 (some .int), Cond.methodLink RX5 197 yX3_countWays, Cond.instanceMethod yX3_countWays, Cond.selects RX3 yX3_countWays yX3_countWays, Cond.code yX3_countWays cX3_countWays 1 (some .int), Cond.fieldLink RX3 57 "CutOnce$Search" "spent" "Z", Cond.fieldLink RX3 60 "CutOnce$Search" "found" "I", Cond.methodLink RX3 53 yX3_run, Cond.instanceMethod yX3_run, Cond.selects RX3 yX3_run yX3_run, Cond.code yX3_run cX3_run 3 none, Cond.fieldLink RX3 76 "CutOnce$Search" "firstOnly" "Z", Cond.fieldLink RX3 39 "CutOnce$Search" "trialCount" "I", Cond.methodLink RX3 67 yX2_size, Cond.methodLink RX3 72 yX3_readEdges]
def wsL_law_r25 : List Cond := [Cond.instanceMethod yX3_readEdges, Cond.selects RX3 yX3_readEdges yX3_readEdges, Cond.code yX3_readEdges cX3_readEdges 9 none, Cond.methodLink RX3 82 yX2_pieceAt, Cond.methodLink RX3 86 yX1_isFlat, Cond.methodLink RX3 90 yX3_codeOf, Cond.instanceMethod yX3_codeOf, Cond.selects RX3 yX3_codeOf yX3_codeOf, Cond.code yX3_codeOf cX3_codeOf 5 (some .int), Cond.methodLink RX3 100 yX1_edgeHeight, Cond.methodLink RX3 94 yX3_mateOf, Cond.instanceMethod yX3_mateOf, Cond.selects RX3 yX3_mateOf yX3_mateOf, Cond.code yX3_mateOf cX3_mateOf 5 (some .int), Cond.methodLink RX3 97 yX2_turnAt, Cond.methodLink RX3 79 yX3_fillFrom, Cond.instanceMethod yX3_fillFrom, Cond.selects RX3 yX3_fillFrom yX3_fillFrom, Cond.code yX3_fillFrom cX3_fillFrom 4 none, Cond.constant RX3 107 (60000), Cond.methodLink RX3 63 yX1_pieces, Cond.methodLink RX3 104 yX3_lookAround, Cond.instanceMethod yX3_lookAround, Cond.selects RX3 yX3_lookAround yX3_lookAround]
def wsL_law_r26 : List Cond := [Cond.code yX3_lookAround cX3_lookAround 5 none, Cond.methodLink RX3 111 yX1_nextTo, Cond.instanceMethod yX1_nextTo, Cond.selects RX1 yX1_nextTo yX1_nextTo, Cond.code yX1_nextTo cX1_nextTo 3 (some .int), Cond.methodLink RX3 108 yX3_fits, Cond.instanceMethod yX3_fits, Cond.selects RX3 yX3_fits yX3_fits, Cond.code yX3_fits cX3_fits 5 (some .boolean), Cond.methodLink RL 99 yX6_ways, Cond.instanceMethod yX6_ways, Cond.selects RX6 yX6_ways yX6_ways, Cond.code yX6_ways cX6_ways 1 (some .int), Cond.fieldLink RX6 180 "CutOnceModel" "found" "I", Cond.methodLink RX6 187 yX6_search, Cond.instanceMethod yX6_search, Cond.selects RX6 yX6_search yX6_search, Cond.code yX6_search cX6_search 3 (some .boolean), Cond.fieldLink RX6 177 "CutOnceModel" "tried" "I", Cond.constant RX6 183 (60000), Cond.methodLink RX6 184 yX6_fits, Cond.instanceMethod yX6_fits, Cond.selects RX6 yX6_fits yX6_fits, Cond.code yX6_fits cX6_fits 5 (some .boolean)]
def wsL_law_r27 : List Cond := [Cond.methodLink RX6 170 yX6_isFlat, Cond.instanceMethod yX6_isFlat, Cond.selects RX6 yX6_isFlat yX6_isFlat, Cond.code yX6_isFlat cX6_isFlat 3 (some .boolean), Cond.methodLink RX6 167 yX6_edgeOn, Cond.instanceMethod yX6_edgeOn, Cond.selects RX6 yX6_edgeOn yX6_edgeOn, Cond.code yX6_edgeOn cX6_edgeOn 3 (some .int), Cond.methodLink RX6 173 yX6_meets, Cond.instanceMethod yX6_meets, Cond.selects RX6 yX6_meets yX6_meets, Cond.code yX6_meets cX6_meets 5 (some .boolean), Cond.methodLink RL 100 yX5_join, Cond.instanceMethod yX5_join, Cond.selects RX5 yX5_join yX5_join, Cond.code yX5_join cX5_join 1 (some .int), Cond.methodLink RX5 200 yX3_findFirst, Cond.instanceMethod yX3_findFirst, Cond.selects RX3 yX3_findFirst yX3_findFirst, Cond.code yX3_findFirst cX3_findFirst 2 (some .int), Cond.methodLink RL 103 yX6_join, Cond.instanceMethod yX6_join, Cond.selects RX6 yX6_join yX6_join, Cond.code yX6_join cX6_join 2 (some .int)]
def wsL_law_r28 : List Cond := [Cond.methodLink RL 104 yX5_joined, Cond.instanceMethod yX5_joined, Cond.selects RX5 yX5_joined yX5_joined, Cond.code yX5_joined cX5_joined 3 (some .int), Cond.methodLink RX5 203 yX3_hasJoined, Cond.instanceMethod yX3_hasJoined, Cond.selects RX3 yX3_hasJoined yX3_hasJoined, Cond.code yX3_hasJoined cX3_hasJoined 1 (some .boolean), Cond.methodLink RX5 206 yX3_joinedFrom, Cond.instanceMethod yX3_joinedFrom, Cond.selects RX3 yX3_joinedFrom yX3_joinedFrom, Cond.code yX3_joinedFrom cX3_joinedFrom 2 (some .int), Cond.methodLink RX3 47 yX1_hasPiece, Cond.methodLink RX5 209 yX3_joinedTurn, Cond.instanceMethod yX3_joinedTurn, Cond.selects RX3 yX3_joinedTurn yX3_joinedTurn, Cond.code yX3_joinedTurn cX3_joinedTurn 2 (some .int), Cond.methodLink RL 107 yX6_joined, Cond.instanceMethod yX6_joined, Cond.selects RX6 yX6_joined yX6_joined, Cond.code yX6_joined cX6_joined 3 (some .int), Cond.methodLink RL 108 yX5_trials, Cond.instanceMethod yX5_trials, Cond.selects RX5 yX5_trials yX5_trials]
def wsL_law_r29 : List Cond := [Cond.code yX5_trials cX5_trials 1 (some .int), Cond.methodLink RX5 212 yX3_trialsCounted, Cond.instanceMethod yX3_trialsCounted, Cond.selects RX3 yX3_trialsCounted yX3_trialsCounted, Cond.code yX3_trialsCounted cX3_trialsCounted 1 (some .int), Cond.methodLink RL 111 yX6_trials, Cond.instanceMethod yX6_trials, Cond.selects RX6 yX6_trials yX6_trials, Cond.code yX6_trials cX6_trials 1 (some .int), Cond.methodLink RL 112 yX5_known, Cond.instanceMethod yX5_known, Cond.selects RX5 yX5_known yX5_known, Cond.code yX5_known cX5_known 4 (some .int), Cond.methodLink RX5 218 yX1_nextTo, Cond.methodLink RL 115 yX6_known, Cond.instanceMethod yX6_known, Cond.selects RX6 yX6_known yX6_known, Cond.code yX6_known cX6_known 4 (some .int), Cond.methodLink RX6 190 yX6_neighbour, Cond.instanceMethod yX6_neighbour, Cond.selects RX6 yX6_neighbour yX6_neighbour, Cond.code yX6_neighbour cX6_neighbour 3 (some .int), Cond.methodLink RL 116 yX5_sheet, Cond.instanceMethod yX5_sheet]
def wsL_law_r30 : List Cond := [Cond.selects RX5 yX5_sheet yX5_sheet, Cond.code yX5_sheet cX5_sheet 4 (some .int), Cond.methodLink RX5 221 yX4_renew, Cond.instanceMethod yX4_renew, Cond.selects RX4 yX4_renew yX4_renew, Cond.code yX4_renew cX4_renew 4 none, Cond.methodLink RX4 23 Lib.Math.max.name, Cond.static Lib.Math.max.name, Cond.code Lib.Math.max.name Lib.Math.max.code 2 (some .int), Cond.methodLink RX4 29 Lib.Math.min.name, Cond.static Lib.Math.min.name, Cond.code Lib.Math.min.name Lib.Math.min.code 2 (some .int), Cond.methodLink RL 119 yX6_sheet, Cond.instanceMethod yX6_sheet, Cond.selects RX6 yX6_sheet yX6_sheet, Cond.code yX6_sheet cX6_sheet 5 (some .int), Cond.methodLink RL 120 yX5_lose, Cond.instanceMethod yX5_lose, Cond.selects RX5 yX5_lose yX5_lose, Cond.code yX5_lose cX5_lose 3 (some .int), Cond.methodLink RX5 224 yX4_drop, Cond.instanceMethod yX4_drop, Cond.selects RX4 yX4_drop yX4_drop, Cond.code yX4_drop cX4_drop 1 none]
def wsL_law_r31 : List Cond := [Cond.methodLink RL 123 yX6_lose, Cond.instanceMethod yX6_lose, Cond.selects RX6 yX6_lose yX6_lose, Cond.code yX6_lose cX6_lose 3 (some .int), Cond.methodLink RL 124 yX5_put, Cond.instanceMethod yX5_put, Cond.selects RX5 yX5_put yX5_put, Cond.code yX5_put cX5_put 4 (some .int), Cond.methodLink RX5 227 yX4_write, Cond.instanceMethod yX4_write, Cond.selects RX4 yX4_write yX4_write, Cond.code yX4_write cX4_write 3 none, Cond.methodLink RX4 39 yX4_cutToLane, Cond.instanceMethod yX4_cutToLane, Cond.selects RX4 yX4_cutToLane yX4_cutToLane, Cond.code yX4_cutToLane cX4_cutToLane 2 (some .int), Cond.methodLink RL 127 yX6_put, Cond.instanceMethod yX6_put, Cond.selects RX6 yX6_put yX6_put, Cond.code yX6_put cX6_put 4 (some .int), Cond.methodLink RX6 204 yX6_noCell, Cond.instanceMethod yX6_noCell, Cond.selects RX6 yX6_noCell yX6_noCell, Cond.code yX6_noCell cX6_noCell 3 (some .int)]
def wsL_law_r32 : List Cond := [Cond.methodLink RL 128 yX5_cell, Cond.instanceMethod yX5_cell, Cond.selects RX5 yX5_cell yX5_cell, Cond.code yX5_cell cX5_cell 4 (some .long), Cond.methodLink RX5 230 yX5_comeLost, Cond.instanceMethod yX5_comeLost, Cond.selects RX5 yX5_comeLost yX5_comeLost, Cond.code yX5_comeLost cX5_comeLost 2 (some .long), Cond.methodLink RL 131 yX6_cell, Cond.instanceMethod yX6_cell, Cond.selects RX6 yX6_cell yX6_cell, Cond.code yX6_cell cX6_cell 4 (some .long), Cond.methodLink RX6 207 yX6_failedLong, Cond.instanceMethod yX6_failedLong, Cond.selects RX6 yX6_failedLong yX6_failedLong, Cond.code yX6_failedLong cX6_failedLong 2 (some .long), Cond.methodLink RL 132 yX5_copy, Cond.instanceMethod yX5_copy, Cond.selects RX5 yX5_copy yX5_copy, Cond.code yX5_copy cX5_copy 8 (some .int), Cond.methodLink RX5 237 yX4_laneHeld, Cond.instanceMethod yX4_laneHeld, Cond.selects RX4 yX4_laneHeld yX4_laneHeld, Cond.code yX4_laneHeld cX4_laneHeld 1 (some .int)]
def wsL_law_r33 : List Cond := [Cond.methodLink RX5 240 yX4_writeFrom, Cond.instanceMethod yX4_writeFrom, Cond.selects RX4 yX4_writeFrom yX4_writeFrom, Cond.code yX4_writeFrom cX4_writeFrom 5 none, Cond.methodLink RX4 43 arraycopyName, Cond.native arraycopyName, Cond.static arraycopyName, Cond.initialized "java/lang/System", Cond.methodLink RL 135 yX6_copy, Cond.instanceMethod yX6_copy, Cond.selects RX6 yX6_copy yX6_copy, Cond.code yX6_copy cX6_copy 7 (some .int), Cond.methodLink RL 136 yX5_tell, Cond.instanceMethod yX5_tell, Cond.selects RX5 yX5_tell yX5_tell, Cond.code yX5_tell cX5_tell 2 (some .int), Cond.methodLink RX5 243 yX5_leave, Cond.instanceMethod yX5_leave, Cond.selects RX5 yX5_leave yX5_leave, Cond.code yX5_leave cX5_leave 2 none, Cond.fieldLink RX5 249 "CutOnce" "traceLeft" "I", Cond.methodLink RX5 246 yX5_sumBody, Cond.instanceMethod yX5_sumBody, Cond.selects RX5 yX5_sumBody yX5_sumBody]
def wsL_law_r34 : List Cond := [Cond.code yX5_sumBody cX5_sumBody 2 (some .int), Cond.methodLink RX5 261 yX1_sumOf, Cond.instanceMethod yX1_sumOf, Cond.selects RX1 yX1_sumOf yX1_sumOf, Cond.code yX1_sumOf cX1_sumOf 4 (some .int), Cond.methodLink RL 139 yX6_tell, Cond.instanceMethod yX6_tell, Cond.selects RX6 yX6_tell yX6_tell, Cond.code yX6_tell cX6_tell 5 (some .int), Cond.methodLink RX6 218 yX6_traced, Cond.instanceMethod yX6_traced, Cond.selects RX6 yX6_traced yX6_traced, Cond.code yX6_traced cX6_traced 2 none, Cond.fieldLink RX6 215 "CutOnceModel" "trace" "I", Cond.methodLink RL 140 yX5_mark, Cond.instanceMethod yX5_mark, Cond.selects RX5 yX5_mark yX5_mark, Cond.code yX5_mark cX5_mark 2 (some .int), Cond.methodLink RL 143 yX6_mark, Cond.instanceMethod yX6_mark, Cond.selects RX6 yX6_mark yX6_mark, Cond.code yX6_mark cX6_mark 3 (some .int), Cond.methodLink RL 144 yX5_as, Cond.instanceMethod yX5_as]
def wsL_law_r35 : List Cond := [Cond.selects RX5 yX5_as yX5_as, Cond.code yX5_as cX5_as 3 (some .int), Cond.methodLink RL 147 yX6_as, Cond.instanceMethod yX6_as, Cond.selects RX6 yX6_as yX6_as, Cond.code yX6_as cX6_as 3 (some .int), Cond.methodLink RL 148 yX5_trace, Cond.instanceMethod yX5_trace, Cond.selects RX5 yX5_trace yX5_trace, Cond.code yX5_trace cX5_trace 1 (some .int), Cond.methodLink RL 151 yX6_trace, Cond.instanceMethod yX6_trace, Cond.selects RX6 yX6_trace yX6_trace, Cond.code yX6_trace cX6_trace 1 (some .int), Cond.methodLink RL 152 yX5_fault, Cond.instanceMethod yX5_fault, Cond.selects RX5 yX5_fault yX5_fault, Cond.code yX5_fault cX5_fault 1 (some .int), Cond.methodLink RL 155 yX6_fault, Cond.instanceMethod yX6_fault, Cond.selects RX6 yX6_fault yX6_fault, Cond.code yX6_fault cX6_fault 1 (some .int), Cond.methodLink RL 156 yX5_told, Cond.instanceMethod yX5_told]
def wsL_law_r36 : List Cond := [Cond.selects RX5 yX5_told yX5_told, Cond.code yX5_told cX5_told 2 (some .int), Cond.methodLink RX5 252 yX1_width, Cond.instanceMethod yX1_width, Cond.selects RX1 yX1_width yX1_width, Cond.code yX1_width cX1_width 1 (some .int), Cond.methodLink RX5 255 yX1_depth, Cond.instanceMethod yX1_depth, Cond.selects RX1 yX1_depth yX1_depth, Cond.code yX1_depth cX1_depth 1 (some .int), Cond.methodLink RL 159 yX6_told, Cond.instanceMethod yX6_told, Cond.selects RX6 yX6_told yX6_told, Cond.code yX6_told cX6_told 2 (some .int)]
def wsL_law : List Cond := (wsL_law_r1 ++ (wsL_law_r2 ++ (wsL_law_r3 ++ (wsL_law_r4 ++ (wsL_law_r5 ++ (wsL_law_r6 ++ (wsL_law_r7 ++ (wsL_law_r8 ++ (wsL_law_r9 ++ (wsL_law_r10 ++ (wsL_law_r11 ++ (wsL_law_r12 ++ (wsL_law_r13 ++ (wsL_law_r14 ++ (wsL_law_r15 ++ (wsL_law_r16 ++ (wsL_law_r17 ++ (wsL_law_r18 ++ (wsL_law_r19 ++ (wsL_law_r20 ++ (wsL_law_r21 ++ (wsL_law_r22 ++ (wsL_law_r23 ++ (wsL_law_r24 ++ (wsL_law_r25 ++ (wsL_law_r26 ++ (wsL_law_r27 ++ (wsL_law_r28 ++ (wsL_law_r29 ++ (wsL_law_r30 ++ (wsL_law_r31 ++ (wsL_law_r32 ++ (wsL_law_r33 ++ (wsL_law_r34 ++ (wsL_law_r35 ++ wsL_law_r36))))))))))))))))))))))))))))))))))) ++ wsX50 ++ wsX60 ++ wsX10 ++ wsX20 ++ wsX30 ++ wsX00 ++ wsX40 ++ ([] : List Cond)
theorem inJ9 : ∀ w ∈ wsJ90, w ∈ lw_tbl := by decide +kernel
theorem inJ10 : ∀ w ∈ wsJ100, w ∈ lw_tbl := by decide +kernel
theorem dJ9_abs_0f7a4_0 : decode cJ9_abs_0f7a4 0 = .ok (.iload_n 0, 1) := by decide +kernel
theorem dJ9_abs_0f7a4_1 : decode cJ9_abs_0f7a4 1 = .ok (.ifCond .ge 8, 3) := by decide +kernel
theorem dJ9_abs_0f7a4_4 : decode cJ9_abs_0f7a4 4 = .ok (.iload_n 0, 1) := by decide +kernel
theorem dJ9_abs_0f7a4_5 : decode cJ9_abs_0f7a4 5 = .ok (.ineg, 1) := by decide +kernel
theorem dJ9_abs_0f7a4_6 : decode cJ9_abs_0f7a4 6 = .ok (.goto 4, 3) := by decide +kernel
theorem dJ9_abs_0f7a4_9 : decode cJ9_abs_0f7a4 9 = .ok (.iload_n 0, 1) := by decide +kernel
theorem dJ9_abs_0f7a4_10 : decode cJ9_abs_0f7a4 10 = .ok (.ireturn, 1) := by decide +kernel
theorem dJ9_max_7cf53_0 : decode cJ9_max_7cf53 0 = .ok (.iload_n 0, 1) := by decide +kernel
theorem dJ9_max_7cf53_1 : decode cJ9_max_7cf53 1 = .ok (.iload_n 1, 1) := by decide +kernel
theorem dJ9_max_7cf53_2 : decode cJ9_max_7cf53 2 = .ok (.if_icmp .lt 7, 3) := by decide +kernel
theorem dJ9_max_7cf53_5 : decode cJ9_max_7cf53 5 = .ok (.iload_n 0, 1) := by decide +kernel
theorem dJ9_max_7cf53_6 : decode cJ9_max_7cf53 6 = .ok (.goto 4, 3) := by decide +kernel
theorem dJ9_max_7cf53_9 : decode cJ9_max_7cf53 9 = .ok (.iload_n 1, 1) := by decide +kernel
theorem dJ9_max_7cf53_10 : decode cJ9_max_7cf53 10 = .ok (.ireturn, 1) := by decide +kernel
theorem dJ9_min_7cf53_0 : decode cJ9_min_7cf53 0 = .ok (.iload_n 0, 1) := by decide +kernel
theorem dJ9_min_7cf53_1 : decode cJ9_min_7cf53 1 = .ok (.iload_n 1, 1) := by decide +kernel
theorem dJ9_min_7cf53_2 : decode cJ9_min_7cf53 2 = .ok (.if_icmp .gt 7, 3) := by decide +kernel
theorem dJ9_min_7cf53_5 : decode cJ9_min_7cf53 5 = .ok (.iload_n 0, 1) := by decide +kernel
theorem dJ9_min_7cf53_6 : decode cJ9_min_7cf53 6 = .ok (.goto 4, 3) := by decide +kernel
theorem dJ9_min_7cf53_9 : decode cJ9_min_7cf53 9 = .ok (.iload_n 1, 1) := by decide +kernel
theorem dJ9_min_7cf53_10 : decode cJ9_min_7cf53 10 = .ok (.ireturn, 1) := by decide +kernel
abbrev vwCl : List vw_C := [(RX0, TX0, 1), (RX1, TX1, 4), (RX2, TX2, 3), (RX3, TX3, 13), (RX4, TX4, 4), (RX5, TX5, 7), (RX6, TX6, 23)]
end
section
theorem dX0_init_0 : decode cX0_init 0 = .ok (.aload_n 0, 1) := by decide +kernel
theorem dX0_init_1 : decode cX0_init 1 = .ok (.invokespecial 1, 3) := by decide +kernel
theorem dX0_init_4 : decode cX0_init 4 = .ok (.return_, 1) := by decide +kernel
theorem dX0_begin_0 : decode cX0_begin 0 = .ok (.aload_n 0, 1) := by decide +kernel
theorem dX0_begin_1 : decode cX0_begin 1 = .ok (.lload_n 1, 1) := by decide +kernel
theorem dX0_begin_2 : decode cX0_begin 2 = .ok (.putfield 7, 3) := by decide +kernel
theorem dX0_begin_5 : decode cX0_begin 5 = .ok (.return_, 1) := by decide +kernel
theorem dX0_below_0 : decode cX0_below 0 = .ok (.aload_n 0, 1) := by decide +kernel
theorem dX0_below_1 : decode cX0_below 1 = .ok (.aload_n 0, 1) := by decide +kernel
theorem dX0_below_2 : decode cX0_below 2 = .ok (.getfield 7, 3) := by decide +kernel
theorem dX0_below_5 : decode cX0_below 5 = .ok (.ldc2_w 13, 3) := by decide +kernel
theorem dX0_below_8 : decode cX0_below 8 = .ok (.lmul, 1) := by decide +kernel
theorem dX0_below_9 : decode cX0_below 9 = .ok (.ldc2_w 15, 3) := by decide +kernel
theorem dX0_below_12 : decode cX0_below 12 = .ok (.ladd, 1) := by decide +kernel
theorem dX0_below_13 : decode cX0_below 13 = .ok (.putfield 7, 3) := by decide +kernel
theorem dX0_below_16 : decode cX0_below 16 = .ok (.iload_n 1, 1) := by decide +kernel
theorem dX0_below_17 : decode cX0_below 17 = .ok (.iconst 1, 1) := by decide +kernel
theorem dX0_below_18 : decode cX0_below 18 = .ok (.if_icmp .ge 7, 3) := by decide +kernel
theorem dX0_below_21 : decode cX0_below 21 = .ok (.iconst 0, 1) := by decide +kernel
theorem dX0_below_22 : decode cX0_below 22 = .ok (.goto 19, 3) := by decide +kernel
theorem dX0_below_25 : decode cX0_below 25 = .ok (.aload_n 0, 1) := by decide +kernel
theorem dX0_below_26 : decode cX0_below 26 = .ok (.getfield 7, 3) := by decide +kernel
theorem dX0_below_29 : decode cX0_below 29 = .ok (.ldc2_w 17, 3) := by decide +kernel
theorem dX0_below_32 : decode cX0_below 32 = .ok (.land, 1) := by decide +kernel
theorem dX0_below_33 : decode cX0_below 33 = .ok (.ldc2_w 19, 3) := by decide +kernel
theorem dX0_below_36 : decode cX0_below 36 = .ok (.ldiv, 1) := by decide +kernel
theorem dX0_below_37 : decode cX0_below 37 = .ok (.iload_n 1, 1) := by decide +kernel
theorem dX0_below_38 : decode cX0_below 38 = .ok (.i2l, 1) := by decide +kernel
theorem dX0_below_39 : decode cX0_below 39 = .ok (.lrem, 1) := by decide +kernel
theorem dX0_below_40 : decode cX0_below 40 = .ok (.l2i, 1) := by decide +kernel
theorem dX0_below_41 : decode cX0_below 41 = .ok (.ireturn, 1) := by decide +kernel
set_option maxRecDepth 20000 in
theorem ggX1_init_X1_cutAnew : GoodIn wsX1_init wsX1_cutAnew := goodIn_r _ [11, 12, 13, 5, 14, 15, 16, 10, 17, 6, 18, 19, 20, 21] (by decide +kernel) (by decide +kernel)
set_option maxRecDepth 20000 in
theorem gX1_init_X1_cutAnew : GoodIn wsX1_init (wsV RX1 18 RX1 yX1_cutAnew wsX1_cutAnew) := goodIn_app (goodIn_of _ (by decide +kernel)) ggX1_init_X1_cutAnew
theorem dX1_init_0 : decode cX1_init 0 = .ok (.aload_n 0, 1) := by decide +kernel
theorem dX1_init_1 : decode cX1_init 1 = .ok (.invokespecial 3, 3) := by decide +kernel
theorem dX1_init_4 : decode cX1_init 4 = .ok (.aload_n 0, 1) := by decide +kernel
theorem dX1_init_5 : decode cX1_init 5 = .ok (.sipush 200, 3) := by decide +kernel
theorem dX1_init_8 : decode cX1_init 8 = .ok (.newarray .int, 2) := by decide +kernel
theorem dX1_init_10 : decode cX1_init 10 = .ok (.putfield 9, 3) := by decide +kernel
theorem dX1_init_13 : decode cX1_init 13 = .ok (.aload_n 0, 1) := by decide +kernel
theorem dX1_init_14 : decode cX1_init 14 = .ok (.bipush 100, 2) := by decide +kernel
theorem dX1_init_16 : decode cX1_init 16 = .ok (.newarray .int, 2) := by decide +kernel
theorem dX1_init_18 : decode cX1_init 18 = .ok (.putfield 15, 3) := by decide +kernel
theorem dX1_init_21 : decode cX1_init 21 = .ok (.aload_n 0, 1) := by decide +kernel
theorem dX1_init_22 : decode cX1_init 22 = .ok (.iconst 1, 1) := by decide +kernel
theorem dX1_init_23 : decode cX1_init 23 = .ok (.iconst 1, 1) := by decide +kernel
theorem dX1_init_24 : decode cX1_init 24 = .ok (.invokevirtual 18, 3) := by decide +kernel
theorem dX1_init_27 : decode cX1_init 27 = .ok (.return_, 1) := by decide +kernel
set_option maxRecDepth 20000 in
theorem ggX1_cutAnew_X1_layEdges : GoodIn wsX1_cutAnew wsX1_layEdges := goodIn_r _ [8, 1, 2, 9, 10, 11, 12, 13] (by decide +kernel) (by decide +kernel)
set_option maxRecDepth 20000 in
theorem gX1_cutAnew_X1_layEdges : GoodIn wsX1_cutAnew (wsV RX1 29 RX1 yX1_layEdges wsX1_layEdges) := goodIn_app (goodIn_of _ (by decide +kernel)) ggX1_cutAnew_X1_layEdges
theorem dX1_cutAnew_0 : decode cX1_cutAnew 0 = .ok (.aload_n 0, 1) := by decide +kernel
theorem dX1_cutAnew_1 : decode cX1_cutAnew 1 = .ok (.iload_n 1, 1) := by decide +kernel
theorem dX1_cutAnew_2 : decode cX1_cutAnew 2 = .ok (.putfield 22, 3) := by decide +kernel
theorem dX1_cutAnew_5 : decode cX1_cutAnew 5 = .ok (.aload_n 0, 1) := by decide +kernel
theorem dX1_cutAnew_6 : decode cX1_cutAnew 6 = .ok (.iload_n 2, 1) := by decide +kernel
theorem dX1_cutAnew_7 : decode cX1_cutAnew 7 = .ok (.putfield 26, 3) := by decide +kernel
theorem dX1_cutAnew_10 : decode cX1_cutAnew 10 = .ok (.iconst 0, 1) := by decide +kernel
theorem dX1_cutAnew_11 : decode cX1_cutAnew 11 = .ok (.istore_n 3, 1) := by decide +kernel
theorem dX1_cutAnew_12 : decode cX1_cutAnew 12 = .ok (.iload_n 3, 1) := by decide +kernel
theorem dX1_cutAnew_13 : decode cX1_cutAnew 13 = .ok (.aload_n 0, 1) := by decide +kernel
theorem dX1_cutAnew_14 : decode cX1_cutAnew 14 = .ok (.getfield 9, 3) := by decide +kernel
theorem dX1_cutAnew_17 : decode cX1_cutAnew 17 = .ok (.arraylength, 1) := by decide +kernel
theorem dX1_cutAnew_18 : decode cX1_cutAnew 18 = .ok (.if_icmp .ge 16, 3) := by decide +kernel
theorem dX1_cutAnew_21 : decode cX1_cutAnew 21 = .ok (.aload_n 0, 1) := by decide +kernel
theorem dX1_cutAnew_22 : decode cX1_cutAnew 22 = .ok (.getfield 9, 3) := by decide +kernel
theorem dX1_cutAnew_25 : decode cX1_cutAnew 25 = .ok (.iload_n 3, 1) := by decide +kernel
theorem dX1_cutAnew_26 : decode cX1_cutAnew 26 = .ok (.iconst 0, 1) := by decide +kernel
theorem dX1_cutAnew_27 : decode cX1_cutAnew 27 = .ok (.iastore, 1) := by decide +kernel
theorem dX1_cutAnew_28 : decode cX1_cutAnew 28 = .ok (.iinc 3 1, 3) := by decide +kernel
theorem dX1_cutAnew_31 : decode cX1_cutAnew 31 = .ok (.goto (-19), 3) := by decide +kernel
theorem dX1_cutAnew_34 : decode cX1_cutAnew 34 = .ok (.iconst 0, 1) := by decide +kernel
theorem dX1_cutAnew_35 : decode cX1_cutAnew 35 = .ok (.istore_n 3, 1) := by decide +kernel
theorem dX1_cutAnew_36 : decode cX1_cutAnew 36 = .ok (.iload_n 3, 1) := by decide +kernel
theorem dX1_cutAnew_37 : decode cX1_cutAnew 37 = .ok (.aload_n 0, 1) := by decide +kernel
theorem dX1_cutAnew_38 : decode cX1_cutAnew 38 = .ok (.getfield 26, 3) := by decide +kernel
theorem dX1_cutAnew_41 : decode cX1_cutAnew 41 = .ok (.if_icmp .ge 34, 3) := by decide +kernel
theorem dX1_cutAnew_44 : decode cX1_cutAnew 44 = .ok (.iconst 0, 1) := by decide +kernel
theorem dX1_cutAnew_45 : decode cX1_cutAnew 45 = .ok (.istore 4, 2) := by decide +kernel
theorem dX1_cutAnew_47 : decode cX1_cutAnew 47 = .ok (.iload 4, 2) := by decide +kernel
theorem dX1_cutAnew_49 : decode cX1_cutAnew 49 = .ok (.aload_n 0, 1) := by decide +kernel
theorem dX1_cutAnew_50 : decode cX1_cutAnew 50 = .ok (.getfield 22, 3) := by decide +kernel
theorem dX1_cutAnew_53 : decode cX1_cutAnew 53 = .ok (.if_icmp .ge 16, 3) := by decide +kernel
theorem dX1_cutAnew_56 : decode cX1_cutAnew 56 = .ok (.aload_n 0, 1) := by decide +kernel
theorem dX1_cutAnew_57 : decode cX1_cutAnew 57 = .ok (.iload 4, 2) := by decide +kernel
theorem dX1_cutAnew_59 : decode cX1_cutAnew 59 = .ok (.iload_n 3, 1) := by decide +kernel
theorem dX1_cutAnew_60 : decode cX1_cutAnew 60 = .ok (.invokevirtual 29, 3) := by decide +kernel
theorem dX1_cutAnew_63 : decode cX1_cutAnew 63 = .ok (.iinc 4 1, 3) := by decide +kernel
theorem dX1_cutAnew_66 : decode cX1_cutAnew 66 = .ok (.goto (-19), 3) := by decide +kernel
theorem dX1_cutAnew_69 : decode cX1_cutAnew 69 = .ok (.iinc 3 1, 3) := by decide +kernel
theorem dX1_cutAnew_72 : decode cX1_cutAnew 72 = .ok (.goto (-36), 3) := by decide +kernel
theorem dX1_cutAnew_75 : decode cX1_cutAnew 75 = .ok (.return_, 1) := by decide +kernel
theorem dX1_layEdges_0 : decode cX1_layEdges 0 = .ok (.aload_n 0, 1) := by decide +kernel
theorem dX1_layEdges_1 : decode cX1_layEdges 1 = .ok (.getfield 22, 3) := by decide +kernel
theorem dX1_layEdges_4 : decode cX1_layEdges 4 = .ok (.iload_n 2, 1) := by decide +kernel
theorem dX1_layEdges_5 : decode cX1_layEdges 5 = .ok (.imul, 1) := by decide +kernel
theorem dX1_layEdges_6 : decode cX1_layEdges 6 = .ok (.iload_n 1, 1) := by decide +kernel
theorem dX1_layEdges_7 : decode cX1_layEdges 7 = .ok (.iadd, 1) := by decide +kernel
theorem dX1_layEdges_8 : decode cX1_layEdges 8 = .ok (.iconst 4, 1) := by decide +kernel
theorem dX1_layEdges_9 : decode cX1_layEdges 9 = .ok (.imul, 1) := by decide +kernel
theorem dX1_layEdges_10 : decode cX1_layEdges 10 = .ok (.istore_n 3, 1) := by decide +kernel
theorem dX1_layEdges_11 : decode cX1_layEdges 11 = .ok (.aload_n 0, 1) := by decide +kernel
theorem dX1_layEdges_12 : decode cX1_layEdges 12 = .ok (.getfield 22, 3) := by decide +kernel
theorem dX1_layEdges_15 : decode cX1_layEdges 15 = .ok (.iconst 1, 1) := by decide +kernel
theorem dX1_layEdges_16 : decode cX1_layEdges 16 = .ok (.isub, 1) := by decide +kernel
theorem dX1_layEdges_17 : decode cX1_layEdges 17 = .ok (.iload_n 2, 1) := by decide +kernel
theorem dX1_layEdges_18 : decode cX1_layEdges 18 = .ok (.imul, 1) := by decide +kernel
theorem dX1_layEdges_19 : decode cX1_layEdges 19 = .ok (.iload_n 1, 1) := by decide +kernel
theorem dX1_layEdges_20 : decode cX1_layEdges 20 = .ok (.iadd, 1) := by decide +kernel
theorem dX1_layEdges_21 : decode cX1_layEdges 21 = .ok (.istore 4, 2) := by decide +kernel
theorem dX1_layEdges_23 : decode cX1_layEdges 23 = .ok (.aload_n 0, 1) := by decide +kernel
theorem dX1_layEdges_24 : decode cX1_layEdges 24 = .ok (.getfield 22, 3) := by decide +kernel
theorem dX1_layEdges_27 : decode cX1_layEdges 27 = .ok (.iconst 1, 1) := by decide +kernel
theorem dX1_layEdges_28 : decode cX1_layEdges 28 = .ok (.isub, 1) := by decide +kernel
theorem dX1_layEdges_29 : decode cX1_layEdges 29 = .ok (.aload_n 0, 1) := by decide +kernel
theorem dX1_layEdges_30 : decode cX1_layEdges 30 = .ok (.getfield 26, 3) := by decide +kernel
theorem dX1_layEdges_33 : decode cX1_layEdges 33 = .ok (.imul, 1) := by decide +kernel
theorem dX1_layEdges_34 : decode cX1_layEdges 34 = .ok (.aload_n 0, 1) := by decide +kernel
theorem dX1_layEdges_35 : decode cX1_layEdges 35 = .ok (.getfield 22, 3) := by decide +kernel
theorem dX1_layEdges_38 : decode cX1_layEdges 38 = .ok (.iload_n 2, 1) := by decide +kernel
theorem dX1_layEdges_39 : decode cX1_layEdges 39 = .ok (.imul, 1) := by decide +kernel
theorem dX1_layEdges_40 : decode cX1_layEdges 40 = .ok (.iadd, 1) := by decide +kernel
theorem dX1_layEdges_41 : decode cX1_layEdges 41 = .ok (.iload_n 1, 1) := by decide +kernel
theorem dX1_layEdges_42 : decode cX1_layEdges 42 = .ok (.iadd, 1) := by decide +kernel
theorem dX1_layEdges_43 : decode cX1_layEdges 43 = .ok (.istore 5, 2) := by decide +kernel
theorem dX1_layEdges_45 : decode cX1_layEdges 45 = .ok (.aload_n 0, 1) := by decide +kernel
theorem dX1_layEdges_46 : decode cX1_layEdges 46 = .ok (.getfield 15, 3) := by decide +kernel
theorem dX1_layEdges_49 : decode cX1_layEdges 49 = .ok (.iload_n 3, 1) := by decide +kernel
theorem dX1_layEdges_50 : decode cX1_layEdges 50 = .ok (.iconst 0, 1) := by decide +kernel
theorem dX1_layEdges_51 : decode cX1_layEdges 51 = .ok (.iadd, 1) := by decide +kernel
theorem dX1_layEdges_52 : decode cX1_layEdges 52 = .ok (.iload_n 2, 1) := by decide +kernel
theorem dX1_layEdges_53 : decode cX1_layEdges 53 = .ok (.ifCond .ne 8, 3) := by decide +kernel
theorem dX1_layEdges_56 : decode cX1_layEdges 56 = .ok (.bipush (-9), 2) := by decide +kernel
theorem dX1_layEdges_58 : decode cX1_layEdges 58 = .ok (.goto 10, 3) := by decide +kernel
theorem dX1_layEdges_61 : decode cX1_layEdges 61 = .ok (.iload 5, 2) := by decide +kernel
theorem dX1_layEdges_63 : decode cX1_layEdges 63 = .ok (.aload_n 0, 1) := by decide +kernel
theorem dX1_layEdges_64 : decode cX1_layEdges 64 = .ok (.getfield 22, 3) := by decide +kernel
theorem dX1_layEdges_67 : decode cX1_layEdges 67 = .ok (.isub, 1) := by decide +kernel
theorem dX1_layEdges_68 : decode cX1_layEdges 68 = .ok (.iastore, 1) := by decide +kernel
theorem dX1_layEdges_69 : decode cX1_layEdges 69 = .ok (.aload_n 0, 1) := by decide +kernel
theorem dX1_layEdges_70 : decode cX1_layEdges 70 = .ok (.getfield 15, 3) := by decide +kernel
theorem dX1_layEdges_73 : decode cX1_layEdges 73 = .ok (.iload_n 3, 1) := by decide +kernel
theorem dX1_layEdges_74 : decode cX1_layEdges 74 = .ok (.iconst 1, 1) := by decide +kernel
theorem dX1_layEdges_75 : decode cX1_layEdges 75 = .ok (.iadd, 1) := by decide +kernel
theorem dX1_layEdges_76 : decode cX1_layEdges 76 = .ok (.iload_n 1, 1) := by decide +kernel
theorem dX1_layEdges_77 : decode cX1_layEdges 77 = .ok (.aload_n 0, 1) := by decide +kernel
theorem dX1_layEdges_78 : decode cX1_layEdges 78 = .ok (.getfield 22, 3) := by decide +kernel
theorem dX1_layEdges_81 : decode cX1_layEdges 81 = .ok (.iconst 1, 1) := by decide +kernel
theorem dX1_layEdges_82 : decode cX1_layEdges 82 = .ok (.isub, 1) := by decide +kernel
theorem dX1_layEdges_83 : decode cX1_layEdges 83 = .ok (.if_icmp .ne 8, 3) := by decide +kernel
theorem dX1_layEdges_86 : decode cX1_layEdges 86 = .ok (.bipush (-9), 2) := by decide +kernel
theorem dX1_layEdges_88 : decode cX1_layEdges 88 = .ok (.goto 5, 3) := by decide +kernel
theorem dX1_layEdges_91 : decode cX1_layEdges 91 = .ok (.iload 4, 2) := by decide +kernel
theorem dX1_layEdges_93 : decode cX1_layEdges 93 = .ok (.iastore, 1) := by decide +kernel
theorem dX1_layEdges_94 : decode cX1_layEdges 94 = .ok (.aload_n 0, 1) := by decide +kernel
theorem dX1_layEdges_95 : decode cX1_layEdges 95 = .ok (.getfield 15, 3) := by decide +kernel
theorem dX1_layEdges_98 : decode cX1_layEdges 98 = .ok (.iload_n 3, 1) := by decide +kernel
theorem dX1_layEdges_99 : decode cX1_layEdges 99 = .ok (.iconst 2, 1) := by decide +kernel
theorem dX1_layEdges_100 : decode cX1_layEdges 100 = .ok (.iadd, 1) := by decide +kernel
theorem dX1_layEdges_101 : decode cX1_layEdges 101 = .ok (.iload_n 2, 1) := by decide +kernel
theorem dX1_layEdges_102 : decode cX1_layEdges 102 = .ok (.aload_n 0, 1) := by decide +kernel
theorem dX1_layEdges_103 : decode cX1_layEdges 103 = .ok (.getfield 26, 3) := by decide +kernel
theorem dX1_layEdges_106 : decode cX1_layEdges 106 = .ok (.iconst 1, 1) := by decide +kernel
theorem dX1_layEdges_107 : decode cX1_layEdges 107 = .ok (.isub, 1) := by decide +kernel
theorem dX1_layEdges_108 : decode cX1_layEdges 108 = .ok (.if_icmp .ne 8, 3) := by decide +kernel
theorem dX1_layEdges_111 : decode cX1_layEdges 111 = .ok (.bipush (-9), 2) := by decide +kernel
theorem dX1_layEdges_113 : decode cX1_layEdges 113 = .ok (.goto 5, 3) := by decide +kernel
theorem dX1_layEdges_116 : decode cX1_layEdges 116 = .ok (.iload 5, 2) := by decide +kernel
theorem dX1_layEdges_118 : decode cX1_layEdges 118 = .ok (.iastore, 1) := by decide +kernel
theorem dX1_layEdges_119 : decode cX1_layEdges 119 = .ok (.aload_n 0, 1) := by decide +kernel
theorem dX1_layEdges_120 : decode cX1_layEdges 120 = .ok (.getfield 15, 3) := by decide +kernel
theorem dX1_layEdges_123 : decode cX1_layEdges 123 = .ok (.iload_n 3, 1) := by decide +kernel
theorem dX1_layEdges_124 : decode cX1_layEdges 124 = .ok (.iconst 3, 1) := by decide +kernel
theorem dX1_layEdges_125 : decode cX1_layEdges 125 = .ok (.iadd, 1) := by decide +kernel
theorem dX1_layEdges_126 : decode cX1_layEdges 126 = .ok (.iload_n 1, 1) := by decide +kernel
theorem dX1_layEdges_127 : decode cX1_layEdges 127 = .ok (.ifCond .ne 8, 3) := by decide +kernel
theorem dX1_layEdges_130 : decode cX1_layEdges 130 = .ok (.bipush (-9), 2) := by decide +kernel
theorem dX1_layEdges_132 : decode cX1_layEdges 132 = .ok (.goto 7, 3) := by decide +kernel
theorem dX1_layEdges_135 : decode cX1_layEdges 135 = .ok (.iload 4, 2) := by decide +kernel
theorem dX1_layEdges_137 : decode cX1_layEdges 137 = .ok (.iconst 1, 1) := by decide +kernel
theorem dX1_layEdges_138 : decode cX1_layEdges 138 = .ok (.isub, 1) := by decide +kernel
theorem dX1_layEdges_139 : decode cX1_layEdges 139 = .ok (.iastore, 1) := by decide +kernel
theorem dX1_layEdges_140 : decode cX1_layEdges 140 = .ok (.return_, 1) := by decide +kernel
theorem dX1_width_0 : decode cX1_width 0 = .ok (.aload_n 0, 1) := by decide +kernel
theorem dX1_width_1 : decode cX1_width 1 = .ok (.getfield 22, 3) := by decide +kernel
theorem dX1_width_4 : decode cX1_width 4 = .ok (.ireturn, 1) := by decide +kernel
theorem dX1_depth_0 : decode cX1_depth 0 = .ok (.aload_n 0, 1) := by decide +kernel
theorem dX1_depth_1 : decode cX1_depth 1 = .ok (.getfield 26, 3) := by decide +kernel
theorem dX1_depth_4 : decode cX1_depth 4 = .ok (.ireturn, 1) := by decide +kernel
theorem dX1_pieces_0 : decode cX1_pieces 0 = .ok (.aload_n 0, 1) := by decide +kernel
theorem dX1_pieces_1 : decode cX1_pieces 1 = .ok (.getfield 22, 3) := by decide +kernel
theorem dX1_pieces_4 : decode cX1_pieces 4 = .ok (.aload_n 0, 1) := by decide +kernel
theorem dX1_pieces_5 : decode cX1_pieces 5 = .ok (.getfield 26, 3) := by decide +kernel
theorem dX1_pieces_8 : decode cX1_pieces 8 = .ok (.imul, 1) := by decide +kernel
theorem dX1_pieces_9 : decode cX1_pieces 9 = .ok (.ireturn, 1) := by decide +kernel
theorem dX1_sides_0 : decode cX1_sides 0 = .ok (.aload_n 0, 1) := by decide +kernel
theorem dX1_sides_1 : decode cX1_sides 1 = .ok (.getfield 22, 3) := by decide +kernel
theorem dX1_sides_4 : decode cX1_sides 4 = .ok (.iconst 1, 1) := by decide +kernel
theorem dX1_sides_5 : decode cX1_sides 5 = .ok (.isub, 1) := by decide +kernel
theorem dX1_sides_6 : decode cX1_sides 6 = .ok (.aload_n 0, 1) := by decide +kernel
theorem dX1_sides_7 : decode cX1_sides 7 = .ok (.getfield 26, 3) := by decide +kernel
theorem dX1_sides_10 : decode cX1_sides 10 = .ok (.imul, 1) := by decide +kernel
theorem dX1_sides_11 : decode cX1_sides 11 = .ok (.aload_n 0, 1) := by decide +kernel
theorem dX1_sides_12 : decode cX1_sides 12 = .ok (.getfield 22, 3) := by decide +kernel
theorem dX1_sides_15 : decode cX1_sides 15 = .ok (.aload_n 0, 1) := by decide +kernel
theorem dX1_sides_16 : decode cX1_sides 16 = .ok (.getfield 26, 3) := by decide +kernel
theorem dX1_sides_19 : decode cX1_sides 19 = .ok (.iconst 1, 1) := by decide +kernel
theorem dX1_sides_20 : decode cX1_sides 20 = .ok (.isub, 1) := by decide +kernel
theorem dX1_sides_21 : decode cX1_sides 21 = .ok (.imul, 1) := by decide +kernel
theorem dX1_sides_22 : decode cX1_sides 22 = .ok (.iadd, 1) := by decide +kernel
theorem dX1_sides_23 : decode cX1_sides 23 = .ok (.ireturn, 1) := by decide +kernel
set_option maxRecDepth 20000 in
theorem ggX1_hasSide_X1_sides : GoodIn wsX1_hasSide wsX1_sides := goodIn_r _ [5, 6, 7, 8, 9, 10, 11] (by decide +kernel) (by decide +kernel)
set_option maxRecDepth 20000 in
theorem gX1_hasSide_X1_sides : GoodIn wsX1_hasSide (wsV RX1 32 RX1 yX1_sides wsX1_sides) := goodIn_app (goodIn_of _ (by decide +kernel)) ggX1_hasSide_X1_sides
theorem dX1_hasSide_0 : decode cX1_hasSide 0 = .ok (.iload_n 1, 1) := by decide +kernel
theorem dX1_hasSide_1 : decode cX1_hasSide 1 = .ok (.ifCond .lt 15, 3) := by decide +kernel
theorem dX1_hasSide_4 : decode cX1_hasSide 4 = .ok (.iload_n 1, 1) := by decide +kernel
theorem dX1_hasSide_5 : decode cX1_hasSide 5 = .ok (.aload_n 0, 1) := by decide +kernel
theorem dX1_hasSide_6 : decode cX1_hasSide 6 = .ok (.invokevirtual 32, 3) := by decide +kernel
theorem dX1_hasSide_9 : decode cX1_hasSide 9 = .ok (.if_icmp .ge 7, 3) := by decide +kernel
theorem dX1_hasSide_12 : decode cX1_hasSide 12 = .ok (.iconst 1, 1) := by decide +kernel
theorem dX1_hasSide_13 : decode cX1_hasSide 13 = .ok (.goto 4, 3) := by decide +kernel
theorem dX1_hasSide_16 : decode cX1_hasSide 16 = .ok (.iconst 0, 1) := by decide +kernel
theorem dX1_hasSide_17 : decode cX1_hasSide 17 = .ok (.ireturn, 1) := by decide +kernel
set_option maxRecDepth 20000 in
theorem ggX1_hasPiece_X1_pieces : GoodIn wsX1_hasPiece wsX1_pieces := goodIn_r _ [5, 6, 7, 8, 9, 10, 11] (by decide +kernel) (by decide +kernel)
set_option maxRecDepth 20000 in
theorem gX1_hasPiece_X1_pieces : GoodIn wsX1_hasPiece (wsV RX1 36 RX1 yX1_pieces wsX1_pieces) := goodIn_app (goodIn_of _ (by decide +kernel)) ggX1_hasPiece_X1_pieces
theorem dX1_hasPiece_0 : decode cX1_hasPiece 0 = .ok (.iload_n 1, 1) := by decide +kernel
theorem dX1_hasPiece_1 : decode cX1_hasPiece 1 = .ok (.ifCond .lt 15, 3) := by decide +kernel
theorem dX1_hasPiece_4 : decode cX1_hasPiece 4 = .ok (.iload_n 1, 1) := by decide +kernel
theorem dX1_hasPiece_5 : decode cX1_hasPiece 5 = .ok (.aload_n 0, 1) := by decide +kernel
theorem dX1_hasPiece_6 : decode cX1_hasPiece 6 = .ok (.invokevirtual 36, 3) := by decide +kernel
theorem dX1_hasPiece_9 : decode cX1_hasPiece 9 = .ok (.if_icmp .ge 7, 3) := by decide +kernel
theorem dX1_hasPiece_12 : decode cX1_hasPiece 12 = .ok (.iconst 1, 1) := by decide +kernel
theorem dX1_hasPiece_13 : decode cX1_hasPiece 13 = .ok (.goto 4, 3) := by decide +kernel
theorem dX1_hasPiece_16 : decode cX1_hasPiece 16 = .ok (.iconst 0, 1) := by decide +kernel
theorem dX1_hasPiece_17 : decode cX1_hasPiece 17 = .ok (.ireturn, 1) := by decide +kernel
set_option maxRecDepth 20000 in
theorem ggX1_hasEdge_X1_hasPiece : GoodIn wsX1_hasEdge wsX1_hasPiece := goodIn_r _ [5, 6, 7, 8, 4, 9, 10, 11, 12, 13, 14, 15] (by decide +kernel) (by decide +kernel)
set_option maxRecDepth 20000 in
theorem gX1_hasEdge_X1_hasPiece : GoodIn wsX1_hasEdge (wsV RX1 39 RX1 yX1_hasPiece wsX1_hasPiece) := goodIn_app (goodIn_of _ (by decide +kernel)) ggX1_hasEdge_X1_hasPiece
theorem dX1_hasEdge_0 : decode cX1_hasEdge 0 = .ok (.aload_n 0, 1) := by decide +kernel
theorem dX1_hasEdge_1 : decode cX1_hasEdge 1 = .ok (.iload_n 1, 1) := by decide +kernel
theorem dX1_hasEdge_2 : decode cX1_hasEdge 2 = .ok (.invokevirtual 39, 3) := by decide +kernel
theorem dX1_hasEdge_5 : decode cX1_hasEdge 5 = .ok (.ifCond .eq 16, 3) := by decide +kernel
theorem dX1_hasEdge_8 : decode cX1_hasEdge 8 = .ok (.iload_n 2, 1) := by decide +kernel
theorem dX1_hasEdge_9 : decode cX1_hasEdge 9 = .ok (.ifCond .lt 12, 3) := by decide +kernel
theorem dX1_hasEdge_12 : decode cX1_hasEdge 12 = .ok (.iload_n 2, 1) := by decide +kernel
theorem dX1_hasEdge_13 : decode cX1_hasEdge 13 = .ok (.iconst 4, 1) := by decide +kernel
theorem dX1_hasEdge_14 : decode cX1_hasEdge 14 = .ok (.if_icmp .ge 7, 3) := by decide +kernel
theorem dX1_hasEdge_17 : decode cX1_hasEdge 17 = .ok (.iconst 1, 1) := by decide +kernel
theorem dX1_hasEdge_18 : decode cX1_hasEdge 18 = .ok (.goto 4, 3) := by decide +kernel
theorem dX1_hasEdge_21 : decode cX1_hasEdge 21 = .ok (.iconst 0, 1) := by decide +kernel
theorem dX1_hasEdge_22 : decode cX1_hasEdge 22 = .ok (.ireturn, 1) := by decide +kernel
theorem dX1_sideAt_0 : decode cX1_sideAt 0 = .ok (.iload_n 1, 1) := by decide +kernel
theorem dX1_sideAt_1 : decode cX1_sideAt 1 = .ok (.iconst 4, 1) := by decide +kernel
theorem dX1_sideAt_2 : decode cX1_sideAt 2 = .ok (.imul, 1) := by decide +kernel
theorem dX1_sideAt_3 : decode cX1_sideAt 3 = .ok (.iload_n 2, 1) := by decide +kernel
theorem dX1_sideAt_4 : decode cX1_sideAt 4 = .ok (.iadd, 1) := by decide +kernel
theorem dX1_sideAt_5 : decode cX1_sideAt 5 = .ok (.istore_n 3, 1) := by decide +kernel
theorem dX1_sideAt_6 : decode cX1_sideAt 6 = .ok (.iload_n 3, 1) := by decide +kernel
theorem dX1_sideAt_7 : decode cX1_sideAt 7 = .ok (.ifCond .lt 21, 3) := by decide +kernel
theorem dX1_sideAt_10 : decode cX1_sideAt 10 = .ok (.iload_n 3, 1) := by decide +kernel
theorem dX1_sideAt_11 : decode cX1_sideAt 11 = .ok (.aload_n 0, 1) := by decide +kernel
theorem dX1_sideAt_12 : decode cX1_sideAt 12 = .ok (.getfield 15, 3) := by decide +kernel
theorem dX1_sideAt_15 : decode cX1_sideAt 15 = .ok (.arraylength, 1) := by decide +kernel
theorem dX1_sideAt_16 : decode cX1_sideAt 16 = .ok (.if_icmp .ge 12, 3) := by decide +kernel
theorem dX1_sideAt_19 : decode cX1_sideAt 19 = .ok (.aload_n 0, 1) := by decide +kernel
theorem dX1_sideAt_20 : decode cX1_sideAt 20 = .ok (.getfield 15, 3) := by decide +kernel
theorem dX1_sideAt_23 : decode cX1_sideAt 23 = .ok (.iload_n 3, 1) := by decide +kernel
theorem dX1_sideAt_24 : decode cX1_sideAt 24 = .ok (.iaload, 1) := by decide +kernel
theorem dX1_sideAt_25 : decode cX1_sideAt 25 = .ok (.goto 5, 3) := by decide +kernel
theorem dX1_sideAt_28 : decode cX1_sideAt 28 = .ok (.bipush (-9), 2) := by decide +kernel
theorem dX1_sideAt_30 : decode cX1_sideAt 30 = .ok (.ireturn, 1) := by decide +kernel
set_option maxRecDepth 20000 in
theorem ggX1_isFlat_X1_sideAt : GoodIn wsX1_isFlat wsX1_sideAt := goodIn_r _ [5, 6, 7, 8, 9, 10] (by decide +kernel) (by decide +kernel)
set_option maxRecDepth 20000 in
theorem gX1_isFlat_X1_sideAt : GoodIn wsX1_isFlat (wsV RX1 43 RX1 yX1_sideAt wsX1_sideAt) := goodIn_app (goodIn_of _ (by decide +kernel)) ggX1_isFlat_X1_sideAt
theorem dX1_isFlat_0 : decode cX1_isFlat 0 = .ok (.aload_n 0, 1) := by decide +kernel
theorem dX1_isFlat_1 : decode cX1_isFlat 1 = .ok (.iload_n 1, 1) := by decide +kernel
theorem dX1_isFlat_2 : decode cX1_isFlat 2 = .ok (.iload_n 2, 1) := by decide +kernel
theorem dX1_isFlat_3 : decode cX1_isFlat 3 = .ok (.invokevirtual 43, 3) := by decide +kernel
theorem dX1_isFlat_6 : decode cX1_isFlat 6 = .ok (.bipush (-9), 2) := by decide +kernel
theorem dX1_isFlat_8 : decode cX1_isFlat 8 = .ok (.if_icmp .ne 7, 3) := by decide +kernel
theorem dX1_isFlat_11 : decode cX1_isFlat 11 = .ok (.iconst 1, 1) := by decide +kernel
theorem dX1_isFlat_12 : decode cX1_isFlat 12 = .ok (.goto 4, 3) := by decide +kernel
theorem dX1_isFlat_15 : decode cX1_isFlat 15 = .ok (.iconst 0, 1) := by decide +kernel
theorem dX1_isFlat_16 : decode cX1_isFlat 16 = .ok (.ireturn, 1) := by decide +kernel
theorem dX1_nextTo_0 : decode cX1_nextTo 0 = .ok (.iload_n 2, 1) := by decide +kernel
theorem dX1_nextTo_1 : decode cX1_nextTo 1 = .ok (.tableswitch 45 0 2 #[27, 34, 38], 27) := by decide +kernel
theorem dX1_nextTo_28 : decode cX1_nextTo 28 = .ok (.iload_n 1, 1) := by decide +kernel
theorem dX1_nextTo_29 : decode cX1_nextTo 29 = .ok (.aload_n 0, 1) := by decide +kernel
theorem dX1_nextTo_30 : decode cX1_nextTo 30 = .ok (.getfield 22, 3) := by decide +kernel
theorem dX1_nextTo_33 : decode cX1_nextTo 33 = .ok (.isub, 1) := by decide +kernel
theorem dX1_nextTo_34 : decode cX1_nextTo 34 = .ok (.ireturn, 1) := by decide +kernel
theorem dX1_nextTo_35 : decode cX1_nextTo 35 = .ok (.iload_n 1, 1) := by decide +kernel
theorem dX1_nextTo_36 : decode cX1_nextTo 36 = .ok (.iconst 1, 1) := by decide +kernel
theorem dX1_nextTo_37 : decode cX1_nextTo 37 = .ok (.iadd, 1) := by decide +kernel
theorem dX1_nextTo_38 : decode cX1_nextTo 38 = .ok (.ireturn, 1) := by decide +kernel
theorem dX1_nextTo_39 : decode cX1_nextTo 39 = .ok (.iload_n 1, 1) := by decide +kernel
theorem dX1_nextTo_40 : decode cX1_nextTo 40 = .ok (.aload_n 0, 1) := by decide +kernel
theorem dX1_nextTo_41 : decode cX1_nextTo 41 = .ok (.getfield 22, 3) := by decide +kernel
theorem dX1_nextTo_44 : decode cX1_nextTo 44 = .ok (.iadd, 1) := by decide +kernel
theorem dX1_nextTo_45 : decode cX1_nextTo 45 = .ok (.ireturn, 1) := by decide +kernel
theorem dX1_nextTo_46 : decode cX1_nextTo 46 = .ok (.iload_n 1, 1) := by decide +kernel
theorem dX1_nextTo_47 : decode cX1_nextTo 47 = .ok (.iconst 1, 1) := by decide +kernel
theorem dX1_nextTo_48 : decode cX1_nextTo 48 = .ok (.isub, 1) := by decide +kernel
theorem dX1_nextTo_49 : decode cX1_nextTo 49 = .ok (.ireturn, 1) := by decide +kernel
theorem dX1_setHeight_0 : decode cX1_setHeight 0 = .ok (.iload_n 1, 1) := by decide +kernel
theorem dX1_setHeight_1 : decode cX1_setHeight 1 = .ok (.iconst 5, 1) := by decide +kernel
theorem dX1_setHeight_2 : decode cX1_setHeight 2 = .ok (.imul, 1) := by decide +kernel
theorem dX1_setHeight_3 : decode cX1_setHeight 3 = .ok (.iload_n 2, 1) := by decide +kernel
theorem dX1_setHeight_4 : decode cX1_setHeight 4 = .ok (.iadd, 1) := by decide +kernel
theorem dX1_setHeight_5 : decode cX1_setHeight 5 = .ok (.istore 4, 2) := by decide +kernel
theorem dX1_setHeight_7 : decode cX1_setHeight 7 = .ok (.iload 4, 2) := by decide +kernel
theorem dX1_setHeight_9 : decode cX1_setHeight 9 = .ok (.ifCond .lt 21, 3) := by decide +kernel
theorem dX1_setHeight_12 : decode cX1_setHeight 12 = .ok (.iload 4, 2) := by decide +kernel
theorem dX1_setHeight_14 : decode cX1_setHeight 14 = .ok (.aload_n 0, 1) := by decide +kernel
theorem dX1_setHeight_15 : decode cX1_setHeight 15 = .ok (.getfield 9, 3) := by decide +kernel
theorem dX1_setHeight_18 : decode cX1_setHeight 18 = .ok (.arraylength, 1) := by decide +kernel
theorem dX1_setHeight_19 : decode cX1_setHeight 19 = .ok (.if_icmp .ge 11, 3) := by decide +kernel
theorem dX1_setHeight_22 : decode cX1_setHeight 22 = .ok (.aload_n 0, 1) := by decide +kernel
theorem dX1_setHeight_23 : decode cX1_setHeight 23 = .ok (.getfield 9, 3) := by decide +kernel
theorem dX1_setHeight_26 : decode cX1_setHeight 26 = .ok (.iload 4, 2) := by decide +kernel
theorem dX1_setHeight_28 : decode cX1_setHeight 28 = .ok (.iload_n 3, 1) := by decide +kernel
theorem dX1_setHeight_29 : decode cX1_setHeight 29 = .ok (.iastore, 1) := by decide +kernel
theorem dX1_setHeight_30 : decode cX1_setHeight 30 = .ok (.return_, 1) := by decide +kernel
theorem dX1_heightAt_0 : decode cX1_heightAt 0 = .ok (.iload_n 1, 1) := by decide +kernel
theorem dX1_heightAt_1 : decode cX1_heightAt 1 = .ok (.iconst 5, 1) := by decide +kernel
theorem dX1_heightAt_2 : decode cX1_heightAt 2 = .ok (.imul, 1) := by decide +kernel
theorem dX1_heightAt_3 : decode cX1_heightAt 3 = .ok (.iload_n 3, 1) := by decide +kernel
theorem dX1_heightAt_4 : decode cX1_heightAt 4 = .ok (.ifCond .ne 7, 3) := by decide +kernel
theorem dX1_heightAt_7 : decode cX1_heightAt 7 = .ok (.iload_n 2, 1) := by decide +kernel
theorem dX1_heightAt_8 : decode cX1_heightAt 8 = .ok (.goto 6, 3) := by decide +kernel
theorem dX1_heightAt_11 : decode cX1_heightAt 11 = .ok (.iconst 4, 1) := by decide +kernel
theorem dX1_heightAt_12 : decode cX1_heightAt 12 = .ok (.iload_n 2, 1) := by decide +kernel
theorem dX1_heightAt_13 : decode cX1_heightAt 13 = .ok (.isub, 1) := by decide +kernel
theorem dX1_heightAt_14 : decode cX1_heightAt 14 = .ok (.iadd, 1) := by decide +kernel
theorem dX1_heightAt_15 : decode cX1_heightAt 15 = .ok (.istore 4, 2) := by decide +kernel
theorem dX1_heightAt_17 : decode cX1_heightAt 17 = .ok (.iload 4, 2) := by decide +kernel
theorem dX1_heightAt_19 : decode cX1_heightAt 19 = .ok (.ifCond .lt 13, 3) := by decide +kernel
theorem dX1_heightAt_22 : decode cX1_heightAt 22 = .ok (.iload 4, 2) := by decide +kernel
theorem dX1_heightAt_24 : decode cX1_heightAt 24 = .ok (.aload_n 0, 1) := by decide +kernel
theorem dX1_heightAt_25 : decode cX1_heightAt 25 = .ok (.getfield 9, 3) := by decide +kernel
theorem dX1_heightAt_28 : decode cX1_heightAt 28 = .ok (.arraylength, 1) := by decide +kernel
theorem dX1_heightAt_29 : decode cX1_heightAt 29 = .ok (.if_icmp .lt 5, 3) := by decide +kernel
theorem dX1_heightAt_32 : decode cX1_heightAt 32 = .ok (.iconst 0, 1) := by decide +kernel
theorem dX1_heightAt_33 : decode cX1_heightAt 33 = .ok (.ireturn, 1) := by decide +kernel
theorem dX1_heightAt_34 : decode cX1_heightAt 34 = .ok (.iload_n 3, 1) := by decide +kernel
theorem dX1_heightAt_35 : decode cX1_heightAt 35 = .ok (.ifCond .ne 13, 3) := by decide +kernel
theorem dX1_heightAt_38 : decode cX1_heightAt 38 = .ok (.aload_n 0, 1) := by decide +kernel
theorem dX1_heightAt_39 : decode cX1_heightAt 39 = .ok (.getfield 9, 3) := by decide +kernel
theorem dX1_heightAt_42 : decode cX1_heightAt 42 = .ok (.iload 4, 2) := by decide +kernel
theorem dX1_heightAt_44 : decode cX1_heightAt 44 = .ok (.iaload, 1) := by decide +kernel
theorem dX1_heightAt_45 : decode cX1_heightAt 45 = .ok (.goto 11, 3) := by decide +kernel
theorem dX1_heightAt_48 : decode cX1_heightAt 48 = .ok (.aload_n 0, 1) := by decide +kernel
theorem dX1_heightAt_49 : decode cX1_heightAt 49 = .ok (.getfield 9, 3) := by decide +kernel
theorem dX1_heightAt_52 : decode cX1_heightAt 52 = .ok (.iload 4, 2) := by decide +kernel
theorem dX1_heightAt_54 : decode cX1_heightAt 54 = .ok (.iaload, 1) := by decide +kernel
theorem dX1_heightAt_55 : decode cX1_heightAt 55 = .ok (.ineg, 1) := by decide +kernel
theorem dX1_heightAt_56 : decode cX1_heightAt 56 = .ok (.ireturn, 1) := by decide +kernel
set_option maxRecDepth 20000 in
theorem ggX1_edgeHeight_X1_sideAt : GoodIn wsX1_edgeHeight wsX1_sideAt := goodIn_r _ [5, 6, 12, 13, 14, 15] (by decide +kernel) (by decide +kernel)
set_option maxRecDepth 20000 in
theorem gX1_edgeHeight_X1_sideAt : GoodIn wsX1_edgeHeight (wsV RX1 43 RX1 yX1_sideAt wsX1_sideAt) := goodIn_app (goodIn_of _ (by decide +kernel)) ggX1_edgeHeight_X1_sideAt
set_option maxRecDepth 20000 in
theorem ggX1_edgeHeight_X1_heightAt : GoodIn wsX1_edgeHeight wsX1_heightAt := goodIn_r _ [10, 11, 12, 13, 14, 15] (by decide +kernel) (by decide +kernel)
set_option maxRecDepth 20000 in
theorem gX1_edgeHeight_X1_heightAt : GoodIn wsX1_edgeHeight (wsV RX1 47 RX1 yX1_heightAt wsX1_heightAt) := goodIn_app (goodIn_of _ (by decide +kernel)) ggX1_edgeHeight_X1_heightAt
theorem dX1_edgeHeight_0 : decode cX1_edgeHeight 0 = .ok (.iload_n 2, 1) := by decide +kernel
theorem dX1_edgeHeight_1 : decode cX1_edgeHeight 1 = .ok (.iconst 1, 1) := by decide +kernel
theorem dX1_edgeHeight_2 : decode cX1_edgeHeight 2 = .ok (.if_icmp .eq 8, 3) := by decide +kernel
theorem dX1_edgeHeight_5 : decode cX1_edgeHeight 5 = .ok (.iload_n 2, 1) := by decide +kernel
theorem dX1_edgeHeight_6 : decode cX1_edgeHeight 6 = .ok (.iconst 2, 1) := by decide +kernel
theorem dX1_edgeHeight_7 : decode cX1_edgeHeight 7 = .ok (.if_icmp .ne 7, 3) := by decide +kernel
theorem dX1_edgeHeight_10 : decode cX1_edgeHeight 10 = .ok (.iconst 0, 1) := by decide +kernel
theorem dX1_edgeHeight_11 : decode cX1_edgeHeight 11 = .ok (.goto 4, 3) := by decide +kernel
theorem dX1_edgeHeight_14 : decode cX1_edgeHeight 14 = .ok (.iconst 1, 1) := by decide +kernel
theorem dX1_edgeHeight_15 : decode cX1_edgeHeight 15 = .ok (.istore 4, 2) := by decide +kernel
theorem dX1_edgeHeight_17 : decode cX1_edgeHeight 17 = .ok (.aload_n 0, 1) := by decide +kernel
theorem dX1_edgeHeight_18 : decode cX1_edgeHeight 18 = .ok (.aload_n 0, 1) := by decide +kernel
theorem dX1_edgeHeight_19 : decode cX1_edgeHeight 19 = .ok (.iload_n 1, 1) := by decide +kernel
theorem dX1_edgeHeight_20 : decode cX1_edgeHeight 20 = .ok (.iload_n 2, 1) := by decide +kernel
theorem dX1_edgeHeight_21 : decode cX1_edgeHeight 21 = .ok (.invokevirtual 43, 3) := by decide +kernel
theorem dX1_edgeHeight_24 : decode cX1_edgeHeight 24 = .ok (.iload_n 3, 1) := by decide +kernel
theorem dX1_edgeHeight_25 : decode cX1_edgeHeight 25 = .ok (.iload 4, 2) := by decide +kernel
theorem dX1_edgeHeight_27 : decode cX1_edgeHeight 27 = .ok (.invokevirtual 47, 3) := by decide +kernel
theorem dX1_edgeHeight_30 : decode cX1_edgeHeight 30 = .ok (.ireturn, 1) := by decide +kernel
set_option maxRecDepth 20000 in
theorem ggX1_farness_X1_edgeHeight : GoodIn wsX1_farness wsX1_edgeHeight := goodIn_r _ [9, 10, 11, 12, 8, 13, 14, 15, 16, 17, 18, 19, 20, 21, 22, 23] (by decide +kernel) (by decide +kernel)
set_option maxRecDepth 20000 in
theorem gX1_farness_X1_edgeHeight : GoodIn wsX1_farness (wsV RX1 51 RX1 yX1_edgeHeight wsX1_edgeHeight) := goodIn_app (goodIn_of _ (by decide +kernel)) ggX1_farness_X1_edgeHeight
theorem dX1_farness_0 : decode cX1_farness 0 = .ok (.iconst 0, 1) := by decide +kernel
theorem dX1_farness_1 : decode cX1_farness 1 = .ok (.istore 5, 2) := by decide +kernel
theorem dX1_farness_3 : decode cX1_farness 3 = .ok (.iconst 0, 1) := by decide +kernel
theorem dX1_farness_4 : decode cX1_farness 4 = .ok (.istore 6, 2) := by decide +kernel
theorem dX1_farness_6 : decode cX1_farness 6 = .ok (.iload 6, 2) := by decide +kernel
theorem dX1_farness_8 : decode cX1_farness 8 = .ok (.iconst 5, 1) := by decide +kernel
theorem dX1_farness_9 : decode cX1_farness 9 = .ok (.if_icmp .ge 37, 3) := by decide +kernel
theorem dX1_farness_12 : decode cX1_farness 12 = .ok (.iload 5, 2) := by decide +kernel
theorem dX1_farness_14 : decode cX1_farness 14 = .ok (.aload_n 0, 1) := by decide +kernel
theorem dX1_farness_15 : decode cX1_farness 15 = .ok (.iload_n 1, 1) := by decide +kernel
theorem dX1_farness_16 : decode cX1_farness 16 = .ok (.iload_n 2, 1) := by decide +kernel
theorem dX1_farness_17 : decode cX1_farness 17 = .ok (.iload 6, 2) := by decide +kernel
theorem dX1_farness_19 : decode cX1_farness 19 = .ok (.invokevirtual 51, 3) := by decide +kernel
theorem dX1_farness_22 : decode cX1_farness 22 = .ok (.aload_n 0, 1) := by decide +kernel
theorem dX1_farness_23 : decode cX1_farness 23 = .ok (.iload_n 3, 1) := by decide +kernel
theorem dX1_farness_24 : decode cX1_farness 24 = .ok (.iload 4, 2) := by decide +kernel
theorem dX1_farness_26 : decode cX1_farness 26 = .ok (.iconst 4, 1) := by decide +kernel
theorem dX1_farness_27 : decode cX1_farness 27 = .ok (.iload 6, 2) := by decide +kernel
theorem dX1_farness_29 : decode cX1_farness 29 = .ok (.isub, 1) := by decide +kernel
theorem dX1_farness_30 : decode cX1_farness 30 = .ok (.invokevirtual 51, 3) := by decide +kernel
theorem dX1_farness_33 : decode cX1_farness 33 = .ok (.iadd, 1) := by decide +kernel
theorem dX1_farness_34 : decode cX1_farness 34 = .ok (.invokestatic 54, 3) := by decide +kernel
theorem dX1_farness_37 : decode cX1_farness 37 = .ok (.iadd, 1) := by decide +kernel
theorem dX1_farness_38 : decode cX1_farness 38 = .ok (.istore 5, 2) := by decide +kernel
theorem dX1_farness_40 : decode cX1_farness 40 = .ok (.iinc 6 1, 3) := by decide +kernel
theorem dX1_farness_43 : decode cX1_farness 43 = .ok (.goto (-37), 3) := by decide +kernel
theorem dX1_farness_46 : decode cX1_farness 46 = .ok (.iload 5, 2) := by decide +kernel
theorem dX1_farness_48 : decode cX1_farness 48 = .ok (.ireturn, 1) := by decide +kernel
set_option maxRecDepth 20000 in
theorem ggX1_sumOf_X1_heightAt : GoodIn wsX1_sumOf wsX1_heightAt := goodIn_r _ [5, 6, 7, 8, 9, 10] (by decide +kernel) (by decide +kernel)
set_option maxRecDepth 20000 in
theorem gX1_sumOf_X1_heightAt : GoodIn wsX1_sumOf (wsV RX1 47 RX1 yX1_heightAt wsX1_heightAt) := goodIn_app (goodIn_of _ (by decide +kernel)) ggX1_sumOf_X1_heightAt
theorem dX1_sumOf_0 : decode cX1_sumOf 0 = .ok (.iconst 0, 1) := by decide +kernel
theorem dX1_sumOf_1 : decode cX1_sumOf 1 = .ok (.istore_n 2, 1) := by decide +kernel
theorem dX1_sumOf_2 : decode cX1_sumOf 2 = .ok (.iconst 0, 1) := by decide +kernel
theorem dX1_sumOf_3 : decode cX1_sumOf 3 = .ok (.istore_n 3, 1) := by decide +kernel
theorem dX1_sumOf_4 : decode cX1_sumOf 4 = .ok (.iload_n 3, 1) := by decide +kernel
theorem dX1_sumOf_5 : decode cX1_sumOf 5 = .ok (.iconst 5, 1) := by decide +kernel
theorem dX1_sumOf_6 : decode cX1_sumOf 6 = .ok (.if_icmp .ge 19, 3) := by decide +kernel
theorem dX1_sumOf_9 : decode cX1_sumOf 9 = .ok (.iload_n 2, 1) := by decide +kernel
theorem dX1_sumOf_10 : decode cX1_sumOf 10 = .ok (.aload_n 0, 1) := by decide +kernel
theorem dX1_sumOf_11 : decode cX1_sumOf 11 = .ok (.iload_n 1, 1) := by decide +kernel
theorem dX1_sumOf_12 : decode cX1_sumOf 12 = .ok (.iload_n 3, 1) := by decide +kernel
theorem dX1_sumOf_13 : decode cX1_sumOf 13 = .ok (.iconst 0, 1) := by decide +kernel
theorem dX1_sumOf_14 : decode cX1_sumOf 14 = .ok (.invokevirtual 47, 3) := by decide +kernel
theorem dX1_sumOf_17 : decode cX1_sumOf 17 = .ok (.iadd, 1) := by decide +kernel
theorem dX1_sumOf_18 : decode cX1_sumOf 18 = .ok (.istore_n 2, 1) := by decide +kernel
theorem dX1_sumOf_19 : decode cX1_sumOf 19 = .ok (.iinc 3 1, 3) := by decide +kernel
theorem dX1_sumOf_22 : decode cX1_sumOf 22 = .ok (.goto (-18), 3) := by decide +kernel
theorem dX1_sumOf_25 : decode cX1_sumOf 25 = .ok (.iload_n 2, 1) := by decide +kernel
theorem dX1_sumOf_26 : decode cX1_sumOf 26 = .ok (.ireturn, 1) := by decide +kernel
set_option maxRecDepth 20000 in
theorem ggX1_kindAt_X1_bulges : GoodIn wsX1_kindAt wsX1_bulges := goodIn_r _ [5, 6, 7, 8, 4, 9, 10, 21, 22, 23, 24] (by decide +kernel) (by decide +kernel)
set_option maxRecDepth 20000 in
theorem gX1_kindAt_X1_bulges : GoodIn wsX1_kindAt (wsV RX1 60 RX1 yX1_bulges wsX1_bulges) := goodIn_app (goodIn_of _ (by decide +kernel)) ggX1_kindAt_X1_bulges
set_option maxRecDepth 20000 in
theorem ggX1_kindAt_X1_sides : GoodIn wsX1_kindAt wsX1_sides := goodIn_r _ [14, 15, 16, 21, 22, 23, 24] (by decide +kernel) (by decide +kernel)
set_option maxRecDepth 20000 in
theorem gX1_kindAt_X1_sides : GoodIn wsX1_kindAt (wsV RX1 32 RX1 yX1_sides wsX1_sides) := goodIn_app (goodIn_of _ (by decide +kernel)) ggX1_kindAt_X1_sides
set_option maxRecDepth 20000 in
theorem ggX1_kindAt_X1_differing : GoodIn wsX1_kindAt wsX1_differing := goodIn_r _ [20, 6, 7, 8, 4, 9, 10, 21, 22, 23, 24] (by decide +kernel) (by decide +kernel)
set_option maxRecDepth 20000 in
theorem gX1_kindAt_X1_differing : GoodIn wsX1_kindAt (wsV RX1 63 RX1 yX1_differing wsX1_differing) := goodIn_app (goodIn_of _ (by decide +kernel)) ggX1_kindAt_X1_differing
theorem dX1_kindAt_0 : decode cX1_kindAt 0 = .ok (.aload_n 0, 1) := by decide +kernel
theorem dX1_kindAt_1 : decode cX1_kindAt 1 = .ok (.iload_n 1, 1) := by decide +kernel
theorem dX1_kindAt_2 : decode cX1_kindAt 2 = .ok (.invokevirtual 60, 3) := by decide +kernel
theorem dX1_kindAt_5 : decode cX1_kindAt 5 = .ok (.ifCond .ne 5, 3) := by decide +kernel
theorem dX1_kindAt_8 : decode cX1_kindAt 8 = .ok (.iconst 0, 1) := by decide +kernel
theorem dX1_kindAt_9 : decode cX1_kindAt 9 = .ok (.ireturn, 1) := by decide +kernel
theorem dX1_kindAt_10 : decode cX1_kindAt 10 = .ok (.iconst 0, 1) := by decide +kernel
theorem dX1_kindAt_11 : decode cX1_kindAt 11 = .ok (.istore_n 2, 1) := by decide +kernel
theorem dX1_kindAt_12 : decode cX1_kindAt 12 = .ok (.iload_n 2, 1) := by decide +kernel
theorem dX1_kindAt_13 : decode cX1_kindAt 13 = .ok (.aload_n 0, 1) := by decide +kernel
theorem dX1_kindAt_14 : decode cX1_kindAt 14 = .ok (.invokevirtual 32, 3) := by decide +kernel
theorem dX1_kindAt_17 : decode cX1_kindAt 17 = .ok (.if_icmp .ge 36, 3) := by decide +kernel
theorem dX1_kindAt_20 : decode cX1_kindAt 20 = .ok (.iload_n 2, 1) := by decide +kernel
theorem dX1_kindAt_21 : decode cX1_kindAt 21 = .ok (.iload_n 1, 1) := by decide +kernel
theorem dX1_kindAt_22 : decode cX1_kindAt 22 = .ok (.if_icmp .eq 25, 3) := by decide +kernel
theorem dX1_kindAt_25 : decode cX1_kindAt 25 = .ok (.aload_n 0, 1) := by decide +kernel
theorem dX1_kindAt_26 : decode cX1_kindAt 26 = .ok (.iload_n 1, 1) := by decide +kernel
theorem dX1_kindAt_27 : decode cX1_kindAt 27 = .ok (.iload_n 2, 1) := by decide +kernel
theorem dX1_kindAt_28 : decode cX1_kindAt 28 = .ok (.iconst 0, 1) := by decide +kernel
theorem dX1_kindAt_29 : decode cX1_kindAt 29 = .ok (.invokevirtual 63, 3) := by decide +kernel
theorem dX1_kindAt_32 : decode cX1_kindAt 32 = .ok (.ifCond .eq 13, 3) := by decide +kernel
theorem dX1_kindAt_35 : decode cX1_kindAt 35 = .ok (.aload_n 0, 1) := by decide +kernel
theorem dX1_kindAt_36 : decode cX1_kindAt 36 = .ok (.iload_n 1, 1) := by decide +kernel
theorem dX1_kindAt_37 : decode cX1_kindAt 37 = .ok (.iload_n 2, 1) := by decide +kernel
theorem dX1_kindAt_38 : decode cX1_kindAt 38 = .ok (.iconst 1, 1) := by decide +kernel
theorem dX1_kindAt_39 : decode cX1_kindAt 39 = .ok (.invokevirtual 63, 3) := by decide +kernel
theorem dX1_kindAt_42 : decode cX1_kindAt 42 = .ok (.ifCond .ne 5, 3) := by decide +kernel
theorem dX1_kindAt_45 : decode cX1_kindAt 45 = .ok (.iconst 2, 1) := by decide +kernel
theorem dX1_kindAt_46 : decode cX1_kindAt 46 = .ok (.ireturn, 1) := by decide +kernel
theorem dX1_kindAt_47 : decode cX1_kindAt 47 = .ok (.iinc 2 1, 3) := by decide +kernel
theorem dX1_kindAt_50 : decode cX1_kindAt 50 = .ok (.goto (-38), 3) := by decide +kernel
theorem dX1_kindAt_53 : decode cX1_kindAt 53 = .ok (.iconst 1, 1) := by decide +kernel
theorem dX1_kindAt_54 : decode cX1_kindAt 54 = .ok (.ireturn, 1) := by decide +kernel
set_option maxRecDepth 20000 in
theorem ggX1_bulges_X1_heightAt : GoodIn wsX1_bulges wsX1_heightAt := goodIn_r _ [5, 6, 7, 8, 9, 10] (by decide +kernel) (by decide +kernel)
set_option maxRecDepth 20000 in
theorem gX1_bulges_X1_heightAt : GoodIn wsX1_bulges (wsV RX1 47 RX1 yX1_heightAt wsX1_heightAt) := goodIn_app (goodIn_of _ (by decide +kernel)) ggX1_bulges_X1_heightAt
theorem dX1_bulges_0 : decode cX1_bulges 0 = .ok (.iconst 0, 1) := by decide +kernel
theorem dX1_bulges_1 : decode cX1_bulges 1 = .ok (.istore_n 2, 1) := by decide +kernel
theorem dX1_bulges_2 : decode cX1_bulges 2 = .ok (.iconst 0, 1) := by decide +kernel
theorem dX1_bulges_3 : decode cX1_bulges 3 = .ok (.istore_n 3, 1) := by decide +kernel
theorem dX1_bulges_4 : decode cX1_bulges 4 = .ok (.iconst 0, 1) := by decide +kernel
theorem dX1_bulges_5 : decode cX1_bulges 5 = .ok (.istore 4, 2) := by decide +kernel
theorem dX1_bulges_7 : decode cX1_bulges 7 = .ok (.iload 4, 2) := by decide +kernel
theorem dX1_bulges_9 : decode cX1_bulges 9 = .ok (.iconst 5, 1) := by decide +kernel
theorem dX1_bulges_10 : decode cX1_bulges 10 = .ok (.if_icmp .ge 45, 3) := by decide +kernel
theorem dX1_bulges_13 : decode cX1_bulges 13 = .ok (.aload_n 0, 1) := by decide +kernel
theorem dX1_bulges_14 : decode cX1_bulges 14 = .ok (.iload_n 1, 1) := by decide +kernel
theorem dX1_bulges_15 : decode cX1_bulges 15 = .ok (.iload 4, 2) := by decide +kernel
theorem dX1_bulges_17 : decode cX1_bulges 17 = .ok (.iconst 0, 1) := by decide +kernel
theorem dX1_bulges_18 : decode cX1_bulges 18 = .ok (.invokevirtual 47, 3) := by decide +kernel
theorem dX1_bulges_21 : decode cX1_bulges 21 = .ok (.istore 5, 2) := by decide +kernel
theorem dX1_bulges_23 : decode cX1_bulges 23 = .ok (.iload_n 2, 1) := by decide +kernel
theorem dX1_bulges_24 : decode cX1_bulges 24 = .ok (.iload 5, 2) := by decide +kernel
theorem dX1_bulges_26 : decode cX1_bulges 26 = .ok (.ifCond .le 7, 3) := by decide +kernel
theorem dX1_bulges_29 : decode cX1_bulges 29 = .ok (.iconst 1, 1) := by decide +kernel
theorem dX1_bulges_30 : decode cX1_bulges 30 = .ok (.goto 4, 3) := by decide +kernel
theorem dX1_bulges_33 : decode cX1_bulges 33 = .ok (.iconst 0, 1) := by decide +kernel
theorem dX1_bulges_34 : decode cX1_bulges 34 = .ok (.iadd, 1) := by decide +kernel
theorem dX1_bulges_35 : decode cX1_bulges 35 = .ok (.istore_n 2, 1) := by decide +kernel
theorem dX1_bulges_36 : decode cX1_bulges 36 = .ok (.iload_n 3, 1) := by decide +kernel
theorem dX1_bulges_37 : decode cX1_bulges 37 = .ok (.iload 5, 2) := by decide +kernel
theorem dX1_bulges_39 : decode cX1_bulges 39 = .ok (.ifCond .ge 7, 3) := by decide +kernel
theorem dX1_bulges_42 : decode cX1_bulges 42 = .ok (.iconst 1, 1) := by decide +kernel
theorem dX1_bulges_43 : decode cX1_bulges 43 = .ok (.goto 4, 3) := by decide +kernel
theorem dX1_bulges_46 : decode cX1_bulges 46 = .ok (.iconst 0, 1) := by decide +kernel
theorem dX1_bulges_47 : decode cX1_bulges 47 = .ok (.iadd, 1) := by decide +kernel
theorem dX1_bulges_48 : decode cX1_bulges 48 = .ok (.istore_n 3, 1) := by decide +kernel
theorem dX1_bulges_49 : decode cX1_bulges 49 = .ok (.iinc 4 1, 3) := by decide +kernel
theorem dX1_bulges_52 : decode cX1_bulges 52 = .ok (.goto (-45), 3) := by decide +kernel
theorem dX1_bulges_55 : decode cX1_bulges 55 = .ok (.iload_n 2, 1) := by decide +kernel
theorem dX1_bulges_56 : decode cX1_bulges 56 = .ok (.iconst 5, 1) := by decide +kernel
theorem dX1_bulges_57 : decode cX1_bulges 57 = .ok (.if_icmp .eq 8, 3) := by decide +kernel
theorem dX1_bulges_60 : decode cX1_bulges 60 = .ok (.iload_n 3, 1) := by decide +kernel
theorem dX1_bulges_61 : decode cX1_bulges 61 = .ok (.iconst 5, 1) := by decide +kernel
theorem dX1_bulges_62 : decode cX1_bulges 62 = .ok (.if_icmp .ne 7, 3) := by decide +kernel
theorem dX1_bulges_65 : decode cX1_bulges 65 = .ok (.iconst 1, 1) := by decide +kernel
theorem dX1_bulges_66 : decode cX1_bulges 66 = .ok (.goto 4, 3) := by decide +kernel
theorem dX1_bulges_69 : decode cX1_bulges 69 = .ok (.iconst 0, 1) := by decide +kernel
theorem dX1_bulges_70 : decode cX1_bulges 70 = .ok (.ireturn, 1) := by decide +kernel
set_option maxRecDepth 20000 in
theorem ggX1_differing_X1_heightAt : GoodIn wsX1_differing wsX1_heightAt := goodIn_r _ [5, 6, 7, 8, 9, 10] (by decide +kernel) (by decide +kernel)
set_option maxRecDepth 20000 in
theorem gX1_differing_X1_heightAt : GoodIn wsX1_differing (wsV RX1 47 RX1 yX1_heightAt wsX1_heightAt) := goodIn_app (goodIn_of _ (by decide +kernel)) ggX1_differing_X1_heightAt
theorem dX1_differing_0 : decode cX1_differing 0 = .ok (.iconst 0, 1) := by decide +kernel
theorem dX1_differing_1 : decode cX1_differing 1 = .ok (.istore 4, 2) := by decide +kernel
theorem dX1_differing_3 : decode cX1_differing 3 = .ok (.iconst 0, 1) := by decide +kernel
theorem dX1_differing_4 : decode cX1_differing 4 = .ok (.istore 5, 2) := by decide +kernel
theorem dX1_differing_6 : decode cX1_differing 6 = .ok (.iload 5, 2) := by decide +kernel
theorem dX1_differing_8 : decode cX1_differing 8 = .ok (.iconst 5, 1) := by decide +kernel
theorem dX1_differing_9 : decode cX1_differing 9 = .ok (.if_icmp .ge 31, 3) := by decide +kernel
theorem dX1_differing_12 : decode cX1_differing 12 = .ok (.aload_n 0, 1) := by decide +kernel
theorem dX1_differing_13 : decode cX1_differing 13 = .ok (.iload_n 1, 1) := by decide +kernel
theorem dX1_differing_14 : decode cX1_differing 14 = .ok (.iload 5, 2) := by decide +kernel
theorem dX1_differing_16 : decode cX1_differing 16 = .ok (.iconst 0, 1) := by decide +kernel
theorem dX1_differing_17 : decode cX1_differing 17 = .ok (.invokevirtual 47, 3) := by decide +kernel
theorem dX1_differing_20 : decode cX1_differing 20 = .ok (.aload_n 0, 1) := by decide +kernel
theorem dX1_differing_21 : decode cX1_differing 21 = .ok (.iload_n 2, 1) := by decide +kernel
theorem dX1_differing_22 : decode cX1_differing 22 = .ok (.iload 5, 2) := by decide +kernel
theorem dX1_differing_24 : decode cX1_differing 24 = .ok (.iload_n 3, 1) := by decide +kernel
theorem dX1_differing_25 : decode cX1_differing 25 = .ok (.invokevirtual 47, 3) := by decide +kernel
theorem dX1_differing_28 : decode cX1_differing 28 = .ok (.if_icmp .eq 6, 3) := by decide +kernel
theorem dX1_differing_31 : decode cX1_differing 31 = .ok (.iinc 4 1, 3) := by decide +kernel
theorem dX1_differing_34 : decode cX1_differing 34 = .ok (.iinc 5 1, 3) := by decide +kernel
theorem dX1_differing_37 : decode cX1_differing 37 = .ok (.goto (-31), 3) := by decide +kernel
theorem dX1_differing_40 : decode cX1_differing 40 = .ok (.iload 4, 2) := by decide +kernel
theorem dX1_differing_42 : decode cX1_differing 42 = .ok (.ireturn, 1) := by decide +kernel
set_option maxRecDepth 20000 in
theorem ggX1_giveShape_X1_differing : GoodIn wsX1_giveShape wsX1_differing := goodIn_r _ [5, 6, 7, 8, 4, 9, 10, 15, 16, 17, 18] (by decide +kernel) (by decide +kernel)
set_option maxRecDepth 20000 in
theorem gX1_giveShape_X1_differing : GoodIn wsX1_giveShape (wsV RX1 63 RX1 yX1_differing wsX1_differing) := goodIn_app (goodIn_of _ (by decide +kernel)) ggX1_giveShape_X1_differing
set_option maxRecDepth 20000 in
theorem ggX1_giveShape_X1_heightAt : GoodIn wsX1_giveShape wsX1_heightAt := goodIn_r _ [9, 10, 15, 16, 17, 18] (by decide +kernel) (by decide +kernel)
set_option maxRecDepth 20000 in
theorem gX1_giveShape_X1_heightAt : GoodIn wsX1_giveShape (wsV RX1 47 RX1 yX1_heightAt wsX1_heightAt) := goodIn_app (goodIn_of _ (by decide +kernel)) ggX1_giveShape_X1_heightAt
set_option maxRecDepth 20000 in
theorem ggX1_giveShape_X1_setHeight : GoodIn wsX1_giveShape wsX1_setHeight := goodIn_r _ [14, 10, 15, 16, 17, 18] (by decide +kernel) (by decide +kernel)
set_option maxRecDepth 20000 in
theorem gX1_giveShape_X1_setHeight : GoodIn wsX1_giveShape (wsV RX1 66 RX1 yX1_setHeight wsX1_setHeight) := goodIn_app (goodIn_of _ (by decide +kernel)) ggX1_giveShape_X1_setHeight
theorem dX1_giveShape_0 : decode cX1_giveShape 0 = .ok (.aload_n 0, 1) := by decide +kernel
theorem dX1_giveShape_1 : decode cX1_giveShape 1 = .ok (.iload_n 1, 1) := by decide +kernel
theorem dX1_giveShape_2 : decode cX1_giveShape 2 = .ok (.iload_n 2, 1) := by decide +kernel
theorem dX1_giveShape_3 : decode cX1_giveShape 3 = .ok (.iload_n 3, 1) := by decide +kernel
theorem dX1_giveShape_4 : decode cX1_giveShape 4 = .ok (.invokevirtual 63, 3) := by decide +kernel
theorem dX1_giveShape_7 : decode cX1_giveShape 7 = .ok (.istore 4, 2) := by decide +kernel
theorem dX1_giveShape_9 : decode cX1_giveShape 9 = .ok (.iconst 0, 1) := by decide +kernel
theorem dX1_giveShape_10 : decode cX1_giveShape 10 = .ok (.istore 5, 2) := by decide +kernel
theorem dX1_giveShape_12 : decode cX1_giveShape 12 = .ok (.iload 5, 2) := by decide +kernel
theorem dX1_giveShape_14 : decode cX1_giveShape 14 = .ok (.iconst 5, 1) := by decide +kernel
theorem dX1_giveShape_15 : decode cX1_giveShape 15 = .ok (.if_icmp .ge 24, 3) := by decide +kernel
theorem dX1_giveShape_18 : decode cX1_giveShape 18 = .ok (.aload_n 0, 1) := by decide +kernel
theorem dX1_giveShape_19 : decode cX1_giveShape 19 = .ok (.iload_n 1, 1) := by decide +kernel
theorem dX1_giveShape_20 : decode cX1_giveShape 20 = .ok (.iload 5, 2) := by decide +kernel
theorem dX1_giveShape_22 : decode cX1_giveShape 22 = .ok (.aload_n 0, 1) := by decide +kernel
theorem dX1_giveShape_23 : decode cX1_giveShape 23 = .ok (.iload_n 2, 1) := by decide +kernel
theorem dX1_giveShape_24 : decode cX1_giveShape 24 = .ok (.iload 5, 2) := by decide +kernel
theorem dX1_giveShape_26 : decode cX1_giveShape 26 = .ok (.iload_n 3, 1) := by decide +kernel
theorem dX1_giveShape_27 : decode cX1_giveShape 27 = .ok (.invokevirtual 47, 3) := by decide +kernel
theorem dX1_giveShape_30 : decode cX1_giveShape 30 = .ok (.invokevirtual 66, 3) := by decide +kernel
theorem dX1_giveShape_33 : decode cX1_giveShape 33 = .ok (.iinc 5 1, 3) := by decide +kernel
theorem dX1_giveShape_36 : decode cX1_giveShape 36 = .ok (.goto (-24), 3) := by decide +kernel
theorem dX1_giveShape_39 : decode cX1_giveShape 39 = .ok (.iload 4, 2) := by decide +kernel
theorem dX1_giveShape_41 : decode cX1_giveShape 41 = .ok (.ireturn, 1) := by decide +kernel
set_option maxRecDepth 20000 in
theorem ggX1_leastFar_X1_pieces : GoodIn wsX1_leastFar wsX1_pieces := goodIn_r _ [5, 6, 7, 38, 39, 40, 41] (by decide +kernel) (by decide +kernel)
set_option maxRecDepth 20000 in
theorem gX1_leastFar_X1_pieces : GoodIn wsX1_leastFar (wsV RX1 36 RX1 yX1_pieces wsX1_pieces) := goodIn_app (goodIn_of _ (by decide +kernel)) ggX1_leastFar_X1_pieces
set_option maxRecDepth 20000 in
theorem ggX1_leastFar_X1_strangersApart : GoodIn wsX1_leastFar wsX1_strangersApart := goodIn_r _ [11, 12, 13, 14, 4, 15, 16, 17, 18, 19, 20, 21, 22, 23, 24, 25, 26, 27, 28, 29, 30, 31, 32, 33, 34, 35, 36, 37, 38, 39, 40, 41] (by decide +kernel) (by decide +kernel)
set_option maxRecDepth 20000 in
theorem gX1_leastFar_X1_strangersApart : GoodIn wsX1_leastFar (wsV RX1 70 RX1 yX1_strangersApart wsX1_strangersApart) := goodIn_app (goodIn_of _ (by decide +kernel)) ggX1_leastFar_X1_strangersApart
theorem dX1_leastFar_0 : decode cX1_leastFar 0 = .ok (.bipush (-9), 2) := by decide +kernel
theorem dX1_leastFar_2 : decode cX1_leastFar 2 = .ok (.istore_n 1, 1) := by decide +kernel
theorem dX1_leastFar_3 : decode cX1_leastFar 3 = .ok (.iconst 0, 1) := by decide +kernel
theorem dX1_leastFar_4 : decode cX1_leastFar 4 = .ok (.istore_n 2, 1) := by decide +kernel
theorem dX1_leastFar_5 : decode cX1_leastFar 5 = .ok (.iload_n 2, 1) := by decide +kernel
theorem dX1_leastFar_6 : decode cX1_leastFar 6 = .ok (.aload_n 0, 1) := by decide +kernel
theorem dX1_leastFar_7 : decode cX1_leastFar 7 = .ok (.invokevirtual 36, 3) := by decide +kernel
theorem dX1_leastFar_10 : decode cX1_leastFar 10 = .ok (.iconst 4, 1) := by decide +kernel
theorem dX1_leastFar_11 : decode cX1_leastFar 11 = .ok (.imul, 1) := by decide +kernel
theorem dX1_leastFar_12 : decode cX1_leastFar 12 = .ok (.if_icmp .ge 59, 3) := by decide +kernel
theorem dX1_leastFar_15 : decode cX1_leastFar 15 = .ok (.iload_n 2, 1) := by decide +kernel
theorem dX1_leastFar_16 : decode cX1_leastFar 16 = .ok (.iconst 1, 1) := by decide +kernel
theorem dX1_leastFar_17 : decode cX1_leastFar 17 = .ok (.iadd, 1) := by decide +kernel
theorem dX1_leastFar_18 : decode cX1_leastFar 18 = .ok (.istore_n 3, 1) := by decide +kernel
theorem dX1_leastFar_19 : decode cX1_leastFar 19 = .ok (.iload_n 3, 1) := by decide +kernel
theorem dX1_leastFar_20 : decode cX1_leastFar 20 = .ok (.aload_n 0, 1) := by decide +kernel
theorem dX1_leastFar_21 : decode cX1_leastFar 21 = .ok (.invokevirtual 36, 3) := by decide +kernel
theorem dX1_leastFar_24 : decode cX1_leastFar 24 = .ok (.iconst 4, 1) := by decide +kernel
theorem dX1_leastFar_25 : decode cX1_leastFar 25 = .ok (.imul, 1) := by decide +kernel
theorem dX1_leastFar_26 : decode cX1_leastFar 26 = .ok (.if_icmp .ge 39, 3) := by decide +kernel
theorem dX1_leastFar_29 : decode cX1_leastFar 29 = .ok (.aload_n 0, 1) := by decide +kernel
theorem dX1_leastFar_30 : decode cX1_leastFar 30 = .ok (.iload_n 2, 1) := by decide +kernel
theorem dX1_leastFar_31 : decode cX1_leastFar 31 = .ok (.iload_n 3, 1) := by decide +kernel
theorem dX1_leastFar_32 : decode cX1_leastFar 32 = .ok (.invokevirtual 70, 3) := by decide +kernel
theorem dX1_leastFar_35 : decode cX1_leastFar 35 = .ok (.istore 4, 2) := by decide +kernel
theorem dX1_leastFar_37 : decode cX1_leastFar 37 = .ok (.iload 4, 2) := by decide +kernel
theorem dX1_leastFar_39 : decode cX1_leastFar 39 = .ok (.bipush (-9), 2) := by decide +kernel
theorem dX1_leastFar_41 : decode cX1_leastFar 41 = .ok (.if_icmp .eq 18, 3) := by decide +kernel
theorem dX1_leastFar_44 : decode cX1_leastFar 44 = .ok (.iload_n 1, 1) := by decide +kernel
theorem dX1_leastFar_45 : decode cX1_leastFar 45 = .ok (.bipush (-9), 2) := by decide +kernel
theorem dX1_leastFar_47 : decode cX1_leastFar 47 = .ok (.if_icmp .eq 9, 3) := by decide +kernel
theorem dX1_leastFar_50 : decode cX1_leastFar 50 = .ok (.iload 4, 2) := by decide +kernel
theorem dX1_leastFar_52 : decode cX1_leastFar 52 = .ok (.iload_n 1, 1) := by decide +kernel
theorem dX1_leastFar_53 : decode cX1_leastFar 53 = .ok (.if_icmp .ge 6, 3) := by decide +kernel
theorem dX1_leastFar_56 : decode cX1_leastFar 56 = .ok (.iload 4, 2) := by decide +kernel
theorem dX1_leastFar_58 : decode cX1_leastFar 58 = .ok (.istore_n 1, 1) := by decide +kernel
theorem dX1_leastFar_59 : decode cX1_leastFar 59 = .ok (.iinc 3 1, 3) := by decide +kernel
theorem dX1_leastFar_62 : decode cX1_leastFar 62 = .ok (.goto (-43), 3) := by decide +kernel
theorem dX1_leastFar_65 : decode cX1_leastFar 65 = .ok (.iinc 2 1, 3) := by decide +kernel
theorem dX1_leastFar_68 : decode cX1_leastFar 68 = .ok (.goto (-63), 3) := by decide +kernel
theorem dX1_leastFar_71 : decode cX1_leastFar 71 = .ok (.iload_n 1, 1) := by decide +kernel
theorem dX1_leastFar_72 : decode cX1_leastFar 72 = .ok (.ireturn, 1) := by decide +kernel
set_option maxRecDepth 20000 in
theorem ggX1_pairsWithin_X1_pieces : GoodIn wsX1_pairsWithin wsX1_pieces := goodIn_r _ [5, 6, 7, 38, 39, 40, 41] (by decide +kernel) (by decide +kernel)
set_option maxRecDepth 20000 in
theorem gX1_pairsWithin_X1_pieces : GoodIn wsX1_pairsWithin (wsV RX1 36 RX1 yX1_pieces wsX1_pieces) := goodIn_app (goodIn_of _ (by decide +kernel)) ggX1_pairsWithin_X1_pieces
set_option maxRecDepth 20000 in
theorem ggX1_pairsWithin_X1_strangersApart : GoodIn wsX1_pairsWithin wsX1_strangersApart := goodIn_r _ [11, 12, 13, 14, 4, 15, 16, 17, 18, 19, 20, 21, 22, 23, 24, 25, 26, 27, 28, 29, 30, 31, 32, 33, 34, 35, 36, 37, 38, 39, 40, 41] (by decide +kernel) (by decide +kernel)
set_option maxRecDepth 20000 in
theorem gX1_pairsWithin_X1_strangersApart : GoodIn wsX1_pairsWithin (wsV RX1 70 RX1 yX1_strangersApart wsX1_strangersApart) := goodIn_app (goodIn_of _ (by decide +kernel)) ggX1_pairsWithin_X1_strangersApart
theorem dX1_pairsWithin_0 : decode cX1_pairsWithin 0 = .ok (.iconst 0, 1) := by decide +kernel
theorem dX1_pairsWithin_1 : decode cX1_pairsWithin 1 = .ok (.istore_n 2, 1) := by decide +kernel
theorem dX1_pairsWithin_2 : decode cX1_pairsWithin 2 = .ok (.iconst 0, 1) := by decide +kernel
theorem dX1_pairsWithin_3 : decode cX1_pairsWithin 3 = .ok (.istore_n 3, 1) := by decide +kernel
theorem dX1_pairsWithin_4 : decode cX1_pairsWithin 4 = .ok (.iload_n 3, 1) := by decide +kernel
theorem dX1_pairsWithin_5 : decode cX1_pairsWithin 5 = .ok (.aload_n 0, 1) := by decide +kernel
theorem dX1_pairsWithin_6 : decode cX1_pairsWithin 6 = .ok (.invokevirtual 36, 3) := by decide +kernel
theorem dX1_pairsWithin_9 : decode cX1_pairsWithin 9 = .ok (.iconst 4, 1) := by decide +kernel
theorem dX1_pairsWithin_10 : decode cX1_pairsWithin 10 = .ok (.imul, 1) := by decide +kernel
theorem dX1_pairsWithin_11 : decode cX1_pairsWithin 11 = .ok (.if_icmp .ge 56, 3) := by decide +kernel
theorem dX1_pairsWithin_14 : decode cX1_pairsWithin 14 = .ok (.iload_n 3, 1) := by decide +kernel
theorem dX1_pairsWithin_15 : decode cX1_pairsWithin 15 = .ok (.iconst 1, 1) := by decide +kernel
theorem dX1_pairsWithin_16 : decode cX1_pairsWithin 16 = .ok (.iadd, 1) := by decide +kernel
theorem dX1_pairsWithin_17 : decode cX1_pairsWithin 17 = .ok (.istore 4, 2) := by decide +kernel
theorem dX1_pairsWithin_19 : decode cX1_pairsWithin 19 = .ok (.iload 4, 2) := by decide +kernel
theorem dX1_pairsWithin_21 : decode cX1_pairsWithin 21 = .ok (.aload_n 0, 1) := by decide +kernel
theorem dX1_pairsWithin_22 : decode cX1_pairsWithin 22 = .ok (.invokevirtual 36, 3) := by decide +kernel
theorem dX1_pairsWithin_25 : decode cX1_pairsWithin 25 = .ok (.iconst 4, 1) := by decide +kernel
theorem dX1_pairsWithin_26 : decode cX1_pairsWithin 26 = .ok (.imul, 1) := by decide +kernel
theorem dX1_pairsWithin_27 : decode cX1_pairsWithin 27 = .ok (.if_icmp .ge 34, 3) := by decide +kernel
theorem dX1_pairsWithin_30 : decode cX1_pairsWithin 30 = .ok (.aload_n 0, 1) := by decide +kernel
theorem dX1_pairsWithin_31 : decode cX1_pairsWithin 31 = .ok (.iload_n 3, 1) := by decide +kernel
theorem dX1_pairsWithin_32 : decode cX1_pairsWithin 32 = .ok (.iload 4, 2) := by decide +kernel
theorem dX1_pairsWithin_34 : decode cX1_pairsWithin 34 = .ok (.invokevirtual 70, 3) := by decide +kernel
theorem dX1_pairsWithin_37 : decode cX1_pairsWithin 37 = .ok (.istore 5, 2) := by decide +kernel
theorem dX1_pairsWithin_39 : decode cX1_pairsWithin 39 = .ok (.iload 5, 2) := by decide +kernel
theorem dX1_pairsWithin_41 : decode cX1_pairsWithin 41 = .ok (.bipush (-9), 2) := by decide +kernel
theorem dX1_pairsWithin_43 : decode cX1_pairsWithin 43 = .ok (.if_icmp .eq 12, 3) := by decide +kernel
theorem dX1_pairsWithin_46 : decode cX1_pairsWithin 46 = .ok (.iload 5, 2) := by decide +kernel
theorem dX1_pairsWithin_48 : decode cX1_pairsWithin 48 = .ok (.iload_n 1, 1) := by decide +kernel
theorem dX1_pairsWithin_49 : decode cX1_pairsWithin 49 = .ok (.if_icmp .gt 6, 3) := by decide +kernel
theorem dX1_pairsWithin_52 : decode cX1_pairsWithin 52 = .ok (.iinc 2 1, 3) := by decide +kernel
theorem dX1_pairsWithin_55 : decode cX1_pairsWithin 55 = .ok (.iinc 4 1, 3) := by decide +kernel
theorem dX1_pairsWithin_58 : decode cX1_pairsWithin 58 = .ok (.goto (-39), 3) := by decide +kernel
theorem dX1_pairsWithin_61 : decode cX1_pairsWithin 61 = .ok (.iinc 3 1, 3) := by decide +kernel
theorem dX1_pairsWithin_64 : decode cX1_pairsWithin 64 = .ok (.goto (-60), 3) := by decide +kernel
theorem dX1_pairsWithin_67 : decode cX1_pairsWithin 67 = .ok (.iload_n 2, 1) := by decide +kernel
theorem dX1_pairsWithin_68 : decode cX1_pairsWithin 68 = .ok (.ireturn, 1) := by decide +kernel
set_option maxRecDepth 20000 in
theorem ggX1_strangersApart_X1_isFlat : GoodIn wsX1_strangersApart wsX1_isFlat := goodIn_r _ [5, 6, 7, 8, 4, 9, 10, 28, 29, 30, 31] (by decide +kernel) (by decide +kernel)
set_option maxRecDepth 20000 in
theorem gX1_strangersApart_X1_isFlat : GoodIn wsX1_strangersApart (wsV RX1 73 RX1 yX1_isFlat wsX1_isFlat) := goodIn_app (goodIn_of _ (by decide +kernel)) ggX1_strangersApart_X1_isFlat
set_option maxRecDepth 20000 in
theorem ggX1_strangersApart_X1_sideAt : GoodIn wsX1_strangersApart wsX1_sideAt := goodIn_r _ [9, 10, 28, 29, 30, 31] (by decide +kernel) (by decide +kernel)
set_option maxRecDepth 20000 in
theorem gX1_strangersApart_X1_sideAt : GoodIn wsX1_strangersApart (wsV RX1 43 RX1 yX1_sideAt wsX1_sideAt) := goodIn_app (goodIn_of _ (by decide +kernel)) ggX1_strangersApart_X1_sideAt
set_option maxRecDepth 20000 in
theorem ggX1_strangersApart_X1_farness : GoodIn wsX1_strangersApart wsX1_farness := goodIn_r _ [14, 15, 16, 17, 18, 19, 20, 21, 4, 22, 6, 7, 8, 9, 10, 23, 24, 25, 26, 27, 28, 29, 30, 31] (by decide +kernel) (by decide +kernel)
set_option maxRecDepth 20000 in
theorem gX1_strangersApart_X1_farness : GoodIn wsX1_strangersApart (wsV RX1 77 RX1 yX1_farness wsX1_farness) := goodIn_app (goodIn_of _ (by decide +kernel)) ggX1_strangersApart_X1_farness
theorem dX1_strangersApart_0 : decode cX1_strangersApart 0 = .ok (.iload_n 1, 1) := by decide +kernel
theorem dX1_strangersApart_1 : decode cX1_strangersApart 1 = .ok (.iconst 4, 1) := by decide +kernel
theorem dX1_strangersApart_2 : decode cX1_strangersApart 2 = .ok (.idiv, 1) := by decide +kernel
theorem dX1_strangersApart_3 : decode cX1_strangersApart 3 = .ok (.istore_n 3, 1) := by decide +kernel
theorem dX1_strangersApart_4 : decode cX1_strangersApart 4 = .ok (.iload_n 1, 1) := by decide +kernel
theorem dX1_strangersApart_5 : decode cX1_strangersApart 5 = .ok (.iconst 4, 1) := by decide +kernel
theorem dX1_strangersApart_6 : decode cX1_strangersApart 6 = .ok (.irem, 1) := by decide +kernel
theorem dX1_strangersApart_7 : decode cX1_strangersApart 7 = .ok (.istore 4, 2) := by decide +kernel
theorem dX1_strangersApart_9 : decode cX1_strangersApart 9 = .ok (.iload_n 2, 1) := by decide +kernel
theorem dX1_strangersApart_10 : decode cX1_strangersApart 10 = .ok (.iconst 4, 1) := by decide +kernel
theorem dX1_strangersApart_11 : decode cX1_strangersApart 11 = .ok (.idiv, 1) := by decide +kernel
theorem dX1_strangersApart_12 : decode cX1_strangersApart 12 = .ok (.istore 5, 2) := by decide +kernel
theorem dX1_strangersApart_14 : decode cX1_strangersApart 14 = .ok (.iload_n 2, 1) := by decide +kernel
theorem dX1_strangersApart_15 : decode cX1_strangersApart 15 = .ok (.iconst 4, 1) := by decide +kernel
theorem dX1_strangersApart_16 : decode cX1_strangersApart 16 = .ok (.irem, 1) := by decide +kernel
theorem dX1_strangersApart_17 : decode cX1_strangersApart 17 = .ok (.istore 6, 2) := by decide +kernel
theorem dX1_strangersApart_19 : decode cX1_strangersApart 19 = .ok (.iload_n 3, 1) := by decide +kernel
theorem dX1_strangersApart_20 : decode cX1_strangersApart 20 = .ok (.iload 5, 2) := by decide +kernel
theorem dX1_strangersApart_22 : decode cX1_strangersApart 22 = .ok (.if_icmp .eq 42, 3) := by decide +kernel
theorem dX1_strangersApart_25 : decode cX1_strangersApart 25 = .ok (.aload_n 0, 1) := by decide +kernel
theorem dX1_strangersApart_26 : decode cX1_strangersApart 26 = .ok (.iload_n 3, 1) := by decide +kernel
theorem dX1_strangersApart_27 : decode cX1_strangersApart 27 = .ok (.iload 4, 2) := by decide +kernel
theorem dX1_strangersApart_29 : decode cX1_strangersApart 29 = .ok (.invokevirtual 73, 3) := by decide +kernel
theorem dX1_strangersApart_32 : decode cX1_strangersApart 32 = .ok (.ifCond .ne 32, 3) := by decide +kernel
theorem dX1_strangersApart_35 : decode cX1_strangersApart 35 = .ok (.aload_n 0, 1) := by decide +kernel
theorem dX1_strangersApart_36 : decode cX1_strangersApart 36 = .ok (.iload 5, 2) := by decide +kernel
theorem dX1_strangersApart_38 : decode cX1_strangersApart 38 = .ok (.iload 6, 2) := by decide +kernel
theorem dX1_strangersApart_40 : decode cX1_strangersApart 40 = .ok (.invokevirtual 73, 3) := by decide +kernel
theorem dX1_strangersApart_43 : decode cX1_strangersApart 43 = .ok (.ifCond .ne 21, 3) := by decide +kernel
theorem dX1_strangersApart_46 : decode cX1_strangersApart 46 = .ok (.aload_n 0, 1) := by decide +kernel
theorem dX1_strangersApart_47 : decode cX1_strangersApart 47 = .ok (.iload_n 3, 1) := by decide +kernel
theorem dX1_strangersApart_48 : decode cX1_strangersApart 48 = .ok (.iload 4, 2) := by decide +kernel
theorem dX1_strangersApart_50 : decode cX1_strangersApart 50 = .ok (.invokevirtual 43, 3) := by decide +kernel
theorem dX1_strangersApart_53 : decode cX1_strangersApart 53 = .ok (.aload_n 0, 1) := by decide +kernel
theorem dX1_strangersApart_54 : decode cX1_strangersApart 54 = .ok (.iload 5, 2) := by decide +kernel
theorem dX1_strangersApart_56 : decode cX1_strangersApart 56 = .ok (.iload 6, 2) := by decide +kernel
theorem dX1_strangersApart_58 : decode cX1_strangersApart 58 = .ok (.invokevirtual 43, 3) := by decide +kernel
theorem dX1_strangersApart_61 : decode cX1_strangersApart 61 = .ok (.if_icmp .ne 6, 3) := by decide +kernel
theorem dX1_strangersApart_64 : decode cX1_strangersApart 64 = .ok (.bipush (-9), 2) := by decide +kernel
theorem dX1_strangersApart_66 : decode cX1_strangersApart 66 = .ok (.ireturn, 1) := by decide +kernel
theorem dX1_strangersApart_67 : decode cX1_strangersApart 67 = .ok (.aload_n 0, 1) := by decide +kernel
theorem dX1_strangersApart_68 : decode cX1_strangersApart 68 = .ok (.iload_n 3, 1) := by decide +kernel
theorem dX1_strangersApart_69 : decode cX1_strangersApart 69 = .ok (.iload 4, 2) := by decide +kernel
theorem dX1_strangersApart_71 : decode cX1_strangersApart 71 = .ok (.iload 5, 2) := by decide +kernel
theorem dX1_strangersApart_73 : decode cX1_strangersApart 73 = .ok (.iload 6, 2) := by decide +kernel
theorem dX1_strangersApart_75 : decode cX1_strangersApart 75 = .ok (.invokevirtual 77, 3) := by decide +kernel
theorem dX1_strangersApart_78 : decode cX1_strangersApart 78 = .ok (.ireturn, 1) := by decide +kernel
theorem dX2_init_0 : decode cX2_init 0 = .ok (.aload_n 0, 1) := by decide +kernel
theorem dX2_init_1 : decode cX2_init 1 = .ok (.invokespecial 3, 3) := by decide +kernel
theorem dX2_init_4 : decode cX2_init 4 = .ok (.aload_n 0, 1) := by decide +kernel
theorem dX2_init_5 : decode cX2_init 5 = .ok (.bipush 25, 2) := by decide +kernel
theorem dX2_init_7 : decode cX2_init 7 = .ok (.newarray .int, 2) := by decide +kernel
theorem dX2_init_9 : decode cX2_init 9 = .ok (.putfield 9, 3) := by decide +kernel
theorem dX2_init_12 : decode cX2_init 12 = .ok (.aload_n 0, 1) := by decide +kernel
theorem dX2_init_13 : decode cX2_init 13 = .ok (.bipush 25, 2) := by decide +kernel
theorem dX2_init_15 : decode cX2_init 15 = .ok (.newarray .int, 2) := by decide +kernel
theorem dX2_init_17 : decode cX2_init 17 = .ok (.putfield 15, 3) := by decide +kernel
theorem dX2_init_20 : decode cX2_init 20 = .ok (.return_, 1) := by decide +kernel
theorem dX2_size_0 : decode cX2_size 0 = .ok (.aload_n 0, 1) := by decide +kernel
theorem dX2_size_1 : decode cX2_size 1 = .ok (.getfield 18, 3) := by decide +kernel
theorem dX2_size_4 : decode cX2_size 4 = .ok (.ireturn, 1) := by decide +kernel
theorem dX2_isFull_0 : decode cX2_isFull 0 = .ok (.aload_n 0, 1) := by decide +kernel
theorem dX2_isFull_1 : decode cX2_isFull 1 = .ok (.getfield 18, 3) := by decide +kernel
theorem dX2_isFull_4 : decode cX2_isFull 4 = .ok (.bipush 25, 2) := by decide +kernel
theorem dX2_isFull_6 : decode cX2_isFull 6 = .ok (.if_icmp .lt 7, 3) := by decide +kernel
theorem dX2_isFull_9 : decode cX2_isFull 9 = .ok (.iconst 1, 1) := by decide +kernel
theorem dX2_isFull_10 : decode cX2_isFull 10 = .ok (.goto 4, 3) := by decide +kernel
theorem dX2_isFull_13 : decode cX2_isFull 13 = .ok (.iconst 0, 1) := by decide +kernel
theorem dX2_isFull_14 : decode cX2_isFull 14 = .ok (.ireturn, 1) := by decide +kernel
theorem dX2_hasPlace_0 : decode cX2_hasPlace 0 = .ok (.iload_n 1, 1) := by decide +kernel
theorem dX2_hasPlace_1 : decode cX2_hasPlace 1 = .ok (.ifCond .lt 15, 3) := by decide +kernel
theorem dX2_hasPlace_4 : decode cX2_hasPlace 4 = .ok (.iload_n 1, 1) := by decide +kernel
theorem dX2_hasPlace_5 : decode cX2_hasPlace 5 = .ok (.aload_n 0, 1) := by decide +kernel
theorem dX2_hasPlace_6 : decode cX2_hasPlace 6 = .ok (.getfield 18, 3) := by decide +kernel
theorem dX2_hasPlace_9 : decode cX2_hasPlace 9 = .ok (.if_icmp .ge 7, 3) := by decide +kernel
theorem dX2_hasPlace_12 : decode cX2_hasPlace 12 = .ok (.iconst 1, 1) := by decide +kernel
theorem dX2_hasPlace_13 : decode cX2_hasPlace 13 = .ok (.goto 4, 3) := by decide +kernel
theorem dX2_hasPlace_16 : decode cX2_hasPlace 16 = .ok (.iconst 0, 1) := by decide +kernel
theorem dX2_hasPlace_17 : decode cX2_hasPlace 17 = .ok (.ireturn, 1) := by decide +kernel
set_option maxRecDepth 20000 in
theorem ggX2_pieceAt_X2_hasPlace : GoodIn wsX2_pieceAt wsX2_hasPlace := goodIn_r _ [6, 7, 8, 9, 10] (by decide +kernel) (by decide +kernel)
set_option maxRecDepth 20000 in
theorem gX2_pieceAt_X2_hasPlace : GoodIn wsX2_pieceAt (wsV RX2 22 RX2 yX2_hasPlace wsX2_hasPlace) := goodIn_app (goodIn_of _ (by decide +kernel)) ggX2_pieceAt_X2_hasPlace
theorem dX2_pieceAt_0 : decode cX2_pieceAt 0 = .ok (.aload_n 0, 1) := by decide +kernel
theorem dX2_pieceAt_1 : decode cX2_pieceAt 1 = .ok (.iload_n 1, 1) := by decide +kernel
theorem dX2_pieceAt_2 : decode cX2_pieceAt 2 = .ok (.invokevirtual 22, 3) := by decide +kernel
theorem dX2_pieceAt_5 : decode cX2_pieceAt 5 = .ok (.ifCond .eq 12, 3) := by decide +kernel
theorem dX2_pieceAt_8 : decode cX2_pieceAt 8 = .ok (.aload_n 0, 1) := by decide +kernel
theorem dX2_pieceAt_9 : decode cX2_pieceAt 9 = .ok (.getfield 9, 3) := by decide +kernel
theorem dX2_pieceAt_12 : decode cX2_pieceAt 12 = .ok (.iload_n 1, 1) := by decide +kernel
theorem dX2_pieceAt_13 : decode cX2_pieceAt 13 = .ok (.iaload, 1) := by decide +kernel
theorem dX2_pieceAt_14 : decode cX2_pieceAt 14 = .ok (.goto 5, 3) := by decide +kernel
theorem dX2_pieceAt_17 : decode cX2_pieceAt 17 = .ok (.bipush (-9), 2) := by decide +kernel
theorem dX2_pieceAt_19 : decode cX2_pieceAt 19 = .ok (.ireturn, 1) := by decide +kernel
set_option maxRecDepth 20000 in
theorem ggX2_turnAt_X2_hasPlace : GoodIn wsX2_turnAt wsX2_hasPlace := goodIn_r _ [6, 7, 8, 9, 10] (by decide +kernel) (by decide +kernel)
set_option maxRecDepth 20000 in
theorem gX2_turnAt_X2_hasPlace : GoodIn wsX2_turnAt (wsV RX2 22 RX2 yX2_hasPlace wsX2_hasPlace) := goodIn_app (goodIn_of _ (by decide +kernel)) ggX2_turnAt_X2_hasPlace
theorem dX2_turnAt_0 : decode cX2_turnAt 0 = .ok (.aload_n 0, 1) := by decide +kernel
theorem dX2_turnAt_1 : decode cX2_turnAt 1 = .ok (.iload_n 1, 1) := by decide +kernel
theorem dX2_turnAt_2 : decode cX2_turnAt 2 = .ok (.invokevirtual 22, 3) := by decide +kernel
theorem dX2_turnAt_5 : decode cX2_turnAt 5 = .ok (.ifCond .eq 12, 3) := by decide +kernel
theorem dX2_turnAt_8 : decode cX2_turnAt 8 = .ok (.aload_n 0, 1) := by decide +kernel
theorem dX2_turnAt_9 : decode cX2_turnAt 9 = .ok (.getfield 15, 3) := by decide +kernel
theorem dX2_turnAt_12 : decode cX2_turnAt 12 = .ok (.iload_n 1, 1) := by decide +kernel
theorem dX2_turnAt_13 : decode cX2_turnAt 13 = .ok (.iaload, 1) := by decide +kernel
theorem dX2_turnAt_14 : decode cX2_turnAt 14 = .ok (.goto 4, 3) := by decide +kernel
theorem dX2_turnAt_17 : decode cX2_turnAt 17 = .ok (.iconst 0, 1) := by decide +kernel
theorem dX2_turnAt_18 : decode cX2_turnAt 18 = .ok (.ireturn, 1) := by decide +kernel
theorem dX2_clearAll_0 : decode cX2_clearAll 0 = .ok (.aload_n 0, 1) := by decide +kernel
theorem dX2_clearAll_1 : decode cX2_clearAll 1 = .ok (.iconst 0, 1) := by decide +kernel
theorem dX2_clearAll_2 : decode cX2_clearAll 2 = .ok (.putfield 18, 3) := by decide +kernel
theorem dX2_clearAll_5 : decode cX2_clearAll 5 = .ok (.return_, 1) := by decide +kernel
set_option maxRecDepth 20000 in
theorem ggX2_append_X2_isFull : GoodIn wsX2_append wsX2_isFull := goodIn_r _ [8, 2, 9, 10, 11] (by decide +kernel) (by decide +kernel)
set_option maxRecDepth 20000 in
theorem gX2_append_X2_isFull : GoodIn wsX2_append (wsV RX2 26 RX2 yX2_isFull wsX2_isFull) := goodIn_app (goodIn_of _ (by decide +kernel)) ggX2_append_X2_isFull
theorem dX2_append_0 : decode cX2_append 0 = .ok (.aload_n 0, 1) := by decide +kernel
theorem dX2_append_1 : decode cX2_append 1 = .ok (.invokevirtual 26, 3) := by decide +kernel
theorem dX2_append_4 : decode cX2_append 4 = .ok (.ifCond .ne 33, 3) := by decide +kernel
theorem dX2_append_7 : decode cX2_append 7 = .ok (.aload_n 0, 1) := by decide +kernel
theorem dX2_append_8 : decode cX2_append 8 = .ok (.getfield 9, 3) := by decide +kernel
theorem dX2_append_11 : decode cX2_append 11 = .ok (.aload_n 0, 1) := by decide +kernel
theorem dX2_append_12 : decode cX2_append 12 = .ok (.getfield 18, 3) := by decide +kernel
theorem dX2_append_15 : decode cX2_append 15 = .ok (.iload_n 1, 1) := by decide +kernel
theorem dX2_append_16 : decode cX2_append 16 = .ok (.iastore, 1) := by decide +kernel
theorem dX2_append_17 : decode cX2_append 17 = .ok (.aload_n 0, 1) := by decide +kernel
theorem dX2_append_18 : decode cX2_append 18 = .ok (.getfield 15, 3) := by decide +kernel
theorem dX2_append_21 : decode cX2_append 21 = .ok (.aload_n 0, 1) := by decide +kernel
theorem dX2_append_22 : decode cX2_append 22 = .ok (.getfield 18, 3) := by decide +kernel
theorem dX2_append_25 : decode cX2_append 25 = .ok (.iload_n 2, 1) := by decide +kernel
theorem dX2_append_26 : decode cX2_append 26 = .ok (.iastore, 1) := by decide +kernel
theorem dX2_append_27 : decode cX2_append 27 = .ok (.aload_n 0, 1) := by decide +kernel
theorem dX2_append_28 : decode cX2_append 28 = .ok (.dup, 1) := by decide +kernel
theorem dX2_append_29 : decode cX2_append 29 = .ok (.getfield 18, 3) := by decide +kernel
theorem dX2_append_32 : decode cX2_append 32 = .ok (.iconst 1, 1) := by decide +kernel
theorem dX2_append_33 : decode cX2_append 33 = .ok (.iadd, 1) := by decide +kernel
theorem dX2_append_34 : decode cX2_append 34 = .ok (.putfield 18, 3) := by decide +kernel
theorem dX2_append_37 : decode cX2_append 37 = .ok (.return_, 1) := by decide +kernel
set_option maxRecDepth 20000 in
theorem ggX2_setTurn_X2_hasPlace : GoodIn wsX2_setTurn wsX2_hasPlace := goodIn_r _ [6, 7, 8, 9, 10] (by decide +kernel) (by decide +kernel)
set_option maxRecDepth 20000 in
theorem gX2_setTurn_X2_hasPlace : GoodIn wsX2_setTurn (wsV RX2 22 RX2 yX2_hasPlace wsX2_hasPlace) := goodIn_app (goodIn_of _ (by decide +kernel)) ggX2_setTurn_X2_hasPlace
theorem dX2_setTurn_0 : decode cX2_setTurn 0 = .ok (.aload_n 0, 1) := by decide +kernel
theorem dX2_setTurn_1 : decode cX2_setTurn 1 = .ok (.iload_n 1, 1) := by decide +kernel
theorem dX2_setTurn_2 : decode cX2_setTurn 2 = .ok (.invokevirtual 22, 3) := by decide +kernel
theorem dX2_setTurn_5 : decode cX2_setTurn 5 = .ok (.ifCond .eq 10, 3) := by decide +kernel
theorem dX2_setTurn_8 : decode cX2_setTurn 8 = .ok (.aload_n 0, 1) := by decide +kernel
theorem dX2_setTurn_9 : decode cX2_setTurn 9 = .ok (.getfield 15, 3) := by decide +kernel
theorem dX2_setTurn_12 : decode cX2_setTurn 12 = .ok (.iload_n 1, 1) := by decide +kernel
theorem dX2_setTurn_13 : decode cX2_setTurn 13 = .ok (.iload_n 2, 1) := by decide +kernel
theorem dX2_setTurn_14 : decode cX2_setTurn 14 = .ok (.iastore, 1) := by decide +kernel
theorem dX2_setTurn_15 : decode cX2_setTurn 15 = .ok (.return_, 1) := by decide +kernel
set_option maxRecDepth 20000 in
theorem ggX2_swapPieces_X2_hasPlace : GoodIn wsX2_swapPieces wsX2_hasPlace := goodIn_r _ [6, 7, 8, 9, 10] (by decide +kernel) (by decide +kernel)
set_option maxRecDepth 20000 in
theorem gX2_swapPieces_X2_hasPlace : GoodIn wsX2_swapPieces (wsV RX2 22 RX2 yX2_hasPlace wsX2_hasPlace) := goodIn_app (goodIn_of _ (by decide +kernel)) ggX2_swapPieces_X2_hasPlace
theorem dX2_swapPieces_0 : decode cX2_swapPieces 0 = .ok (.aload_n 0, 1) := by decide +kernel
theorem dX2_swapPieces_1 : decode cX2_swapPieces 1 = .ok (.iload_n 1, 1) := by decide +kernel
theorem dX2_swapPieces_2 : decode cX2_swapPieces 2 = .ok (.invokevirtual 22, 3) := by decide +kernel
theorem dX2_swapPieces_5 : decode cX2_swapPieces 5 = .ok (.ifCond .eq 37, 3) := by decide +kernel
theorem dX2_swapPieces_8 : decode cX2_swapPieces 8 = .ok (.aload_n 0, 1) := by decide +kernel
theorem dX2_swapPieces_9 : decode cX2_swapPieces 9 = .ok (.iload_n 2, 1) := by decide +kernel
theorem dX2_swapPieces_10 : decode cX2_swapPieces 10 = .ok (.invokevirtual 22, 3) := by decide +kernel
theorem dX2_swapPieces_13 : decode cX2_swapPieces 13 = .ok (.ifCond .eq 29, 3) := by decide +kernel
theorem dX2_swapPieces_16 : decode cX2_swapPieces 16 = .ok (.aload_n 0, 1) := by decide +kernel
theorem dX2_swapPieces_17 : decode cX2_swapPieces 17 = .ok (.getfield 9, 3) := by decide +kernel
theorem dX2_swapPieces_20 : decode cX2_swapPieces 20 = .ok (.iload_n 1, 1) := by decide +kernel
theorem dX2_swapPieces_21 : decode cX2_swapPieces 21 = .ok (.iaload, 1) := by decide +kernel
theorem dX2_swapPieces_22 : decode cX2_swapPieces 22 = .ok (.istore_n 3, 1) := by decide +kernel
theorem dX2_swapPieces_23 : decode cX2_swapPieces 23 = .ok (.aload_n 0, 1) := by decide +kernel
theorem dX2_swapPieces_24 : decode cX2_swapPieces 24 = .ok (.getfield 9, 3) := by decide +kernel
theorem dX2_swapPieces_27 : decode cX2_swapPieces 27 = .ok (.iload_n 1, 1) := by decide +kernel
theorem dX2_swapPieces_28 : decode cX2_swapPieces 28 = .ok (.aload_n 0, 1) := by decide +kernel
theorem dX2_swapPieces_29 : decode cX2_swapPieces 29 = .ok (.getfield 9, 3) := by decide +kernel
theorem dX2_swapPieces_32 : decode cX2_swapPieces 32 = .ok (.iload_n 2, 1) := by decide +kernel
theorem dX2_swapPieces_33 : decode cX2_swapPieces 33 = .ok (.iaload, 1) := by decide +kernel
theorem dX2_swapPieces_34 : decode cX2_swapPieces 34 = .ok (.iastore, 1) := by decide +kernel
theorem dX2_swapPieces_35 : decode cX2_swapPieces 35 = .ok (.aload_n 0, 1) := by decide +kernel
theorem dX2_swapPieces_36 : decode cX2_swapPieces 36 = .ok (.getfield 9, 3) := by decide +kernel
theorem dX2_swapPieces_39 : decode cX2_swapPieces 39 = .ok (.iload_n 2, 1) := by decide +kernel
theorem dX2_swapPieces_40 : decode cX2_swapPieces 40 = .ok (.iload_n 3, 1) := by decide +kernel
theorem dX2_swapPieces_41 : decode cX2_swapPieces 41 = .ok (.iastore, 1) := by decide +kernel
theorem dX2_swapPieces_42 : decode cX2_swapPieces 42 = .ok (.return_, 1) := by decide +kernel
set_option maxRecDepth 20000 in
theorem ggX2_removeAt_X2_hasPlace : GoodIn wsX2_removeAt wsX2_hasPlace := goodIn_r _ [8, 1, 9, 10, 11] (by decide +kernel) (by decide +kernel)
set_option maxRecDepth 20000 in
theorem gX2_removeAt_X2_hasPlace : GoodIn wsX2_removeAt (wsV RX2 22 RX2 yX2_hasPlace wsX2_hasPlace) := goodIn_app (goodIn_of _ (by decide +kernel)) ggX2_removeAt_X2_hasPlace
theorem dX2_removeAt_0 : decode cX2_removeAt 0 = .ok (.aload_n 0, 1) := by decide +kernel
theorem dX2_removeAt_1 : decode cX2_removeAt 1 = .ok (.iload_n 1, 1) := by decide +kernel
theorem dX2_removeAt_2 : decode cX2_removeAt 2 = .ok (.invokevirtual 22, 3) := by decide +kernel
theorem dX2_removeAt_5 : decode cX2_removeAt 5 = .ok (.ifCond .eq 59, 3) := by decide +kernel
theorem dX2_removeAt_8 : decode cX2_removeAt 8 = .ok (.iload_n 1, 1) := by decide +kernel
theorem dX2_removeAt_9 : decode cX2_removeAt 9 = .ok (.iconst 1, 1) := by decide +kernel
theorem dX2_removeAt_10 : decode cX2_removeAt 10 = .ok (.iadd, 1) := by decide +kernel
theorem dX2_removeAt_11 : decode cX2_removeAt 11 = .ok (.istore_n 2, 1) := by decide +kernel
theorem dX2_removeAt_12 : decode cX2_removeAt 12 = .ok (.iload_n 2, 1) := by decide +kernel
theorem dX2_removeAt_13 : decode cX2_removeAt 13 = .ok (.aload_n 0, 1) := by decide +kernel
theorem dX2_removeAt_14 : decode cX2_removeAt 14 = .ok (.getfield 18, 3) := by decide +kernel
theorem dX2_removeAt_17 : decode cX2_removeAt 17 = .ok (.if_icmp .ge 37, 3) := by decide +kernel
theorem dX2_removeAt_20 : decode cX2_removeAt 20 = .ok (.aload_n 0, 1) := by decide +kernel
theorem dX2_removeAt_21 : decode cX2_removeAt 21 = .ok (.getfield 9, 3) := by decide +kernel
theorem dX2_removeAt_24 : decode cX2_removeAt 24 = .ok (.iload_n 2, 1) := by decide +kernel
theorem dX2_removeAt_25 : decode cX2_removeAt 25 = .ok (.iconst 1, 1) := by decide +kernel
theorem dX2_removeAt_26 : decode cX2_removeAt 26 = .ok (.isub, 1) := by decide +kernel
theorem dX2_removeAt_27 : decode cX2_removeAt 27 = .ok (.aload_n 0, 1) := by decide +kernel
theorem dX2_removeAt_28 : decode cX2_removeAt 28 = .ok (.getfield 9, 3) := by decide +kernel
theorem dX2_removeAt_31 : decode cX2_removeAt 31 = .ok (.iload_n 2, 1) := by decide +kernel
theorem dX2_removeAt_32 : decode cX2_removeAt 32 = .ok (.iaload, 1) := by decide +kernel
theorem dX2_removeAt_33 : decode cX2_removeAt 33 = .ok (.iastore, 1) := by decide +kernel
theorem dX2_removeAt_34 : decode cX2_removeAt 34 = .ok (.aload_n 0, 1) := by decide +kernel
theorem dX2_removeAt_35 : decode cX2_removeAt 35 = .ok (.getfield 15, 3) := by decide +kernel
theorem dX2_removeAt_38 : decode cX2_removeAt 38 = .ok (.iload_n 2, 1) := by decide +kernel
theorem dX2_removeAt_39 : decode cX2_removeAt 39 = .ok (.iconst 1, 1) := by decide +kernel
theorem dX2_removeAt_40 : decode cX2_removeAt 40 = .ok (.isub, 1) := by decide +kernel
theorem dX2_removeAt_41 : decode cX2_removeAt 41 = .ok (.aload_n 0, 1) := by decide +kernel
theorem dX2_removeAt_42 : decode cX2_removeAt 42 = .ok (.getfield 15, 3) := by decide +kernel
theorem dX2_removeAt_45 : decode cX2_removeAt 45 = .ok (.iload_n 2, 1) := by decide +kernel
theorem dX2_removeAt_46 : decode cX2_removeAt 46 = .ok (.iaload, 1) := by decide +kernel
theorem dX2_removeAt_47 : decode cX2_removeAt 47 = .ok (.iastore, 1) := by decide +kernel
theorem dX2_removeAt_48 : decode cX2_removeAt 48 = .ok (.iinc 2 1, 3) := by decide +kernel
theorem dX2_removeAt_51 : decode cX2_removeAt 51 = .ok (.goto (-39), 3) := by decide +kernel
theorem dX2_removeAt_54 : decode cX2_removeAt 54 = .ok (.aload_n 0, 1) := by decide +kernel
theorem dX2_removeAt_55 : decode cX2_removeAt 55 = .ok (.dup, 1) := by decide +kernel
theorem dX2_removeAt_56 : decode cX2_removeAt 56 = .ok (.getfield 18, 3) := by decide +kernel
theorem dX2_removeAt_59 : decode cX2_removeAt 59 = .ok (.iconst 1, 1) := by decide +kernel
theorem dX2_removeAt_60 : decode cX2_removeAt 60 = .ok (.isub, 1) := by decide +kernel
theorem dX2_removeAt_61 : decode cX2_removeAt 61 = .ok (.putfield 18, 3) := by decide +kernel
theorem dX2_removeAt_64 : decode cX2_removeAt 64 = .ok (.return_, 1) := by decide +kernel
theorem dX2_timesOf_0 : decode cX2_timesOf 0 = .ok (.iconst 0, 1) := by decide +kernel
theorem dX2_timesOf_1 : decode cX2_timesOf 1 = .ok (.istore_n 2, 1) := by decide +kernel
theorem dX2_timesOf_2 : decode cX2_timesOf 2 = .ok (.iconst 0, 1) := by decide +kernel
theorem dX2_timesOf_3 : decode cX2_timesOf 3 = .ok (.istore_n 3, 1) := by decide +kernel
theorem dX2_timesOf_4 : decode cX2_timesOf 4 = .ok (.iload_n 3, 1) := by decide +kernel
theorem dX2_timesOf_5 : decode cX2_timesOf 5 = .ok (.aload_n 0, 1) := by decide +kernel
theorem dX2_timesOf_6 : decode cX2_timesOf 6 = .ok (.getfield 18, 3) := by decide +kernel
theorem dX2_timesOf_9 : decode cX2_timesOf 9 = .ok (.if_icmp .ge 22, 3) := by decide +kernel
theorem dX2_timesOf_12 : decode cX2_timesOf 12 = .ok (.aload_n 0, 1) := by decide +kernel
theorem dX2_timesOf_13 : decode cX2_timesOf 13 = .ok (.getfield 9, 3) := by decide +kernel
theorem dX2_timesOf_16 : decode cX2_timesOf 16 = .ok (.iload_n 3, 1) := by decide +kernel
theorem dX2_timesOf_17 : decode cX2_timesOf 17 = .ok (.iaload, 1) := by decide +kernel
theorem dX2_timesOf_18 : decode cX2_timesOf 18 = .ok (.iload_n 1, 1) := by decide +kernel
theorem dX2_timesOf_19 : decode cX2_timesOf 19 = .ok (.if_icmp .ne 6, 3) := by decide +kernel
theorem dX2_timesOf_22 : decode cX2_timesOf 22 = .ok (.iinc 2 1, 3) := by decide +kernel
theorem dX2_timesOf_25 : decode cX2_timesOf 25 = .ok (.iinc 3 1, 3) := by decide +kernel
theorem dX2_timesOf_28 : decode cX2_timesOf 28 = .ok (.goto (-24), 3) := by decide +kernel
theorem dX2_timesOf_31 : decode cX2_timesOf 31 = .ok (.iload_n 2, 1) := by decide +kernel
theorem dX2_timesOf_32 : decode cX2_timesOf 32 = .ok (.ireturn, 1) := by decide +kernel
theorem dX4_init_0 : decode cX4_init 0 = .ok (.aload_n 0, 1) := by decide +kernel
theorem dX4_init_1 : decode cX4_init 1 = .ok (.invokespecial 3, 3) := by decide +kernel
theorem dX4_init_4 : decode cX4_init 4 = .ok (.aload_n 0, 1) := by decide +kernel
theorem dX4_init_5 : decode cX4_init 5 = .ok (.bipush 50, 2) := by decide +kernel
theorem dX4_init_7 : decode cX4_init 7 = .ok (.newarray .int, 2) := by decide +kernel
theorem dX4_init_9 : decode cX4_init 9 = .ok (.putfield 9, 3) := by decide +kernel
theorem dX4_init_12 : decode cX4_init 12 = .ok (.return_, 1) := by decide +kernel
theorem dX4_isThere_0 : decode cX4_isThere 0 = .ok (.aload_n 0, 1) := by decide +kernel
theorem dX4_isThere_1 : decode cX4_isThere 1 = .ok (.getfield 15, 3) := by decide +kernel
theorem dX4_isThere_4 : decode cX4_isThere 4 = .ok (.ireturn, 1) := by decide +kernel
theorem dX4_laneHeld_0 : decode cX4_laneHeld 0 = .ok (.aload_n 0, 1) := by decide +kernel
theorem dX4_laneHeld_1 : decode cX4_laneHeld 1 = .ok (.getfield 19, 3) := by decide +kernel
theorem dX4_laneHeld_4 : decode cX4_laneHeld 4 = .ok (.ireturn, 1) := by decide +kernel
theorem dX4_isOfOther_0 : decode cX4_isOfOther 0 = .ok (.aload_n 0, 1) := by decide +kernel
theorem dX4_isOfOther_1 : decode cX4_isOfOther 1 = .ok (.getfield 15, 3) := by decide +kernel
theorem dX4_isOfOther_4 : decode cX4_isOfOther 4 = .ok (.ifCond .eq 15, 3) := by decide +kernel
theorem dX4_isOfOther_7 : decode cX4_isOfOther 7 = .ok (.aload_n 0, 1) := by decide +kernel
theorem dX4_isOfOther_8 : decode cX4_isOfOther 8 = .ok (.getfield 19, 3) := by decide +kernel
theorem dX4_isOfOther_11 : decode cX4_isOfOther 11 = .ok (.iload_n 1, 1) := by decide +kernel
theorem dX4_isOfOther_12 : decode cX4_isOfOther 12 = .ok (.if_icmp .eq 7, 3) := by decide +kernel
theorem dX4_isOfOther_15 : decode cX4_isOfOther 15 = .ok (.iconst 1, 1) := by decide +kernel
theorem dX4_isOfOther_16 : decode cX4_isOfOther 16 = .ok (.goto 4, 3) := by decide +kernel
theorem dX4_isOfOther_19 : decode cX4_isOfOther 19 = .ok (.iconst 0, 1) := by decide +kernel
theorem dX4_isOfOther_20 : decode cX4_isOfOther 20 = .ok (.ireturn, 1) := by decide +kernel
theorem dX4_renew_0 : decode cX4_renew 0 = .ok (.aload_n 0, 1) := by decide +kernel
theorem dX4_renew_1 : decode cX4_renew 1 = .ok (.iconst 1, 1) := by decide +kernel
theorem dX4_renew_2 : decode cX4_renew 2 = .ok (.putfield 15, 3) := by decide +kernel
theorem dX4_renew_5 : decode cX4_renew 5 = .ok (.aload_n 0, 1) := by decide +kernel
theorem dX4_renew_6 : decode cX4_renew 6 = .ok (.iload_n 1, 1) := by decide +kernel
theorem dX4_renew_7 : decode cX4_renew 7 = .ok (.putfield 19, 3) := by decide +kernel
theorem dX4_renew_10 : decode cX4_renew 10 = .ok (.aload_n 0, 1) := by decide +kernel
theorem dX4_renew_11 : decode cX4_renew 11 = .ok (.iconst 0, 1) := by decide +kernel
theorem dX4_renew_12 : decode cX4_renew 12 = .ok (.iload_n 2, 1) := by decide +kernel
theorem dX4_renew_13 : decode cX4_renew 13 = .ok (.invokestatic 23, 3) := by decide +kernel
theorem dX4_renew_16 : decode cX4_renew 16 = .ok (.bipush 50, 2) := by decide +kernel
theorem dX4_renew_18 : decode cX4_renew 18 = .ok (.invokestatic 29, 3) := by decide +kernel
theorem dX4_renew_21 : decode cX4_renew 21 = .ok (.putfield 32, 3) := by decide +kernel
theorem dX4_renew_24 : decode cX4_renew 24 = .ok (.iconst 0, 1) := by decide +kernel
theorem dX4_renew_25 : decode cX4_renew 25 = .ok (.istore_n 3, 1) := by decide +kernel
theorem dX4_renew_26 : decode cX4_renew 26 = .ok (.iload_n 3, 1) := by decide +kernel
theorem dX4_renew_27 : decode cX4_renew 27 = .ok (.bipush 50, 2) := by decide +kernel
theorem dX4_renew_29 : decode cX4_renew 29 = .ok (.if_icmp .ge 16, 3) := by decide +kernel
theorem dX4_renew_32 : decode cX4_renew 32 = .ok (.aload_n 0, 1) := by decide +kernel
theorem dX4_renew_33 : decode cX4_renew 33 = .ok (.getfield 9, 3) := by decide +kernel
theorem dX4_renew_36 : decode cX4_renew 36 = .ok (.iload_n 3, 1) := by decide +kernel
theorem dX4_renew_37 : decode cX4_renew 37 = .ok (.iconst 0, 1) := by decide +kernel
theorem dX4_renew_38 : decode cX4_renew 38 = .ok (.iastore, 1) := by decide +kernel
theorem dX4_renew_39 : decode cX4_renew 39 = .ok (.iinc 3 1, 3) := by decide +kernel
theorem dX4_renew_42 : decode cX4_renew 42 = .ok (.goto (-16), 3) := by decide +kernel
theorem dX4_renew_45 : decode cX4_renew 45 = .ok (.return_, 1) := by decide +kernel
theorem dX4_drop_0 : decode cX4_drop 0 = .ok (.aload_n 0, 1) := by decide +kernel
theorem dX4_drop_1 : decode cX4_drop 1 = .ok (.iconst 0, 1) := by decide +kernel
theorem dX4_drop_2 : decode cX4_drop 2 = .ok (.putfield 15, 3) := by decide +kernel
theorem dX4_drop_5 : decode cX4_drop 5 = .ok (.aload_n 0, 1) := by decide +kernel
theorem dX4_drop_6 : decode cX4_drop 6 = .ok (.iconst 0, 1) := by decide +kernel
theorem dX4_drop_7 : decode cX4_drop 7 = .ok (.putfield 32, 3) := by decide +kernel
theorem dX4_drop_10 : decode cX4_drop 10 = .ok (.return_, 1) := by decide +kernel
theorem dX4_holds_0 : decode cX4_holds 0 = .ok (.iload_n 1, 1) := by decide +kernel
theorem dX4_holds_1 : decode cX4_holds 1 = .ok (.ifCond .lt 26, 3) := by decide +kernel
theorem dX4_holds_4 : decode cX4_holds 4 = .ok (.lload_n 2, 1) := by decide +kernel
theorem dX4_holds_5 : decode cX4_holds 5 = .ok (.lconst 0, 1) := by decide +kernel
theorem dX4_holds_6 : decode cX4_holds 6 = .ok (.lcmp, 1) := by decide +kernel
theorem dX4_holds_7 : decode cX4_holds 7 = .ok (.ifCond .lt 20, 3) := by decide +kernel
theorem dX4_holds_10 : decode cX4_holds 10 = .ok (.iload_n 1, 1) := by decide +kernel
theorem dX4_holds_11 : decode cX4_holds 11 = .ok (.i2l, 1) := by decide +kernel
theorem dX4_holds_12 : decode cX4_holds 12 = .ok (.lload_n 2, 1) := by decide +kernel
theorem dX4_holds_13 : decode cX4_holds 13 = .ok (.ladd, 1) := by decide +kernel
theorem dX4_holds_14 : decode cX4_holds 14 = .ok (.aload_n 0, 1) := by decide +kernel
theorem dX4_holds_15 : decode cX4_holds 15 = .ok (.getfield 32, 3) := by decide +kernel
theorem dX4_holds_18 : decode cX4_holds 18 = .ok (.i2l, 1) := by decide +kernel
theorem dX4_holds_19 : decode cX4_holds 19 = .ok (.lcmp, 1) := by decide +kernel
theorem dX4_holds_20 : decode cX4_holds 20 = .ok (.ifCond .gt 7, 3) := by decide +kernel
theorem dX4_holds_23 : decode cX4_holds 23 = .ok (.iconst 1, 1) := by decide +kernel
theorem dX4_holds_24 : decode cX4_holds 24 = .ok (.goto 4, 3) := by decide +kernel
theorem dX4_holds_27 : decode cX4_holds 27 = .ok (.iconst 0, 1) := by decide +kernel
theorem dX4_holds_28 : decode cX4_holds 28 = .ok (.ireturn, 1) := by decide +kernel
set_option maxRecDepth 20000 in
theorem ggX4_read_X4_holds : GoodIn wsX4_read wsX4_holds := goodIn_r _ [6, 7, 8, 9, 10, 11] (by decide +kernel) (by decide +kernel)
set_option maxRecDepth 20000 in
theorem gX4_read_X4_holds : GoodIn wsX4_read (wsV RX4 35 RX4 yX4_holds wsX4_holds) := goodIn_app (goodIn_of _ (by decide +kernel)) ggX4_read_X4_holds
theorem dX4_read_0 : decode cX4_read 0 = .ok (.aload_n 0, 1) := by decide +kernel
theorem dX4_read_1 : decode cX4_read 1 = .ok (.iload_n 1, 1) := by decide +kernel
theorem dX4_read_2 : decode cX4_read 2 = .ok (.lconst 1, 1) := by decide +kernel
theorem dX4_read_3 : decode cX4_read 3 = .ok (.invokevirtual 35, 3) := by decide +kernel
theorem dX4_read_6 : decode cX4_read 6 = .ok (.ifCond .eq 12, 3) := by decide +kernel
theorem dX4_read_9 : decode cX4_read 9 = .ok (.aload_n 0, 1) := by decide +kernel
theorem dX4_read_10 : decode cX4_read 10 = .ok (.getfield 9, 3) := by decide +kernel
theorem dX4_read_13 : decode cX4_read 13 = .ok (.iload_n 1, 1) := by decide +kernel
theorem dX4_read_14 : decode cX4_read 14 = .ok (.iaload, 1) := by decide +kernel
theorem dX4_read_15 : decode cX4_read 15 = .ok (.goto 4, 3) := by decide +kernel
theorem dX4_read_18 : decode cX4_read 18 = .ok (.iconst 0, 1) := by decide +kernel
theorem dX4_read_19 : decode cX4_read 19 = .ok (.ireturn, 1) := by decide +kernel
set_option maxRecDepth 20000 in
theorem ggX4_write_X4_holds : GoodIn wsX4_write wsX4_holds := goodIn_r _ [6, 7, 13, 14, 15, 16] (by decide +kernel) (by decide +kernel)
set_option maxRecDepth 20000 in
theorem gX4_write_X4_holds : GoodIn wsX4_write (wsV RX4 35 RX4 yX4_holds wsX4_holds) := goodIn_app (goodIn_of _ (by decide +kernel)) ggX4_write_X4_holds
set_option maxRecDepth 20000 in
theorem ggX4_write_X4_cutToLane : GoodIn wsX4_write wsX4_cutToLane := goodIn_r _ [11, 12, 13, 14, 15, 16] (by decide +kernel) (by decide +kernel)
set_option maxRecDepth 20000 in
theorem gX4_write_X4_cutToLane : GoodIn wsX4_write (wsV RX4 39 RX4 yX4_cutToLane wsX4_cutToLane) := goodIn_app (goodIn_of _ (by decide +kernel)) ggX4_write_X4_cutToLane
theorem dX4_write_0 : decode cX4_write 0 = .ok (.aload_n 0, 1) := by decide +kernel
theorem dX4_write_1 : decode cX4_write 1 = .ok (.iload_n 1, 1) := by decide +kernel
theorem dX4_write_2 : decode cX4_write 2 = .ok (.lconst 1, 1) := by decide +kernel
theorem dX4_write_3 : decode cX4_write 3 = .ok (.invokevirtual 35, 3) := by decide +kernel
theorem dX4_write_6 : decode cX4_write 6 = .ok (.ifCond .eq 14, 3) := by decide +kernel
theorem dX4_write_9 : decode cX4_write 9 = .ok (.aload_n 0, 1) := by decide +kernel
theorem dX4_write_10 : decode cX4_write 10 = .ok (.getfield 9, 3) := by decide +kernel
theorem dX4_write_13 : decode cX4_write 13 = .ok (.iload_n 1, 1) := by decide +kernel
theorem dX4_write_14 : decode cX4_write 14 = .ok (.aload_n 0, 1) := by decide +kernel
theorem dX4_write_15 : decode cX4_write 15 = .ok (.iload_n 2, 1) := by decide +kernel
theorem dX4_write_16 : decode cX4_write 16 = .ok (.invokevirtual 39, 3) := by decide +kernel
theorem dX4_write_19 : decode cX4_write 19 = .ok (.iastore, 1) := by decide +kernel
theorem dX4_write_20 : decode cX4_write 20 = .ok (.return_, 1) := by decide +kernel
theorem dX4_cutToLane_0 : decode cX4_cutToLane 0 = .ok (.aload_n 0, 1) := by decide +kernel
theorem dX4_cutToLane_1 : decode cX4_cutToLane 1 = .ok (.getfield 19, 3) := by decide +kernel
theorem dX4_cutToLane_4 : decode cX4_cutToLane 4 = .ok (.lookupswitch 34 #[(0, 28), (1, 31)], 28) := by decide +kernel
theorem dX4_cutToLane_32 : decode cX4_cutToLane 32 = .ok (.iload_n 1, 1) := by decide +kernel
theorem dX4_cutToLane_33 : decode cX4_cutToLane 33 = .ok (.i2b, 1) := by decide +kernel
theorem dX4_cutToLane_34 : decode cX4_cutToLane 34 = .ok (.ireturn, 1) := by decide +kernel
theorem dX4_cutToLane_35 : decode cX4_cutToLane 35 = .ok (.iload_n 1, 1) := by decide +kernel
theorem dX4_cutToLane_36 : decode cX4_cutToLane 36 = .ok (.i2s, 1) := by decide +kernel
theorem dX4_cutToLane_37 : decode cX4_cutToLane 37 = .ok (.ireturn, 1) := by decide +kernel
theorem dX4_cutToLane_38 : decode cX4_cutToLane 38 = .ok (.iload_n 1, 1) := by decide +kernel
theorem dX4_cutToLane_39 : decode cX4_cutToLane 39 = .ok (.ireturn, 1) := by decide +kernel
set_option maxRecDepth 20000 in
theorem ggX4_writeFrom_X4_holds : GoodIn wsX4_writeFrom wsX4_holds := goodIn_r _ [10, 11, 12, 13, 14, 15] (by decide +kernel) (by decide +kernel)
set_option maxRecDepth 20000 in
theorem gX4_writeFrom_X4_holds : GoodIn wsX4_writeFrom (wsV RX4 35 RX4 yX4_holds wsX4_holds) := goodIn_app (goodIn_of _ (by decide +kernel)) ggX4_writeFrom_X4_holds
theorem dX4_writeFrom_0 : decode cX4_writeFrom 0 = .ok (.aload_n 1, 1) := by decide +kernel
theorem dX4_writeFrom_1 : decode cX4_writeFrom 1 = .ok (.iload_n 2, 1) := by decide +kernel
theorem dX4_writeFrom_2 : decode cX4_writeFrom 2 = .ok (.iload 4, 2) := by decide +kernel
theorem dX4_writeFrom_4 : decode cX4_writeFrom 4 = .ok (.i2l, 1) := by decide +kernel
theorem dX4_writeFrom_5 : decode cX4_writeFrom 5 = .ok (.invokevirtual 35, 3) := by decide +kernel
theorem dX4_writeFrom_8 : decode cX4_writeFrom 8 = .ok (.ifCond .eq 29, 3) := by decide +kernel
theorem dX4_writeFrom_11 : decode cX4_writeFrom 11 = .ok (.aload_n 0, 1) := by decide +kernel
theorem dX4_writeFrom_12 : decode cX4_writeFrom 12 = .ok (.iload_n 3, 1) := by decide +kernel
theorem dX4_writeFrom_13 : decode cX4_writeFrom 13 = .ok (.iload 4, 2) := by decide +kernel
theorem dX4_writeFrom_15 : decode cX4_writeFrom 15 = .ok (.i2l, 1) := by decide +kernel
theorem dX4_writeFrom_16 : decode cX4_writeFrom 16 = .ok (.invokevirtual 35, 3) := by decide +kernel
theorem dX4_writeFrom_19 : decode cX4_writeFrom 19 = .ok (.ifCond .eq 18, 3) := by decide +kernel
theorem dX4_writeFrom_22 : decode cX4_writeFrom 22 = .ok (.aload_n 1, 1) := by decide +kernel
theorem dX4_writeFrom_23 : decode cX4_writeFrom 23 = .ok (.getfield 9, 3) := by decide +kernel
theorem dX4_writeFrom_26 : decode cX4_writeFrom 26 = .ok (.iload_n 2, 1) := by decide +kernel
theorem dX4_writeFrom_27 : decode cX4_writeFrom 27 = .ok (.aload_n 0, 1) := by decide +kernel
theorem dX4_writeFrom_28 : decode cX4_writeFrom 28 = .ok (.getfield 9, 3) := by decide +kernel
theorem dX4_writeFrom_31 : decode cX4_writeFrom 31 = .ok (.iload_n 3, 1) := by decide +kernel
theorem dX4_writeFrom_32 : decode cX4_writeFrom 32 = .ok (.iload 4, 2) := by decide +kernel
theorem dX4_writeFrom_34 : decode cX4_writeFrom 34 = .ok (.invokestatic 43, 3) := by decide +kernel
theorem dX4_writeFrom_37 : decode cX4_writeFrom 37 = .ok (.return_, 1) := by decide +kernel
end
section
/-! whole numbers as the machine's ints and longs -/
def iI (z : Int) : Int32 := Int32.ofInt z
def lI (z : Int) : Int64 := Int64.ofInt z
theorem iI_toInt {z : Int} (h1 : -2147483648 ≤ z) (h2 : z < 2147483648) : (iI z).toInt = z := Int32.toInt_ofInt_of_le h1 h2
theorem lI_toInt {z : Int} (h1 : -9223372036854775808 ≤ z) (h2 : z < 9223372036854775808) : (lI z).toInt = z := Int64.toInt_ofInt_of_le h1 h2
theorem iI_of (x : Int32) : iI x.toInt = x := Int32.ofInt_toInt x
theorem iI_add (a b : Int) : iI a + iI b = iI (a + b) := (Int32.ofInt_add a b).symm
theorem iI_sub (a b : Int) : iI a - iI b = iI (a - b) := (Int32.ofInt_sub a b).symm
theorem iI_mul (a b : Int) : iI a * iI b = iI (a * b) := (Int32.ofInt_mul a b).symm
theorem iI_neg (a : Int) : - iI a = iI (-a) := (Int32.ofInt_neg a).symm
theorem lI_add (a b : Int) : lI a + lI b = lI (a + b) := (Int64.ofInt_add a b).symm
theorem lI_sub (a b : Int) : lI a - lI b = lI (a - b) := (Int64.ofInt_sub a b).symm
theorem lI_mul (a b : Int) : lI a * lI b = lI (a * b) := (Int64.ofInt_mul a b).symm
theorem iI_inj {a b : Int} (a1 : -2147483648 ≤ a) (a2 : a < 2147483648) (b1 : -2147483648 ≤ b) (b2 : b < 2147483648) : (iI a = iI b) ↔ a = b := by
  constructor
  · intro h
    have := congrArg Int32.toInt h
    rwa [iI_toInt a1 a2, iI_toInt b1 b2] at this
  · intro h; rw [h]
theorem iI_le {a b : Int} (a1 : -2147483648 ≤ a) (a2 : a < 2147483648) (b1 : -2147483648 ≤ b) (b2 : b < 2147483648) : (iI a ≤ iI b) ↔ a ≤ b := by
  rw [Int32.le_iff_toInt_le, iI_toInt a1 a2, iI_toInt b1 b2]
theorem iI_lt {a b : Int} (a1 : -2147483648 ≤ a) (a2 : a < 2147483648) (b1 : -2147483648 ≤ b) (b2 : b < 2147483648) : (iI a < iI b) ↔ a < b := by
  rw [Int32.lt_iff_toInt_lt, iI_toInt a1 a2, iI_toInt b1 b2]
theorem lI_inj {a b : Int} (a1 : -9223372036854775808 ≤ a) (a2 : a < 9223372036854775808) (b1 : -9223372036854775808 ≤ b) (b2 : b < 9223372036854775808) : (lI a = lI b) ↔ a = b := by
  constructor
  · intro h
    have := congrArg Int64.toInt h
    rwa [lI_toInt a1 a2, lI_toInt b1 b2] at this
  · intro h; rw [h]
theorem lI_lt {a b : Int} (a1 : -9223372036854775808 ≤ a) (a2 : a < 9223372036854775808) (b1 : -9223372036854775808 ≤ b) (b2 : b < 9223372036854775808) : (lI a < lI b) ↔ a < b := by
  rw [Int64.lt_iff_toInt_lt, lI_toInt a1 a2, lI_toInt b1 b2]
theorem iI_0 : iI 0 = 0 := rfl
theorem iI_nat (k : Nat) (h : k < 2147483648) : (iI (k : Int)).toNatClampNeg = k := by
  rw [Int32.toNatClampNeg, iI_toInt (by omega) (by omega)]; rfl
theorem iI_clamp {z : Int} (h1 : 0 ≤ z) (h2 : z < 2147483648) : (iI z).toNatClampNeg = z.toNat := by
  rw [Int32.toNatClampNeg, iI_toInt (by omega) (by omega)]
theorem iI_in {z : Int} {n : Nat} (h1 : 0 ≤ z) (h2 : z < n) (hn : n < 2147483648) : vp_in (iI z) n := by
  intro h
  rcases h with h | h
  · rw [show (0 : Int32) = iI 0 from rfl, iI_lt (by omega) (by omega) (by omega) (by omega)] at h; omega
  · rw [iI_clamp h1 (by omega)] at h; omega
theorem iI_div {a b : Int} (a1 : 0 ≤ a) (a2 : a < 2147483648) (b1 : 0 < b) (b2 : b < 2147483648) : iI a / iI b = iI (a / b) := by
  have hb := Int.ediv_le_self b a1
  have h0 := Int.ediv_nonneg a1 (Int.le_of_lt b1)
  apply Int32.toInt_inj.mp
  have hne : iI b ≠ -1 := fun h => by
    have h2 := congrArg Int32.toInt h
    rw [iI_toInt (by omega) (by omega)] at h2
    have e : (-1 : Int32).toInt = -1 := by decide
    omega
  rw [Int32.toInt_div_of_ne_right _ _ hne, iI_toInt (by omega) (by omega), iI_toInt (by omega) (by omega), iI_toInt (by omega) (by omega), Int.tdiv_eq_ediv_of_nonneg a1]
theorem iI_rem {a b : Int} (a1 : 0 ≤ a) (a2 : a < 2147483648) (b1 : 0 < b) (b2 : b < 2147483648) : iI a - iI a / iI b * iI b = iI (a % b) := by
  rw [iI_div a1 a2 b1 b2, iI_mul, iI_sub, Int.emod_def, Int.mul_comm]
theorem iI_ne0 {b : Int} (b1 : 0 < b) (b2 : b < 2147483648) : ¬ iI b = 0 := by
  rw [show (0 : Int32) = iI 0 from rfl, iI_inj (by omega) (by omega) (by omega) (by omega)]; omega
theorem iI_long {a : Int} (a1 : -2147483648 ≤ a) (a2 : a < 2147483648) : (iI a).toInt64 = lI a := by
  apply Int64.toInt_inj.mp
  rw [Int32.toInt_toInt64, iI_toInt a1 a2, lI_toInt (by omega) (by omega)]
theorem lI_int {a : Int} : (lI a).toInt32 = iI a := Int64.toInt32_ofInt
def bI (b : Bool) : Int := if b then 1 else 0
theorem bI_t : bI true = 1 := rfl
theorem bI_f : bI false = 0 := rfl
end
section
/-! THE WALK'S OWN LAYER: a state of the walk is a list of cells, a list of locals, a place, a stack; heaps and slots are quantified away -/
abbrev gE : Type := va_G × ClassId × ClassId × ClassId
def gTy (E : gE) : List (ClassId × FieldType) := [(E.2.1, .int), (E.2.2.1, .boolean), (E.2.2.2, .object RX4)]
/-- what the tables say of the kinds -/
def gK (E : gE) (U : State) : Prop := va_K E.1 vwCl (gTy E) U ∧ va_AO RX4 U
theorem gK.moved {E : gE} {u U : State} (hvm : u.vm.Alike U.vm) (h : gK E u) : gK E U := ⟨va_K.moved hvm h.1, va_AO.moved hvm h.2⟩
/-- a row of ints, of booleans, of sheets -/
def aI (E : gE) (n : Nat) (f : Int → Int) : va_E := .inl (E.2.1, n, .inl (fun k : Nat => iI (f (k : Int))))
def aZ (E : gE) (n : Nat) (f : Int → Int) : va_E := .inl (E.2.2.1, n, .inl (fun k : Nat => iI (f (k : Int))))
def aQ (E : gE) (n : Nat) (f : Int → Option Nat) : va_E := .inl (E.2.2.2, n, .inr (.inr (.inr (.inr (fun k : Nat => f (k : Int))))))
def uI (f : Int → Int) (z v : Int) : Int → Int := fun j => if j = z then v else f j
def uQ (f : Int → Option Nat) (z : Int) (v : Option Nat) : Int → Option Nat := fun j => if j = z then v else f j
def gPost (E : gE) (A : Nat → Prop) (post : Option Value → va_W → Prop) : Array Value → State → Outcome → State → Prop := fun _ st oc t => (∃ (v : Option Value) (w : va_W), oc = .returned v ∧ post v w ∧ va_P E.1 vwCl w t.heap ∧ gK E t ∧ va_D A w) ∧ va_F A st t
def gMet (E : gE) (l : Launch) (y : MethodName) (ws : List Cond) (rm : Room) (mc ms : Nat) (as : List Value) (wIn : va_W) (post : Option Value → va_W → Prop) : Prop := ∀ sz : Nat, Met l y ws rm (va_Pc as (fun U => U.heap.size = sz ∧ va_P E.1 vwCl wIn U.heap ∧ gK E U ∧ va_D (fun _ => True) wIn)) (gPost E (va_A wIn sz) post) mc ms (va_A wIn sz)
/-- a method that changes nothing and answers v -/
def gFun (E : gE) (l : Launch) (y : MethodName) (ws : List Cond) (rm : Room) (as : List Value) (wIn : va_W) (v : Value) : Prop := gMet E l y ws rm 0 0 as wIn (fun r w => r = some v ∧ w = wIn)
/-- a method that answers v and leaves the cells w1 -/
def gUpd (E : gE) (l : Launch) (y : MethodName) (ws : List Cond) (rm : Room) (as : List Value) (wIn : va_W) (v : Option Value) (w1 : va_W) : Prop := gMet E l y ws rm 0 0 as wIn (fun r w => r = v ∧ w = w1)
def gC (p : Program) (s : State) (m : MethodId) (args : Array Value) (meth : Method) (c : Code) (cc : ByteArray) (nL : Nat) (own : String) (Ts : List Cond) (E : gE) (A : Nat → Prop) : Prop :=
  p.tables.exec = Jvm.exec ∧ c.code = cc ∧ c.maxLocals = nL ∧ s.vm.findClass own = some m.cls ∧ (∀ w ∈ Ts, w.before args s = true) ∧ gK E s ∧ (∀ q : Nat, s.heap.size ≤ q → A q) ∧ meth.locks = false
def gJ (p : Program) (l : Launch) (e : Env) (R : Room) (s : State) (m : MethodId) (args : Array Value) (below : List Frame) (meth : Method) (c : Code) (cells slots : Nat) (Q : State → Prop) (E : gE) (A : Nat → Prop) (nL : Nat) (ws : va_W) (lv : List (Nat × Value)) (pc : Nat) (st : List Value) : Prop :=
  ∀ (H : Heap) (locs : List Loc) (ls : Array Slot), va_P E.1 vwCl ws H → va_D A ws → va_S A s.heap H locs → lv_has ls nL lv → W p l e R s m args below meth c H locs cells slots Q (F0 m pc ls st)
section GL
variable {p : Program} {l : Launch} {e : Env} {R : Room} {s : State} {m : MethodId} {args : Array Value} {below : List Frame} {meth : Method} {c : Code} {cells slots : Nat} {Q : State → Prop} {E : gE} {A : Nat → Prop} {nL : Nat} {ws : va_W} {lv : List (Nat × Value)} {pc : Nat} {st : List Value} {cc : ByteArray} {own : String} {Ts : List Cond}
theorem g_start {y : MethodName} {wsy ws' : List Cond} {rm : Room} {mc ms maxL : Nat} {ret : Option FieldType} {as : List Value} {wIn : va_W} {post : Option Value → va_W → Prop} (hy : plainName y.cls = true) (hw : wsy = Cond.code y cc maxL ret :: ws') (hn : (lg_sl as).length ≤ maxL)
    (body : ∀ (p : Program) (e : Env) (s : State) (m : MethodId) (args : Array Value) (below : List Frame) (meth : Method) (c : Code) (A : Nat → Prop), gC p s m args meth c cc maxL y.cls wsy E A → meth.sig.returnType = ret → meth.name = y.name →
      gJ p l e rm s m args below meth c 0 0 (MQ below (gPost E A post) args s mc ms A) E A maxL wIn (lv_args 0 as) 0 []) : gMet E l y wsy rm mc ms as wIn post := by
  intro sz
  refine Met.ofW (cc := cc) (maxL := maxL) (ret := ret) hy hw ?_
  intro p e s m args below meth c s₁ B hml hv
  obtain ⟨rfl, hsz, hP, hK, hD0⟩ := hv
  subst hsz
  have hD := hD0.self (sz := s.heap.size)
  rw [lg_entry_eq]
  exact body p e s m _ below meth c (va_A wIn s.heap.size) ⟨B.exec, B.bytes, hml, findClass_of_methodNamed B.named, atoms_spec (ws := wsy) B.pre, hK, fun q h => Or.inr h, B.notSynchronized⟩ B.returns (name_of_methodNamed B.named B.method).1 s.heap [] _ hP hD va_S.rf (lv_entry as hn)
theorem g_w {ws' : va_W} {lv' : List (Nat × Value)} (ks : List Nat) (hw : ws = ws') (hl : lv_pick lv ks = lv') (kk : gJ p l e R s m args below meth c cells slots Q E A nL ws' lv' pc st) : gJ p l e R s m args below meth c cells slots Q E A nL ws lv pc st := by
  intro H locs ls hP hD hS hl0
  subst hw
  exact kk H locs ls hP hD hS (lv_sub hl0 ks hl)
theorem g_perm {ws' : va_W} (is : List Nat) (hw : is.map (fun i => ws[i]?) = ws'.map some) (hn : va_nd is = true) (kk : gJ p l e R s m args below meth c cells slots Q E A nL ws' lv pc st) : gJ p l e R s m args below meth c cells slots Q E A nL ws lv pc st := by
  intro H locs ls hP hD hS hl0
  refine kk H locs ls (fun k q hk => ?_) (hD.sub is hn hw) hS hl0
  have h1 : (is.map (fun i => ws[i]?))[k]? = some (some q) := by rw [hw, List.getElem?_map, hk]; rfl
  rw [List.getElem?_map] at h1
  cases hi : is[k]? with
  | none => rw [hi] at h1; cases h1
  | some i => rw [hi] at h1; exact hP i q (Option.some.inj h1)
theorem g_loop {α : Type} (F : α → va_W) (L : α → List (Nat × Value)) (I : α → Prop) (μ : α → Nat) (a0 : α) (h0 : I a0) (ks : List Nat) (hw : ws = F a0) (hl : lv_pick lv ks = L a0)
    (body : ∀ a : α, I a → (∀ b : α, I b → μ b < μ a → gJ p l e R s m args below meth c cells slots Q E A nL (F b) (L b) pc []) → gJ p l e R s m args below meth c cells slots Q E A nL (F a) (L a) pc []) : gJ p l e R s m args below meth c cells slots Q E A nL ws lv pc [] := by
  refine g_w ks hw hl ?_
  have key : ∀ (n : Nat) (a : α), μ a < n → I a → gJ p l e R s m args below meth c cells slots Q E A nL (F a) (L a) pc [] := by
    intro n
    induction n with
    | zero => intro a h; exact absurd h (Nat.not_lt_zero _)
    | succ n ih => exact fun a h hI => body a hI (fun b hb hlt => ih b (by omega) hb)
  exact key _ a0 (Nat.lt_succ_self _) h0
theorem g_join {α : Type} (F : α → va_W) (L : α → List (Nat × Value)) (S : α → List Value) (t : Nat) (I : α → Prop) (body : ∀ a : α, I a → gJ p l e R s m args below meth c cells slots Q E A nL (F a) (L a) t (S a))
    (kk : (∀ a : α, I a → gJ p l e R s m args below meth c cells slots Q E A nL (F a) (L a) t (S a)) → gJ p l e R s m args below meth c cells slots Q E A nL ws lv pc st) : gJ p l e R s m args below meth c cells slots Q E A nL ws lv pc st := kk body
-- constants, locals, the stack
theorem g_iconst (n' : Nat) (C : gC p s m args meth c cc nL own Ts E A) {n : Int} (hdg : decode cc pc = .ok (.iconst n, 1)) (hp : pc + 1 = n') (kk : gJ p l e R s m args below meth c cells slots Q E A nL ws lv n' (.int (iI n) :: st)) : gJ p l e R s m args below meth c cells slots Q E A nL ws lv pc st := by
  intro H locs ls hP hD hS hl
  subst hp
  exact lv_iconst C.1 C.2.1 hdg rfl (kk H locs ls hP hD hS hl)
theorem g_bipush (n' : Nat) (C : gC p s m args meth c cc nL own Ts E A) {n : Int} (hdg : decode cc pc = .ok (.bipush n, 2)) (hp : pc + 2 = n') (hv : (Int8.ofInt n).toInt32 = iI n) (kk : gJ p l e R s m args below meth c cells slots Q E A nL ws lv n' (.int (iI n) :: st)) : gJ p l e R s m args below meth c cells slots Q E A nL ws lv pc st := by
  intro H locs ls hP hD hS hl
  subst hp
  exact lv_bipush C.1 C.2.1 hdg hv (kk H locs ls hP hD hS hl)
theorem g_sipush (n' : Nat) (C : gC p s m args meth c cc nL own Ts E A) {n : Int} (hdg : decode cc pc = .ok (.sipush n, 3)) (hp : pc + 3 = n') (hv : (Int16.ofInt n).toInt32 = iI n) (kk : gJ p l e R s m args below meth c cells slots Q E A nL ws lv n' (.int (iI n) :: st)) : gJ p l e R s m args below meth c cells slots Q E A nL ws lv pc st := by
  intro H locs ls hP hD hS hl
  subst hp
  exact lv_sipush C.1 C.2.1 hdg hv (kk H locs ls hP hD hS hl)
theorem g_ldc (n' : Nat) (C : gC p s m args meth c cc nL own Ts E A) {index : Nat} {v : Int32} (z : Int) (hdg : decode cc pc = .ok (.ldc index, 2)) (hp : pc + 2 = n') (hm : Cond.constant own index v ∈ Ts) (hv : v = iI z) (kk : gJ p l e R s m args below meth c cells slots Q E A nL ws lv n' (.int (iI z) :: st)) : gJ p l e R s m args below meth c cells slots Q E A nL ws lv pc st := by
  intro H locs ls hP hD hS hl
  subst hp
  subst hv
  exact lv_ldc C.1 C.2.1 C.2.2.2.1 (C.2.2.2.2.1 _ hm) hdg (kk H locs ls hP hD hS hl)
theorem g_ldc2 (n' : Nat) (C : gC p s m args meth c cc nL own Ts E A) {index : Nat} {v : Int64} (z : Int) (hdg : decode cc pc = .ok (.ldc2_w index, 3)) (hp : pc + 3 = n') (hm : Cond.constantLong own index v ∈ Ts) (hv : v = lI z) (kk : gJ p l e R s m args below meth c cells slots Q E A nL ws lv n' (.long (lI z) :: st)) : gJ p l e R s m args below meth c cells slots Q E A nL ws lv pc st := by
  intro H locs ls hP hD hS hl
  subst hp
  subst hv
  exact lv_ldc2 C.1 C.2.1 C.2.2.2.1 (C.2.2.2.2.1 _ hm) hdg (kk H locs ls hP hD hS hl)
theorem g_lconst (n' : Nat) (C : gC p s m args meth c cc nL own Ts E A) {n : Fin 2} (z : Int) (hdg : decode cc pc = .ok (.lconst n, 1)) (hp : pc + 1 = n') (hv : Int64.ofNat (n : Nat) = lI z) (kk : gJ p l e R s m args below meth c cells slots Q E A nL ws lv n' (.long (lI z) :: st)) : gJ p l e R s m args below meth c cells slots Q E A nL ws lv pc st := by
  intro H locs ls hP hD hS hl
  subst hp
  exact lv_lconst C.1 C.2.1 hdg hv (kk H locs ls hP hD hS hl)
theorem g_iload_n (n' : Nat) (C : gC p s m args meth c cc nL own Ts E A) (k : Nat) {kf : Fin 4} {x : Int32} (hdg : decode cc pc = .ok (.iload_n kf, 1)) (hp : pc + 1 = n') (hk : lv[k]? = some ((kf : Nat), .int x)) (kk : gJ p l e R s m args below meth c cells slots Q E A nL ws lv n' (.int x :: st)) : gJ p l e R s m args below meth c cells slots Q E A nL ws lv pc st := by
  intro H locs ls hP hD hS hl
  subst hp
  exact lv_iload_n C.1 C.2.1 hdg rfl (lv_at hl k hk) (kk H locs ls hP hD hS hl)
theorem g_iload (n' : Nat) (C : gC p s m args meth c cc nL own Ts E A) (k : Nat) {i : Nat} {x : Int32} (hdg : decode cc pc = .ok (.iload i, 2)) (hp : pc + 2 = n') (hk : lv[k]? = some (i, .int x)) (kk : gJ p l e R s m args below meth c cells slots Q E A nL ws lv n' (.int x :: st)) : gJ p l e R s m args below meth c cells slots Q E A nL ws lv pc st := by
  intro H locs ls hP hD hS hl
  subst hp
  exact lv_iload C.1 C.2.1 hdg (lv_at hl k hk) (kk H locs ls hP hD hS hl)
theorem g_aload_n (n' : Nat) (C : gC p s m args meth c cc nL own Ts E A) (k : Nat) {kf : Fin 4} {x : Nat} (hdg : decode cc pc = .ok (.aload_n kf, 1)) (hp : pc + 1 = n') (hk : lv[k]? = some ((kf : Nat), .ref x)) (kk : gJ p l e R s m args below meth c cells slots Q E A nL ws lv n' (.ref x :: st)) : gJ p l e R s m args below meth c cells slots Q E A nL ws lv pc st := by
  intro H locs ls hP hD hS hl
  subst hp
  exact lv_aload_n C.1 C.2.1 hdg rfl (lv_at hl k hk) (kk H locs ls hP hD hS hl)
theorem g_aload (n' : Nat) (C : gC p s m args meth c cc nL own Ts E A) (k : Nat) {i : Nat} {x : Nat} (hdg : decode cc pc = .ok (.aload i, 2)) (hp : pc + 2 = n') (hk : lv[k]? = some (i, .ref x)) (kk : gJ p l e R s m args below meth c cells slots Q E A nL ws lv n' (.ref x :: st)) : gJ p l e R s m args below meth c cells slots Q E A nL ws lv pc st := by
  intro H locs ls hP hD hS hl
  subst hp
  exact lv_aload C.1 C.2.1 hdg (lv_at hl k hk) (kk H locs ls hP hD hS hl)
theorem g_lload_n (n' : Nat) (C : gC p s m args meth c cc nL own Ts E A) (k : Nat) {kf : Fin 4} {x : Int64} (hdg : decode cc pc = .ok (.lload_n kf, 1)) (hp : pc + 1 = n') (hk : lv[k]? = some ((kf : Nat), .long x)) (kk : gJ p l e R s m args below meth c cells slots Q E A nL ws lv n' (.long x :: st)) : gJ p l e R s m args below meth c cells slots Q E A nL ws lv pc st := by
  intro H locs ls hP hD hS hl
  subst hp
  exact lv_lload_n C.1 C.2.1 hdg rfl (lv_at hl k hk) (kk H locs ls hP hD hS hl)
theorem g_lload (n' : Nat) (C : gC p s m args meth c cc nL own Ts E A) (k : Nat) {i : Nat} {x : Int64} (hdg : decode cc pc = .ok (.lload i, 2)) (hp : pc + 2 = n') (hk : lv[k]? = some (i, .long x)) (kk : gJ p l e R s m args below meth c cells slots Q E A nL ws lv n' (.long x :: st)) : gJ p l e R s m args below meth c cells slots Q E A nL ws lv pc st := by
  intro H locs ls hP hD hS hl
  subst hp
  exact lv_lload C.1 C.2.1 hdg (lv_at hl k hk) (kk H locs ls hP hD hS hl)
theorem g_istore_n (n' : Nat) (C : gC p s m args meth c cc nL own Ts E A) {kf : Fin 4} {i : Nat} {x : Int32} {lv' : List (Nat × Value)} (hdg : decode cc pc = .ok (.istore_n kf, 1)) (hp : pc + 1 = n') (hi : (kf : Nat) = i) (hn : i < nL) (hlv : (i, Value.int x) :: lv.filter (fun q => !(q.1 == i) && !(q.1 + 1 == i && q.2.category == 2)) = lv') (kk : gJ p l e R s m args below meth c cells slots Q E A nL ws lv' n' st) : gJ p l e R s m args below meth c cells slots Q E A nL ws lv pc (.int x :: st) := by
  intro H locs ls hP hD hS hl
  subst hp
  exact lv_istore_n C.1 C.2.1 hdg hi hl hn hlv (fun ls' hl' => kk H locs ls' hP hD hS hl')
theorem g_istore (n' : Nat) (C : gC p s m args meth c cc nL own Ts E A) {i : Nat} {x : Int32} {lv' : List (Nat × Value)} (hdg : decode cc pc = .ok (.istore i, 2)) (hp : pc + 2 = n') (hn : i < nL) (hlv : (i, Value.int x) :: lv.filter (fun q => !(q.1 == i) && !(q.1 + 1 == i && q.2.category == 2)) = lv') (kk : gJ p l e R s m args below meth c cells slots Q E A nL ws lv' n' st) : gJ p l e R s m args below meth c cells slots Q E A nL ws lv pc (.int x :: st) := by
  intro H locs ls hP hD hS hl
  subst hp
  exact lv_istore C.1 C.2.1 hdg hl hn hlv (fun ls' hl' => kk H locs ls' hP hD hS hl')
theorem g_astore_n (n' : Nat) (C : gC p s m args meth c cc nL own Ts E A) {kf : Fin 4} {i : Nat} {x : Nat} {lv' : List (Nat × Value)} (hdg : decode cc pc = .ok (.astore_n kf, 1)) (hp : pc + 1 = n') (hi : (kf : Nat) = i) (hn : i < nL) (hlv : (i, Value.ref x) :: lv.filter (fun q => !(q.1 == i) && !(q.1 + 1 == i && q.2.category == 2)) = lv') (kk : gJ p l e R s m args below meth c cells slots Q E A nL ws lv' n' st) : gJ p l e R s m args below meth c cells slots Q E A nL ws lv pc (.ref x :: st) := by
  intro H locs ls hP hD hS hl
  subst hp
  exact lv_astore_n C.1 C.2.1 hdg hi hl hn hlv (fun ls' hl' => kk H locs ls' hP hD hS hl')
theorem g_astore (n' : Nat) (C : gC p s m args meth c cc nL own Ts E A) {i : Nat} {x : Nat} {lv' : List (Nat × Value)} (hdg : decode cc pc = .ok (.astore i, 2)) (hp : pc + 2 = n') (hn : i < nL) (hlv : (i, Value.ref x) :: lv.filter (fun q => !(q.1 == i) && !(q.1 + 1 == i && q.2.category == 2)) = lv') (kk : gJ p l e R s m args below meth c cells slots Q E A nL ws lv' n' st) : gJ p l e R s m args below meth c cells slots Q E A nL ws lv pc (.ref x :: st) := by
  intro H locs ls hP hD hS hl
  subst hp
  exact lv_astore C.1 C.2.1 hdg hl hn hlv (fun ls' hl' => kk H locs ls' hP hD hS hl')
theorem g_lstore (n' : Nat) (C : gC p s m args meth c cc nL own Ts E A) {i : Nat} {x : Int64} {lv' : List (Nat × Value)} (hdg : decode cc pc = .ok (.lstore i, 2)) (hp : pc + 2 = n') (hn : i + 1 < nL) (hlv : (i, Value.long x) :: lv.filter (fun q => !(q.1 == i) && (!(q.1 == i + 1) && !(q.1 + 1 == i && q.2.category == 2))) = lv') (kk : gJ p l e R s m args below meth c cells slots Q E A nL ws lv' n' st) : gJ p l e R s m args below meth c cells slots Q E A nL ws lv pc (.long x :: st) := by
  intro H locs ls hP hD hS hl
  subst hp
  exact lv_lstore C.1 C.2.1 hdg hl hn hlv (fun ls' hl' => kk H locs ls' hP hD hS hl')
theorem g_lstore_n (n' : Nat) (C : gC p s m args meth c cc nL own Ts E A) {kf : Fin 4} {i : Nat} {x : Int64} {lv' : List (Nat × Value)} (hdg : decode cc pc = .ok (.lstore_n kf, 1)) (hp : pc + 1 = n') (hi : (kf : Nat) = i) (hn : i + 1 < nL) (hlv : (i, Value.long x) :: lv.filter (fun q => !(q.1 == i) && (!(q.1 == i + 1) && !(q.1 + 1 == i && q.2.category == 2))) = lv') (kk : gJ p l e R s m args below meth c cells slots Q E A nL ws lv' n' st) : gJ p l e R s m args below meth c cells slots Q E A nL ws lv pc (.long x :: st) := by
  intro H locs ls hP hD hS hl
  subst hp
  exact lv_lstore_n C.1 C.2.1 hdg hi hl hn hlv (fun ls' hl' => kk H locs ls' hP hD hS hl')
theorem g_iinc (n' : Nat) (C : gC p s m args meth c cc nL own Ts E A) (k : Nat) {i : Nat} {n z : Int} {lv' : List (Nat × Value)} (hdg : decode cc pc = .ok (.iinc i n, 3)) (hp : pc + 3 = n') (hk : lv[k]? = some (i, .int (iI z))) (hn : i < nL) (hlv : (i, Value.int (iI (z + n))) :: lv.filter (fun q => !(q.1 == i) && !(q.1 + 1 == i && q.2.category == 2)) = lv') (kk : gJ p l e R s m args below meth c cells slots Q E A nL ws lv' n' st) : gJ p l e R s m args below meth c cells slots Q E A nL ws lv pc st := by
  intro H locs ls hP hD hS hl
  subst hp
  exact lv_iinc C.1 C.2.1 hdg hl hk (iI_add z n) hn hlv (fun ls' hl' => kk H locs ls' hP hD hS hl')
theorem g_iadd (n' : Nat) (C : gC p s m args meth c cc nL own Ts E A) {a b : Int} (hdg : decode cc pc = .ok (.iadd, 1)) (hp : pc + 1 = n') (kk : gJ p l e R s m args below meth c cells slots Q E A nL ws lv n' (.int (iI (a + b)) :: st)) : gJ p l e R s m args below meth c cells slots Q E A nL ws lv pc (.int (iI b) :: .int (iI a) :: st) := by
  intro H locs ls hP hD hS hl
  subst hp
  exact lv_iadd C.1 C.2.1 hdg (by rw [iI_add]; exact kk H locs ls hP hD hS hl)
theorem g_isub (n' : Nat) (C : gC p s m args meth c cc nL own Ts E A) {a b : Int} (hdg : decode cc pc = .ok (.isub, 1)) (hp : pc + 1 = n') (kk : gJ p l e R s m args below meth c cells slots Q E A nL ws lv n' (.int (iI (a - b)) :: st)) : gJ p l e R s m args below meth c cells slots Q E A nL ws lv pc (.int (iI b) :: .int (iI a) :: st) := by
  intro H locs ls hP hD hS hl
  subst hp
  exact lv_isub C.1 C.2.1 hdg (by rw [iI_sub]; exact kk H locs ls hP hD hS hl)
theorem g_imul (n' : Nat) (C : gC p s m args meth c cc nL own Ts E A) {a b : Int} (hdg : decode cc pc = .ok (.imul, 1)) (hp : pc + 1 = n') (kk : gJ p l e R s m args below meth c cells slots Q E A nL ws lv n' (.int (iI (a * b)) :: st)) : gJ p l e R s m args below meth c cells slots Q E A nL ws lv pc (.int (iI b) :: .int (iI a) :: st) := by
  intro H locs ls hP hD hS hl
  subst hp
  exact lv_imul C.1 C.2.1 hdg (by rw [iI_mul]; exact kk H locs ls hP hD hS hl)
theorem g_ladd (n' : Nat) (C : gC p s m args meth c cc nL own Ts E A) {a b : Int} (hdg : decode cc pc = .ok (.ladd, 1)) (hp : pc + 1 = n') (kk : gJ p l e R s m args below meth c cells slots Q E A nL ws lv n' (.long (lI (a + b)) :: st)) : gJ p l e R s m args below meth c cells slots Q E A nL ws lv pc (.long (lI b) :: .long (lI a) :: st) := by
  intro H locs ls hP hD hS hl
  subst hp
  exact lv_ladd C.1 C.2.1 hdg (by rw [lI_add]; exact kk H locs ls hP hD hS hl)
theorem g_lsub (n' : Nat) (C : gC p s m args meth c cc nL own Ts E A) {a b : Int} (hdg : decode cc pc = .ok (.lsub, 1)) (hp : pc + 1 = n') (kk : gJ p l e R s m args below meth c cells slots Q E A nL ws lv n' (.long (lI (a - b)) :: st)) : gJ p l e R s m args below meth c cells slots Q E A nL ws lv pc (.long (lI b) :: .long (lI a) :: st) := by
  intro H locs ls hP hD hS hl
  subst hp
  exact lv_lsub C.1 C.2.1 hdg (by rw [lI_sub]; exact kk H locs ls hP hD hS hl)
theorem g_lmul (n' : Nat) (C : gC p s m args meth c cc nL own Ts E A) {a b : Int} (hdg : decode cc pc = .ok (.lmul, 1)) (hp : pc + 1 = n') (kk : gJ p l e R s m args below meth c cells slots Q E A nL ws lv n' (.long (lI (a * b)) :: st)) : gJ p l e R s m args below meth c cells slots Q E A nL ws lv pc (.long (lI b) :: .long (lI a) :: st) := by
  intro H locs ls hP hD hS hl
  subst hp
  exact lv_lmul C.1 C.2.1 hdg (by rw [lI_mul]; exact kk H locs ls hP hD hS hl)
theorem g_ladd_r (n' : Nat) (C : gC p s m args meth c cc nL own Ts E A) {a b : Int64} (hdg : decode cc pc = .ok (.ladd, 1)) (hp : pc + 1 = n') (kk : gJ p l e R s m args below meth c cells slots Q E A nL ws lv n' (.long (a + b) :: st)) : gJ p l e R s m args below meth c cells slots Q E A nL ws lv pc (.long b :: .long a :: st) := by
  intro H locs ls hP hD hS hl
  subst hp
  exact lv_ladd C.1 C.2.1 hdg (kk H locs ls hP hD hS hl)
theorem g_lmul_r (n' : Nat) (C : gC p s m args meth c cc nL own Ts E A) {a b : Int64} (hdg : decode cc pc = .ok (.lmul, 1)) (hp : pc + 1 = n') (kk : gJ p l e R s m args below meth c cells slots Q E A nL ws lv n' (.long (a * b) :: st)) : gJ p l e R s m args below meth c cells slots Q E A nL ws lv pc (.long b :: .long a :: st) := by
  intro H locs ls hP hD hS hl
  subst hp
  exact lv_lmul C.1 C.2.1 hdg (kk H locs ls hP hD hS hl)
theorem g_land_r (n' : Nat) (C : gC p s m args meth c cc nL own Ts E A) {a b : Int64} (hdg : decode cc pc = .ok (.land, 1)) (hp : pc + 1 = n') (kk : gJ p l e R s m args below meth c cells slots Q E A nL ws lv n' (.long (a &&& b) :: st)) : gJ p l e R s m args below meth c cells slots Q E A nL ws lv pc (.long b :: .long a :: st) := by
  intro H locs ls hP hD hS hl
  subst hp
  exact lv_land C.1 C.2.1 hdg (kk H locs ls hP hD hS hl)
theorem g_lor_r (n' : Nat) (C : gC p s m args meth c cc nL own Ts E A) {a b : Int64} (hdg : decode cc pc = .ok (.lor, 1)) (hp : pc + 1 = n') (kk : gJ p l e R s m args below meth c cells slots Q E A nL ws lv n' (.long (a ||| b) :: st)) : gJ p l e R s m args below meth c cells slots Q E A nL ws lv pc (.long b :: .long a :: st) := by
  intro H locs ls hP hD hS hl
  subst hp
  exact lv_lor C.1 C.2.1 hdg (kk H locs ls hP hD hS hl)
theorem g_ldiv_r (n' : Nat) (C : gC p s m args meth c cc nL own Ts E A) {a b : Int64} (hdg : decode cc pc = .ok (.ldiv, 1)) (hp : pc + 1 = n') (h0 : ¬ b = 0) (kk : gJ p l e R s m args below meth c cells slots Q E A nL ws lv n' (.long (a / b) :: st)) : gJ p l e R s m args below meth c cells slots Q E A nL ws lv pc (.long b :: .long a :: st) := by
  intro H locs ls hP hD hS hl
  subst hp
  exact lv_ldiv C.1 C.2.1 hdg h0 (kk H locs ls hP hD hS hl)
theorem g_lrem_r (n' : Nat) (C : gC p s m args meth c cc nL own Ts E A) {a b : Int64} (hdg : decode cc pc = .ok (.lrem, 1)) (hp : pc + 1 = n') (h0 : ¬ b = 0) (kk : gJ p l e R s m args below meth c cells slots Q E A nL ws lv n' (.long (a - a / b * b) :: st)) : gJ p l e R s m args below meth c cells slots Q E A nL ws lv pc (.long b :: .long a :: st) := by
  intro H locs ls hP hD hS hl
  subst hp
  exact lv_lrem C.1 C.2.1 hdg h0 (kk H locs ls hP hD hS hl)
theorem g_lshl_r (n' : Nat) (C : gC p s m args meth c cc nL own Ts E A) {a : Int64} {y : Int32} (hdg : decode cc pc = .ok (.lshl, 1)) (hp : pc + 1 = n') (kk : gJ p l e R s m args below meth c cells slots Q E A nL ws lv n' (.long (a <<< (y.toInt64 &&& 63)) :: st)) : gJ p l e R s m args below meth c cells slots Q E A nL ws lv pc (.int y :: .long a :: st) := by
  intro H locs ls hP hD hS hl
  subst hp
  exact lv_lshl C.1 C.2.1 hdg rfl (kk H locs ls hP hD hS hl)
theorem g_ineg (n' : Nat) (C : gC p s m args meth c cc nL own Ts E A) {a : Int} (hdg : decode cc pc = .ok (.ineg, 1)) (hp : pc + 1 = n') (kk : gJ p l e R s m args below meth c cells slots Q E A nL ws lv n' (.int (iI (-a)) :: st)) : gJ p l e R s m args below meth c cells slots Q E A nL ws lv pc (.int (iI a) :: st) := by
  intro H locs ls hP hD hS hl
  subst hp
  exact lv_ineg C.1 C.2.1 hdg (by rw [iI_neg]; exact kk H locs ls hP hD hS hl)
theorem g_idiv (n' : Nat) (C : gC p s m args meth c cc nL own Ts E A) {a b : Int} (hdg : decode cc pc = .ok (.idiv, 1)) (hp : pc + 1 = n') (hr : 0 ≤ a ∧ a < 2147483648 ∧ 0 < b ∧ b < 2147483648) (kk : gJ p l e R s m args below meth c cells slots Q E A nL ws lv n' (.int (iI (a / b)) :: st)) : gJ p l e R s m args below meth c cells slots Q E A nL ws lv pc (.int (iI b) :: .int (iI a) :: st) := by
  intro H locs ls hP hD hS hl
  subst hp
  exact lv_idiv C.1 C.2.1 hdg (iI_ne0 hr.2.2.1 hr.2.2.2) (by rw [iI_div hr.1 hr.2.1 hr.2.2.1 hr.2.2.2]; exact kk H locs ls hP hD hS hl)
theorem g_irem (n' : Nat) (C : gC p s m args meth c cc nL own Ts E A) {a b : Int} (hdg : decode cc pc = .ok (.irem, 1)) (hp : pc + 1 = n') (hr : 0 ≤ a ∧ a < 2147483648 ∧ 0 < b ∧ b < 2147483648) (kk : gJ p l e R s m args below meth c cells slots Q E A nL ws lv n' (.int (iI (a % b)) :: st)) : gJ p l e R s m args below meth c cells slots Q E A nL ws lv pc (.int (iI b) :: .int (iI a) :: st) := by
  intro H locs ls hP hD hS hl
  subst hp
  exact lv_irem C.1 C.2.1 hdg (iI_ne0 hr.2.2.1 hr.2.2.2) (by rw [iI_rem hr.1 hr.2.1 hr.2.2.1 hr.2.2.2]; exact kk H locs ls hP hD hS hl)
theorem g_iand_r (n' : Nat) (C : gC p s m args meth c cc nL own Ts E A) {a b : Int32} (hdg : decode cc pc = .ok (.iand, 1)) (hp : pc + 1 = n') (kk : gJ p l e R s m args below meth c cells slots Q E A nL ws lv n' (.int (a &&& b) :: st)) : gJ p l e R s m args below meth c cells slots Q E A nL ws lv pc (.int b :: .int a :: st) := by
  intro H locs ls hP hD hS hl
  subst hp
  exact lv_iand C.1 C.2.1 hdg (kk H locs ls hP hD hS hl)
theorem g_i2l (n' : Nat) (C : gC p s m args meth c cc nL own Ts E A) {a : Int} (hdg : decode cc pc = .ok (.i2l, 1)) (hp : pc + 1 = n') (hr : -2147483648 ≤ a ∧ a < 2147483648) (kk : gJ p l e R s m args below meth c cells slots Q E A nL ws lv n' (.long (lI a) :: st)) : gJ p l e R s m args below meth c cells slots Q E A nL ws lv pc (.int (iI a) :: st) := by
  intro H locs ls hP hD hS hl
  subst hp
  exact lv_i2l C.1 C.2.1 hdg (iI_long hr.1 hr.2) (kk H locs ls hP hD hS hl)
theorem g_i2l_r (n' : Nat) (C : gC p s m args meth c cc nL own Ts E A) {a : Int32} (hdg : decode cc pc = .ok (.i2l, 1)) (hp : pc + 1 = n') (kk : gJ p l e R s m args below meth c cells slots Q E A nL ws lv n' (.long a.toInt64 :: st)) : gJ p l e R s m args below meth c cells slots Q E A nL ws lv pc (.int a :: st) := by
  intro H locs ls hP hD hS hl
  subst hp
  exact lv_i2l C.1 C.2.1 hdg rfl (kk H locs ls hP hD hS hl)
theorem g_l2i_r (n' : Nat) (C : gC p s m args meth c cc nL own Ts E A) {a : Int64} (hdg : decode cc pc = .ok (.l2i, 1)) (hp : pc + 1 = n') (kk : gJ p l e R s m args below meth c cells slots Q E A nL ws lv n' (.int a.toInt32 :: st)) : gJ p l e R s m args below meth c cells slots Q E A nL ws lv pc (.long a :: st) := by
  intro H locs ls hP hD hS hl
  subst hp
  exact lv_l2i C.1 C.2.1 hdg rfl (kk H locs ls hP hD hS hl)
theorem g_i2b (n' : Nat) (C : gC p s m args meth c cc nL own Ts E A) {a : Int32} (hdg : decode cc pc = .ok (.i2b, 1)) (hp : pc + 1 = n') (kk : gJ p l e R s m args below meth c cells slots Q E A nL ws lv n' (.int a.toInt8.toInt32 :: st)) : gJ p l e R s m args below meth c cells slots Q E A nL ws lv pc (.int a :: st) := by
  intro H locs ls hP hD hS hl
  subst hp
  exact lv_i2b C.1 C.2.1 hdg rfl (kk H locs ls hP hD hS hl)
theorem g_i2s (n' : Nat) (C : gC p s m args meth c cc nL own Ts E A) {a : Int32} (hdg : decode cc pc = .ok (.i2s, 1)) (hp : pc + 1 = n') (kk : gJ p l e R s m args below meth c cells slots Q E A nL ws lv n' (.int a.toInt16.toInt32 :: st)) : gJ p l e R s m args below meth c cells slots Q E A nL ws lv pc (.int a :: st) := by
  intro H locs ls hP hD hS hl
  subst hp
  exact lv_i2s C.1 C.2.1 hdg rfl (kk H locs ls hP hD hS hl)
theorem g_dup (n' : Nat) (C : gC p s m args meth c cc nL own Ts E A) {v : Value} (hdg : decode cc pc = .ok (.dup, 1)) (hp : pc + 1 = n') (hv : v.category = 1) (kk : gJ p l e R s m args below meth c cells slots Q E A nL ws lv n' (v :: v :: st)) : gJ p l e R s m args below meth c cells slots Q E A nL ws lv pc (v :: st) := by
  intro H locs ls hP hD hS hl
  subst hp
  exact lv_dup C.1 C.2.1 hdg hv (kk H locs ls hP hD hS hl)
theorem g_dup2 (n' : Nat) (C : gC p s m args meth c cc nL own Ts E A) {v w : Value} (hdg : decode cc pc = .ok (.dup2, 1)) (hp : pc + 1 = n') (hv : v.category = 1) (hw : w.category = 1) (kk : gJ p l e R s m args below meth c cells slots Q E A nL ws lv n' (v :: w :: v :: w :: st)) : gJ p l e R s m args below meth c cells slots Q E A nL ws lv pc (v :: w :: st) := by
  intro H locs ls hP hD hS hl
  subst hp
  exact lv_dup2_11 C.1 C.2.1 hdg hv hw (kk H locs ls hP hD hS hl)
theorem g_goto (t : Nat) (C : gC p s m args meth c cc nL own Ts E A) {off : Int} (hdg : decode cc pc = .ok (.goto off, 3)) (ht : (pc : Int) + off = (t : Int)) (kk : gJ p l e R s m args below meth c cells slots Q E A nL ws lv t st) : gJ p l e R s m args below meth c cells slots Q E A nL ws lv pc st := by
  intro H locs ls hP hD hS hl
  exact lv_goto C.1 C.2.1 hdg ht (kk H locs ls hP hD hS hl)
theorem g_icmp_ge (t n' : Nat) (C : gC p s m args meth c cc nL own Ts E A) {a b off : Int} (hdg : decode cc pc = .ok (.if_icmp .ge off, 3)) (ht : (pc : Int) + off = (t : Int)) (hp : pc + 3 = n') (hr : -2147483648 ≤ a ∧ a < 2147483648 ∧ -2147483648 ≤ b ∧ b < 2147483648) (kt : b ≤ a → gJ p l e R s m args below meth c cells slots Q E A nL ws lv t st) (kf : a < b → gJ p l e R s m args below meth c cells slots Q E A nL ws lv n' st) : gJ p l e R s m args below meth c cells slots Q E A nL ws lv pc (.int (iI b) :: .int (iI a) :: st) := by
  intro H locs ls hP hD hS hl
  subst hp
  exact lv_icmp_ge C.1 C.2.1 hdg ht (fun h => kt ((iI_le hr.2.2.1 hr.2.2.2 hr.1 hr.2.1).mp h) H locs ls hP hD hS hl) (fun h => kf (by have h2 : ¬ b ≤ a := fun q => h ((iI_le hr.2.2.1 hr.2.2.2 hr.1 hr.2.1).mpr q); omega) H locs ls hP hD hS hl)
theorem g_if_ge (t n' : Nat) (C : gC p s m args meth c cc nL own Ts E A) {a off : Int} (hdg : decode cc pc = .ok (.ifCond .ge off, 3)) (ht : (pc : Int) + off = (t : Int)) (hp : pc + 3 = n') (hq : -2147483648 ≤ a ∧ a < 2147483648) (kt : 0 ≤ a → gJ p l e R s m args below meth c cells slots Q E A nL ws lv t st) (kf : a < 0 → gJ p l e R s m args below meth c cells slots Q E A nL ws lv n' st) : gJ p l e R s m args below meth c cells slots Q E A nL ws lv pc (.int (iI a) :: st) := by
  intro H locs ls hP hD hS hl
  subst hp
  have hr : -2147483648 ≤ a ∧ a < 2147483648 ∧ (-2147483648 : Int) ≤ 0 ∧ (0 : Int) < 2147483648 := by omega
  exact lv_if_ge C.1 C.2.1 hdg ht (fun h => kt ((iI_le hr.2.2.1 hr.2.2.2 hr.1 hr.2.1).mp h) H locs ls hP hD hS hl) (fun h => kf (by have h2 : ¬ 0 ≤ a := fun q => h ((iI_le hr.2.2.1 hr.2.2.2 hr.1 hr.2.1).mpr q); omega) H locs ls hP hD hS hl)
theorem g_icmp_gt (t n' : Nat) (C : gC p s m args meth c cc nL own Ts E A) {a b off : Int} (hdg : decode cc pc = .ok (.if_icmp .gt off, 3)) (ht : (pc : Int) + off = (t : Int)) (hp : pc + 3 = n') (hr : -2147483648 ≤ a ∧ a < 2147483648 ∧ -2147483648 ≤ b ∧ b < 2147483648) (kt : b < a → gJ p l e R s m args below meth c cells slots Q E A nL ws lv t st) (kf : a ≤ b → gJ p l e R s m args below meth c cells slots Q E A nL ws lv n' st) : gJ p l e R s m args below meth c cells slots Q E A nL ws lv pc (.int (iI b) :: .int (iI a) :: st) := by
  intro H locs ls hP hD hS hl
  subst hp
  exact lv_icmp_gt C.1 C.2.1 hdg ht (fun h => kt ((iI_lt hr.2.2.1 hr.2.2.2 hr.1 hr.2.1).mp h) H locs ls hP hD hS hl) (fun h => kf (by have h2 : ¬ b < a := fun q => h ((iI_lt hr.2.2.1 hr.2.2.2 hr.1 hr.2.1).mpr q); omega) H locs ls hP hD hS hl)
theorem g_if_gt (t n' : Nat) (C : gC p s m args meth c cc nL own Ts E A) {a off : Int} (hdg : decode cc pc = .ok (.ifCond .gt off, 3)) (ht : (pc : Int) + off = (t : Int)) (hp : pc + 3 = n') (hq : -2147483648 ≤ a ∧ a < 2147483648) (kt : 0 < a → gJ p l e R s m args below meth c cells slots Q E A nL ws lv t st) (kf : a ≤ 0 → gJ p l e R s m args below meth c cells slots Q E A nL ws lv n' st) : gJ p l e R s m args below meth c cells slots Q E A nL ws lv pc (.int (iI a) :: st) := by
  intro H locs ls hP hD hS hl
  subst hp
  have hr : -2147483648 ≤ a ∧ a < 2147483648 ∧ (-2147483648 : Int) ≤ 0 ∧ (0 : Int) < 2147483648 := by omega
  exact lv_if_gt C.1 C.2.1 hdg ht (fun h => kt ((iI_lt hr.2.2.1 hr.2.2.2 hr.1 hr.2.1).mp h) H locs ls hP hD hS hl) (fun h => kf (by have h2 : ¬ 0 < a := fun q => h ((iI_lt hr.2.2.1 hr.2.2.2 hr.1 hr.2.1).mpr q); omega) H locs ls hP hD hS hl)
theorem g_icmp_le (t n' : Nat) (C : gC p s m args meth c cc nL own Ts E A) {a b off : Int} (hdg : decode cc pc = .ok (.if_icmp .le off, 3)) (ht : (pc : Int) + off = (t : Int)) (hp : pc + 3 = n') (hr : -2147483648 ≤ a ∧ a < 2147483648 ∧ -2147483648 ≤ b ∧ b < 2147483648) (kt : a ≤ b → gJ p l e R s m args below meth c cells slots Q E A nL ws lv t st) (kf : b < a → gJ p l e R s m args below meth c cells slots Q E A nL ws lv n' st) : gJ p l e R s m args below meth c cells slots Q E A nL ws lv pc (.int (iI b) :: .int (iI a) :: st) := by
  intro H locs ls hP hD hS hl
  subst hp
  exact lv_icmp_le C.1 C.2.1 hdg ht (fun h => kt ((iI_le hr.1 hr.2.1 hr.2.2.1 hr.2.2.2).mp h) H locs ls hP hD hS hl) (fun h => kf (by have h2 : ¬ a ≤ b := fun q => h ((iI_le hr.1 hr.2.1 hr.2.2.1 hr.2.2.2).mpr q); omega) H locs ls hP hD hS hl)
theorem g_if_le (t n' : Nat) (C : gC p s m args meth c cc nL own Ts E A) {a off : Int} (hdg : decode cc pc = .ok (.ifCond .le off, 3)) (ht : (pc : Int) + off = (t : Int)) (hp : pc + 3 = n') (hq : -2147483648 ≤ a ∧ a < 2147483648) (kt : a ≤ 0 → gJ p l e R s m args below meth c cells slots Q E A nL ws lv t st) (kf : 0 < a → gJ p l e R s m args below meth c cells slots Q E A nL ws lv n' st) : gJ p l e R s m args below meth c cells slots Q E A nL ws lv pc (.int (iI a) :: st) := by
  intro H locs ls hP hD hS hl
  subst hp
  have hr : -2147483648 ≤ a ∧ a < 2147483648 ∧ (-2147483648 : Int) ≤ 0 ∧ (0 : Int) < 2147483648 := by omega
  exact lv_if_le C.1 C.2.1 hdg ht (fun h => kt ((iI_le hr.1 hr.2.1 hr.2.2.1 hr.2.2.2).mp h) H locs ls hP hD hS hl) (fun h => kf (by have h2 : ¬ a ≤ 0 := fun q => h ((iI_le hr.1 hr.2.1 hr.2.2.1 hr.2.2.2).mpr q); omega) H locs ls hP hD hS hl)
theorem g_icmp_lt (t n' : Nat) (C : gC p s m args meth c cc nL own Ts E A) {a b off : Int} (hdg : decode cc pc = .ok (.if_icmp .lt off, 3)) (ht : (pc : Int) + off = (t : Int)) (hp : pc + 3 = n') (hr : -2147483648 ≤ a ∧ a < 2147483648 ∧ -2147483648 ≤ b ∧ b < 2147483648) (kt : a < b → gJ p l e R s m args below meth c cells slots Q E A nL ws lv t st) (kf : b ≤ a → gJ p l e R s m args below meth c cells slots Q E A nL ws lv n' st) : gJ p l e R s m args below meth c cells slots Q E A nL ws lv pc (.int (iI b) :: .int (iI a) :: st) := by
  intro H locs ls hP hD hS hl
  subst hp
  exact lv_icmp_lt C.1 C.2.1 hdg ht (fun h => kt ((iI_lt hr.1 hr.2.1 hr.2.2.1 hr.2.2.2).mp h) H locs ls hP hD hS hl) (fun h => kf (by have h2 : ¬ a < b := fun q => h ((iI_lt hr.1 hr.2.1 hr.2.2.1 hr.2.2.2).mpr q); omega) H locs ls hP hD hS hl)
theorem g_if_lt (t n' : Nat) (C : gC p s m args meth c cc nL own Ts E A) {a off : Int} (hdg : decode cc pc = .ok (.ifCond .lt off, 3)) (ht : (pc : Int) + off = (t : Int)) (hp : pc + 3 = n') (hq : -2147483648 ≤ a ∧ a < 2147483648) (kt : a < 0 → gJ p l e R s m args below meth c cells slots Q E A nL ws lv t st) (kf : 0 ≤ a → gJ p l e R s m args below meth c cells slots Q E A nL ws lv n' st) : gJ p l e R s m args below meth c cells slots Q E A nL ws lv pc (.int (iI a) :: st) := by
  intro H locs ls hP hD hS hl
  subst hp
  have hr : -2147483648 ≤ a ∧ a < 2147483648 ∧ (-2147483648 : Int) ≤ 0 ∧ (0 : Int) < 2147483648 := by omega
  exact lv_if_lt C.1 C.2.1 hdg ht (fun h => kt ((iI_lt hr.1 hr.2.1 hr.2.2.1 hr.2.2.2).mp h) H locs ls hP hD hS hl) (fun h => kf (by have h2 : ¬ a < 0 := fun q => h ((iI_lt hr.1 hr.2.1 hr.2.2.1 hr.2.2.2).mpr q); omega) H locs ls hP hD hS hl)
theorem g_icmp_eq (t n' : Nat) (C : gC p s m args meth c cc nL own Ts E A) {a b off : Int} (hdg : decode cc pc = .ok (.if_icmp .eq off, 3)) (ht : (pc : Int) + off = (t : Int)) (hp : pc + 3 = n') (hr : -2147483648 ≤ a ∧ a < 2147483648 ∧ -2147483648 ≤ b ∧ b < 2147483648) (kt : a = b → gJ p l e R s m args below meth c cells slots Q E A nL ws lv t st) (kf : a ≠ b → gJ p l e R s m args below meth c cells slots Q E A nL ws lv n' st) : gJ p l e R s m args below meth c cells slots Q E A nL ws lv pc (.int (iI b) :: .int (iI a) :: st) := by
  intro H locs ls hP hD hS hl
  subst hp
  exact lv_icmp_eq C.1 C.2.1 hdg ht (fun h => kt ((iI_inj hr.1 hr.2.1 hr.2.2.1 hr.2.2.2).mp h) H locs ls hP hD hS hl) (fun h => kf (fun q => h ((iI_inj hr.1 hr.2.1 hr.2.2.1 hr.2.2.2).mpr q)) H locs ls hP hD hS hl)
theorem g_if_eq (t n' : Nat) (C : gC p s m args meth c cc nL own Ts E A) {a off : Int} (hdg : decode cc pc = .ok (.ifCond .eq off, 3)) (ht : (pc : Int) + off = (t : Int)) (hp : pc + 3 = n') (hq : -2147483648 ≤ a ∧ a < 2147483648) (kt : a = 0 → gJ p l e R s m args below meth c cells slots Q E A nL ws lv t st) (kf : a ≠ 0 → gJ p l e R s m args below meth c cells slots Q E A nL ws lv n' st) : gJ p l e R s m args below meth c cells slots Q E A nL ws lv pc (.int (iI a) :: st) := by
  intro H locs ls hP hD hS hl
  subst hp
  have hr : -2147483648 ≤ a ∧ a < 2147483648 ∧ (-2147483648 : Int) ≤ 0 ∧ (0 : Int) < 2147483648 := by omega
  exact lv_if_eq C.1 C.2.1 hdg ht (fun h => kt ((iI_inj hr.1 hr.2.1 hr.2.2.1 hr.2.2.2).mp h) H locs ls hP hD hS hl) (fun h => kf (fun q => h ((iI_inj hr.1 hr.2.1 hr.2.2.1 hr.2.2.2).mpr q)) H locs ls hP hD hS hl)
theorem g_icmp_ne (t n' : Nat) (C : gC p s m args meth c cc nL own Ts E A) {a b off : Int} (hdg : decode cc pc = .ok (.if_icmp .ne off, 3)) (ht : (pc : Int) + off = (t : Int)) (hp : pc + 3 = n') (hr : -2147483648 ≤ a ∧ a < 2147483648 ∧ -2147483648 ≤ b ∧ b < 2147483648) (kt : a ≠ b → gJ p l e R s m args below meth c cells slots Q E A nL ws lv t st) (kf : a = b → gJ p l e R s m args below meth c cells slots Q E A nL ws lv n' st) : gJ p l e R s m args below meth c cells slots Q E A nL ws lv pc (.int (iI b) :: .int (iI a) :: st) := by
  intro H locs ls hP hD hS hl
  subst hp
  exact lv_icmp_ne C.1 C.2.1 hdg ht (fun h => kt (fun q => h ((iI_inj hr.1 hr.2.1 hr.2.2.1 hr.2.2.2).mpr q)) H locs ls hP hD hS hl) (fun h => kf ((iI_inj hr.1 hr.2.1 hr.2.2.1 hr.2.2.2).mp h) H locs ls hP hD hS hl)
theorem g_if_ne (t n' : Nat) (C : gC p s m args meth c cc nL own Ts E A) {a off : Int} (hdg : decode cc pc = .ok (.ifCond .ne off, 3)) (ht : (pc : Int) + off = (t : Int)) (hp : pc + 3 = n') (hq : -2147483648 ≤ a ∧ a < 2147483648) (kt : a ≠ 0 → gJ p l e R s m args below meth c cells slots Q E A nL ws lv t st) (kf : a = 0 → gJ p l e R s m args below meth c cells slots Q E A nL ws lv n' st) : gJ p l e R s m args below meth c cells slots Q E A nL ws lv pc (.int (iI a) :: st) := by
  intro H locs ls hP hD hS hl
  subst hp
  have hr : -2147483648 ≤ a ∧ a < 2147483648 ∧ (-2147483648 : Int) ≤ 0 ∧ (0 : Int) < 2147483648 := by omega
  exact lv_if_ne C.1 C.2.1 hdg ht (fun h => kt (fun q => h ((iI_inj hr.1 hr.2.1 hr.2.2.1 hr.2.2.2).mpr q)) H locs ls hP hD hS hl) (fun h => kf ((iI_inj hr.1 hr.2.1 hr.2.2.1 hr.2.2.2).mp h) H locs ls hP hD hS hl)
theorem g_ifb_eq (t n' : Nat) (C : gC p s m args meth c cc nL own Ts E A) {P : Prop} {inst : Decidable P} {off : Int} (hdg : decode cc pc = .ok (.ifCond .eq off, 3)) (ht : (pc : Int) + off = (t : Int)) (hp : pc + 3 = n') (kt : ¬ P → gJ p l e R s m args below meth c cells slots Q E A nL ws lv t st) (kf : P → gJ p l e R s m args below meth c cells slots Q E A nL ws lv n' st) : gJ p l e R s m args below meth c cells slots Q E A nL ws lv pc (.int (iI (if P then 1 else 0)) :: st) := by
  by_cases h : P
  · rw [if_pos h]
    exact g_if_eq t n' C hdg ht hp ⟨by decide, by decide⟩ (fun q => absurd q (by decide)) (fun _ => kf h)
  · rw [if_neg h]
    exact g_if_eq t n' C hdg ht hp ⟨by decide, by decide⟩ (fun _ => kt h) (fun q => absurd rfl q)
theorem g_ifb_ne (t n' : Nat) (C : gC p s m args meth c cc nL own Ts E A) {P : Prop} {inst : Decidable P} {off : Int} (hdg : decode cc pc = .ok (.ifCond .ne off, 3)) (ht : (pc : Int) + off = (t : Int)) (hp : pc + 3 = n') (kt : P → gJ p l e R s m args below meth c cells slots Q E A nL ws lv t st) (kf : ¬ P → gJ p l e R s m args below meth c cells slots Q E A nL ws lv n' st) : gJ p l e R s m args below meth c cells slots Q E A nL ws lv pc (.int (iI (if P then 1 else 0)) :: st) := by
  by_cases h : P
  · rw [if_pos h]
    exact g_if_ne t n' C hdg ht hp ⟨by decide, by decide⟩ (fun _ => kt h) (fun q => absurd q (by decide))
  · rw [if_neg h]
    exact g_if_ne t n' C hdg ht hp ⟨by decide, by decide⟩ (fun q => absurd rfl q) (fun _ => kf h)
theorem g_cmpv {a b : Int} (hr : -9223372036854775808 ≤ a ∧ a < 9223372036854775808 ∧ -9223372036854775808 ≤ b ∧ b < 9223372036854775808) : lg_cmp (lI a) (lI b) = iI (if b < a then 1 else if a = b then 0 else -1) := by
  unfold lg_cmp
  by_cases h1 : b < a
  · rw [if_pos h1, if_pos ((lI_lt hr.2.2.1 hr.2.2.2 hr.1 hr.2.1).mpr h1)]; rfl
  · rw [if_neg h1, if_neg (fun q => h1 ((lI_lt hr.2.2.1 hr.2.2.2 hr.1 hr.2.1).mp q))]
    by_cases h2 : a = b
    · rw [if_pos h2, if_pos (by rw [h2])]; rfl
    · rw [if_neg h2, if_neg (fun q => h2 ((lI_inj hr.1 hr.2.1 hr.2.2.1 hr.2.2.2).mp q))]; rfl
theorem g_lcmp (n' : Nat) (C : gC p s m args meth c cc nL own Ts E A) {a b : Int} (hdg : decode cc pc = .ok (.lcmp, 1)) (hp : pc + 1 = n') (hr : -9223372036854775808 ≤ a ∧ a < 9223372036854775808 ∧ -9223372036854775808 ≤ b ∧ b < 9223372036854775808) (kk : ∀ z : Int, z = (if b < a then 1 else if a = b then 0 else -1) → gJ p l e R s m args below meth c cells slots Q E A nL ws lv n' (.int (iI z) :: st)) : gJ p l e R s m args below meth c cells slots Q E A nL ws lv pc (.long (lI b) :: .long (lI a) :: st) := by
  intro H locs ls hP hD hS hl
  subst hp
  exact W.lcmp C.1 C.2.1 hdg (by rw [g_cmpv hr]; exact kk _ rfl H locs ls hP hD hS hl)
/-- lcmp and the branch behind it -/
theorem g_lc_ge (n1 t n' : Nat) (C : gC p s m args meth c cc nL own Ts E A) {a b off : Int} (hdg0 : decode cc pc = .ok (.lcmp, 1)) (hp0 : pc + 1 = n1) (hdg : decode cc n1 = .ok (.ifCond .ge off, 3)) (ht : (n1 : Int) + off = (t : Int)) (hp : n1 + 3 = n') (hr : -9223372036854775808 ≤ a ∧ a < 9223372036854775808 ∧ -9223372036854775808 ≤ b ∧ b < 9223372036854775808) (kt : b ≤ a → gJ p l e R s m args below meth c cells slots Q E A nL ws lv t st) (kf : a < b → gJ p l e R s m args below meth c cells slots Q E A nL ws lv n' st) : gJ p l e R s m args below meth c cells slots Q E A nL ws lv pc (.long (lI b) :: .long (lI a) :: st) := by
  refine g_lcmp n1 C hdg0 hp0 hr (fun z hz => ?_)
  have hz2 : (b < a ∧ z = 1) ∨ (a = b ∧ z = 0) ∨ (a < b ∧ z = -1) := by
    by_cases h1 : b < a
    · rw [if_pos h1] at hz; exact Or.inl ⟨h1, hz⟩
    · rw [if_neg h1] at hz
      by_cases h2 : a = b
      · rw [if_pos h2] at hz; exact Or.inr (Or.inl ⟨h2, hz⟩)
      · rw [if_neg h2] at hz; exact Or.inr (Or.inr ⟨by omega, hz⟩)
  exact g_if_ge t n' C hdg ht hp (by omega) (fun h => kt (by omega)) (fun h => kf (by omega))
/-- lcmp and the branch behind it -/
theorem g_lc_gt (n1 t n' : Nat) (C : gC p s m args meth c cc nL own Ts E A) {a b off : Int} (hdg0 : decode cc pc = .ok (.lcmp, 1)) (hp0 : pc + 1 = n1) (hdg : decode cc n1 = .ok (.ifCond .gt off, 3)) (ht : (n1 : Int) + off = (t : Int)) (hp : n1 + 3 = n') (hr : -9223372036854775808 ≤ a ∧ a < 9223372036854775808 ∧ -9223372036854775808 ≤ b ∧ b < 9223372036854775808) (kt : b < a → gJ p l e R s m args below meth c cells slots Q E A nL ws lv t st) (kf : a ≤ b → gJ p l e R s m args below meth c cells slots Q E A nL ws lv n' st) : gJ p l e R s m args below meth c cells slots Q E A nL ws lv pc (.long (lI b) :: .long (lI a) :: st) := by
  refine g_lcmp n1 C hdg0 hp0 hr (fun z hz => ?_)
  have hz2 : (b < a ∧ z = 1) ∨ (a = b ∧ z = 0) ∨ (a < b ∧ z = -1) := by
    by_cases h1 : b < a
    · rw [if_pos h1] at hz; exact Or.inl ⟨h1, hz⟩
    · rw [if_neg h1] at hz
      by_cases h2 : a = b
      · rw [if_pos h2] at hz; exact Or.inr (Or.inl ⟨h2, hz⟩)
      · rw [if_neg h2] at hz; exact Or.inr (Or.inr ⟨by omega, hz⟩)
  exact g_if_gt t n' C hdg ht hp (by omega) (fun h => kt (by omega)) (fun h => kf (by omega))
/-- lcmp and the branch behind it -/
theorem g_lc_le (n1 t n' : Nat) (C : gC p s m args meth c cc nL own Ts E A) {a b off : Int} (hdg0 : decode cc pc = .ok (.lcmp, 1)) (hp0 : pc + 1 = n1) (hdg : decode cc n1 = .ok (.ifCond .le off, 3)) (ht : (n1 : Int) + off = (t : Int)) (hp : n1 + 3 = n') (hr : -9223372036854775808 ≤ a ∧ a < 9223372036854775808 ∧ -9223372036854775808 ≤ b ∧ b < 9223372036854775808) (kt : a ≤ b → gJ p l e R s m args below meth c cells slots Q E A nL ws lv t st) (kf : b < a → gJ p l e R s m args below meth c cells slots Q E A nL ws lv n' st) : gJ p l e R s m args below meth c cells slots Q E A nL ws lv pc (.long (lI b) :: .long (lI a) :: st) := by
  refine g_lcmp n1 C hdg0 hp0 hr (fun z hz => ?_)
  have hz2 : (b < a ∧ z = 1) ∨ (a = b ∧ z = 0) ∨ (a < b ∧ z = -1) := by
    by_cases h1 : b < a
    · rw [if_pos h1] at hz; exact Or.inl ⟨h1, hz⟩
    · rw [if_neg h1] at hz
      by_cases h2 : a = b
      · rw [if_pos h2] at hz; exact Or.inr (Or.inl ⟨h2, hz⟩)
      · rw [if_neg h2] at hz; exact Or.inr (Or.inr ⟨by omega, hz⟩)
  exact g_if_le t n' C hdg ht hp (by omega) (fun h => kt (by omega)) (fun h => kf (by omega))
/-- lcmp and the branch behind it -/
theorem g_lc_lt (n1 t n' : Nat) (C : gC p s m args meth c cc nL own Ts E A) {a b off : Int} (hdg0 : decode cc pc = .ok (.lcmp, 1)) (hp0 : pc + 1 = n1) (hdg : decode cc n1 = .ok (.ifCond .lt off, 3)) (ht : (n1 : Int) + off = (t : Int)) (hp : n1 + 3 = n') (hr : -9223372036854775808 ≤ a ∧ a < 9223372036854775808 ∧ -9223372036854775808 ≤ b ∧ b < 9223372036854775808) (kt : a < b → gJ p l e R s m args below meth c cells slots Q E A nL ws lv t st) (kf : b ≤ a → gJ p l e R s m args below meth c cells slots Q E A nL ws lv n' st) : gJ p l e R s m args below meth c cells slots Q E A nL ws lv pc (.long (lI b) :: .long (lI a) :: st) := by
  refine g_lcmp n1 C hdg0 hp0 hr (fun z hz => ?_)
  have hz2 : (b < a ∧ z = 1) ∨ (a = b ∧ z = 0) ∨ (a < b ∧ z = -1) := by
    by_cases h1 : b < a
    · rw [if_pos h1] at hz; exact Or.inl ⟨h1, hz⟩
    · rw [if_neg h1] at hz
      by_cases h2 : a = b
      · rw [if_pos h2] at hz; exact Or.inr (Or.inl ⟨h2, hz⟩)
      · rw [if_neg h2] at hz; exact Or.inr (Or.inr ⟨by omega, hz⟩)
  exact g_if_lt t n' C hdg ht hp (by omega) (fun h => kt (by omega)) (fun h => kf (by omega))
/-- lcmp and the branch behind it -/
theorem g_lc_eq (n1 t n' : Nat) (C : gC p s m args meth c cc nL own Ts E A) {a b off : Int} (hdg0 : decode cc pc = .ok (.lcmp, 1)) (hp0 : pc + 1 = n1) (hdg : decode cc n1 = .ok (.ifCond .eq off, 3)) (ht : (n1 : Int) + off = (t : Int)) (hp : n1 + 3 = n') (hr : -9223372036854775808 ≤ a ∧ a < 9223372036854775808 ∧ -9223372036854775808 ≤ b ∧ b < 9223372036854775808) (kt : a = b → gJ p l e R s m args below meth c cells slots Q E A nL ws lv t st) (kf : a ≠ b → gJ p l e R s m args below meth c cells slots Q E A nL ws lv n' st) : gJ p l e R s m args below meth c cells slots Q E A nL ws lv pc (.long (lI b) :: .long (lI a) :: st) := by
  refine g_lcmp n1 C hdg0 hp0 hr (fun z hz => ?_)
  have hz2 : (b < a ∧ z = 1) ∨ (a = b ∧ z = 0) ∨ (a < b ∧ z = -1) := by
    by_cases h1 : b < a
    · rw [if_pos h1] at hz; exact Or.inl ⟨h1, hz⟩
    · rw [if_neg h1] at hz
      by_cases h2 : a = b
      · rw [if_pos h2] at hz; exact Or.inr (Or.inl ⟨h2, hz⟩)
      · rw [if_neg h2] at hz; exact Or.inr (Or.inr ⟨by omega, hz⟩)
  exact g_if_eq t n' C hdg ht hp (by omega) (fun h => kt (by omega)) (fun h => kf (by omega))
/-- lcmp and the branch behind it -/
theorem g_lc_ne (n1 t n' : Nat) (C : gC p s m args meth c cc nL own Ts E A) {a b off : Int} (hdg0 : decode cc pc = .ok (.lcmp, 1)) (hp0 : pc + 1 = n1) (hdg : decode cc n1 = .ok (.ifCond .ne off, 3)) (ht : (n1 : Int) + off = (t : Int)) (hp : n1 + 3 = n') (hr : -9223372036854775808 ≤ a ∧ a < 9223372036854775808 ∧ -9223372036854775808 ≤ b ∧ b < 9223372036854775808) (kt : a ≠ b → gJ p l e R s m args below meth c cells slots Q E A nL ws lv t st) (kf : a = b → gJ p l e R s m args below meth c cells slots Q E A nL ws lv n' st) : gJ p l e R s m args below meth c cells slots Q E A nL ws lv pc (.long (lI b) :: .long (lI a) :: st) := by
  refine g_lcmp n1 C hdg0 hp0 hr (fun z hz => ?_)
  have hz2 : (b < a ∧ z = 1) ∨ (a = b ∧ z = 0) ∨ (a < b ∧ z = -1) := by
    by_cases h1 : b < a
    · rw [if_pos h1] at hz; exact Or.inl ⟨h1, hz⟩
    · rw [if_neg h1] at hz
      by_cases h2 : a = b
      · rw [if_pos h2] at hz; exact Or.inr (Or.inl ⟨h2, hz⟩)
      · rw [if_neg h2] at hz; exact Or.inr (Or.inr ⟨by omega, hz⟩)
  exact g_if_ne t n' C hdg ht hp (by omega) (fun h => kt (by omega)) (fun h => kf (by omega))
-- fields
theorem g_get (n' : Nat) (C : gC p s m args meth c cc nL own Ts E A) (q k ci : Nat) {Cn : String} {T : u_T} {N index : Nat} {a : Nat} {fs : List Value} {v : Value} (hin : ∀ w ∈ u_ws Cn T N, w ∈ Ts) (hm : Cond.fieldLink own index (T k).1 (T k).2.1 (T k).2.2.1 ∈ Ts) (hdg : decode cc pc = .ok (.getfield index, 3)) (hp : pc + 3 = n') (he : ws[q]? = some (a, .inr (ci, fs))) (hc : vwCl[ci]? = some (Cn, T, N)) (hk : k < N) (hv : fs[k]? = some v) (kk : gJ p l e R s m args below meth c cells slots Q E A nL ws lv n' (v :: st)) : gJ p l e R s m args below meth c cells slots Q E A nL ws lv pc (.ref a :: st) := by
  intro H locs ls hP hD hS hl
  subst hp
  exact va_get C.1 C.2.1 C.2.2.2.2.1 hin C.2.2.2.1 C.2.2.2.2.2.1.1 hP q he hc k hk (C.2.2.2.2.1 _ hm) (fun _ h => h) hv hdg (kk H locs ls hP hD hS hl)
theorem g_put (n' : Nat) (C : gC p s m args meth c cc nL own Ts E A) (q k ci : Nat) {Cn : String} {T : u_T} {N index : Nat} {a : Nat} {fs : List Value} {v : Value} {ws' : va_W} (ty0 : Nat → FieldType) (hty : ∀ k, k < N → parseFieldDescriptor (T k).2.2.1 = some (ty0 k)) (hnm : ∀ a, a < N → ∀ b, b < N → a ≠ b → (T a).2.1 ≠ (T b).2.1) (hin : ∀ w ∈ u_ws Cn T N, w ∈ Ts) (hm : Cond.fieldLink own index (T k).1 (T k).2.1 (T k).2.2.1 ∈ Ts) (hdg : decode cc pc = .ok (.putfield index, 3)) (hp : pc + 3 = n') (he : ws[q]? = some (a, .inr (ci, fs))) (hc : vwCl[ci]? = some (Cn, T, N)) (hk : k < N) (hfin : (T k).2.2.2 = false) (hnr : narrow (ty0 k) v = v) (hfit : fits (ty0 k) v = true) (hl0 : k < fs.length) (hw : ws.set q (a, .inr (ci, fs.set k v)) = ws') (kk : gJ p l e R s m args below meth c cells slots Q E A nL ws' lv n' st) : gJ p l e R s m args below meth c cells slots Q E A nL ws lv pc (v :: .ref a :: st) := by
  intro H locs ls hP hD hS hl
  subst hp
  subst hw
  exact va_put C.1 C.2.1 C.2.2.2.2.1 hin ty0 hty hnm C.2.2.2.1 C.2.2.2.2.2.1.1 hP hD hS q he hc k hk (C.2.2.2.2.1 _ hm) (fun _ h => h) hfin (hty k hk) hnr hfit hl0 hdg (fun H1 locs1 hP hD hS => kk H1 locs1 ls hP hD hS hl)
theorem g_putF (n' : Nat) (C : gC p s m args meth c cc nL own Ts E A) (q k ci : Nat) {Cn : String} {T : u_T} {N index : Nat} {a : Nat} {fs : List Value} {v : Value} {ws' : va_W} (ty0 : Nat → FieldType) (hty : ∀ k, k < N → parseFieldDescriptor (T k).2.2.1 = some (ty0 k)) (hnm : ∀ a, a < N → ∀ b, b < N → a ≠ b → (T a).2.1 ≠ (T b).2.1) (hin : ∀ w ∈ u_ws Cn T N, w ∈ Ts) (hm : Cond.fieldLink own index (T k).1 (T k).2.1 (T k).2.2.1 ∈ Ts) (hnin : meth.name = "<init>") (hdecl : (T k).1 = own) (hdg : decode cc pc = .ok (.putfield index, 3)) (hp : pc + 3 = n') (he : ws[q]? = some (a, .inr (ci, fs))) (hc : vwCl[ci]? = some (Cn, T, N)) (hk : k < N) (hfin : (T k).2.2.2 = true) (hnr : narrow (ty0 k) v = v) (hfit : fits (ty0 k) v = true) (hl0 : k < fs.length) (hw : ws.set q (a, .inr (ci, fs.set k v)) = ws') (kk : gJ p l e R s m args below meth c cells slots Q E A nL ws' lv n' st) : gJ p l e R s m args below meth c cells slots Q E A nL ws lv pc (v :: .ref a :: st) := by
  intro H locs ls hP hD hS hl
  subst hp
  subst hw
  exact va_putF C.1 C.2.1 C.2.2.2.2.1 hin ty0 hty hnm C.2.2.2.1 C.2.2.2.2.2.1.1 hP hD hS q he hc k hk (C.2.2.2.2.1 _ hm) (fun _ h => h) hfin hnin hdecl (hty k hk) hnr hfit hl0 hdg (fun H1 locs1 hP hD hS => kk H1 locs1 ls hP hD hS hl)
-- rows
theorem g_rd {z : Int} (h0 : 0 ≤ z) (h1 : z < 2147483648) : (((iI z).toNatClampNeg : Nat) : Int) = z := by
  rw [iI_clamp h0 h1, Int.toNat_of_nonneg h0]
theorem g_wr (f : Int → Int) {z v : Int} (h0 : 0 ≤ z) (h1 : z < 2147483648) : upd (fun k : Nat => iI (f (k : Int))) (iI z).toNatClampNeg (iI v) = fun k : Nat => iI (uI f z v (k : Int)) := by
  funext k
  rw [iI_clamp h0 h1]
  unfold upd uI
  by_cases h : k = z.toNat
  · rw [if_pos h, if_pos (by omega)]
  · rw [if_neg h, if_neg (by omega)]
theorem g_iaload (n' : Nat) (C : gC p s m args meth c cc nL own Ts E A) (q : Nat) {a n : Nat} {f : Int → Int} {z : Int} (hdg : decode cc pc = .ok (.iaload, 1)) (hp : pc + 1 = n') (he : ws[q]? = some (a, aI E n f)) (hz : 0 ≤ z ∧ z < n ∧ n < 2147483648) (kk : gJ p l e R s m args below meth c cells slots Q E A nL ws lv n' (.int (iI (f z)) :: st)) : gJ p l e R s m args below meth c cells slots Q E A nL ws lv pc (.int (iI z) :: .ref a :: st) := by
  intro H locs ls hP hD hS hl
  subst hp
  exact va_iald C.1 C.2.1 C.2.2.2.2.2.1.1 hP q 0 he rfl (iI_in hz.1 hz.2.1 hz.2.2) hdg (by rw [g_rd hz.1 (by omega)]; exact kk H locs ls hP hD hS hl)
theorem g_baload (n' : Nat) (C : gC p s m args meth c cc nL own Ts E A) (q : Nat) {a n : Nat} {f : Int → Int} {z : Int} (hdg : decode cc pc = .ok (.baload, 1)) (hp : pc + 1 = n') (he : ws[q]? = some (a, aZ E n f)) (hz : 0 ≤ z ∧ z < n ∧ n < 2147483648) (kk : gJ p l e R s m args below meth c cells slots Q E A nL ws lv n' (.int (iI (f z)) :: st)) : gJ p l e R s m args below meth c cells slots Q E A nL ws lv pc (.int (iI z) :: .ref a :: st) := by
  intro H locs ls hP hD hS hl
  subst hp
  exact va_zald C.1 C.2.1 C.2.2.2.2.2.1.1 hP q 1 he rfl (iI_in hz.1 hz.2.1 hz.2.2) hdg (by rw [g_rd hz.1 (by omega)]; exact kk H locs ls hP hD hS hl)
theorem g_iastore (n' : Nat) (C : gC p s m args meth c cc nL own Ts E A) (q : Nat) {a n : Nat} {f : Int → Int} {z v : Int} {ws' : va_W} (hdg : decode cc pc = .ok (.iastore, 1)) (hp : pc + 1 = n') (he : ws[q]? = some (a, aI E n f)) (hz : 0 ≤ z ∧ z < n ∧ n < 2147483648) (hw : ws.set q (a, aI E n (uI f z v)) = ws') (kk : gJ p l e R s m args below meth c cells slots Q E A nL ws' lv n' st) : gJ p l e R s m args below meth c cells slots Q E A nL ws lv pc (.int (iI v) :: .int (iI z) :: .ref a :: st) := by
  intro H locs ls hP hD hS hl
  subst hp
  subst hw
  refine va_iast C.1 C.2.1 C.2.2.2.2.2.1.1 hP hD hS q 0 he rfl (iI_in hz.1 hz.2.1 hz.2.2) hdg (fun H1 locs1 hP hD hS => ?_)
  rw [g_wr f hz.1 (by omega)] at hP hD
  exact kk H1 locs1 ls hP hD hS hl
theorem g_bastore (n' : Nat) (C : gC p s m args meth c cc nL own Ts E A) (q : Nat) {a n : Nat} {f : Int → Int} {z v : Int} {ws' : va_W} (hdg : decode cc pc = .ok (.bastore, 1)) (hp : pc + 1 = n') (he : ws[q]? = some (a, aZ E n f)) (hz : 0 ≤ z ∧ z < n ∧ n < 2147483648) (hv : vp_nar .boolean (iI v) = iI v) (hw : ws.set q (a, aZ E n (uI f z v)) = ws') (kk : gJ p l e R s m args below meth c cells slots Q E A nL ws' lv n' st) : gJ p l e R s m args below meth c cells slots Q E A nL ws lv pc (.int (iI v) :: .int (iI z) :: .ref a :: st) := by
  intro H locs ls hP hD hS hl
  subst hp
  subst hw
  refine va_zast C.1 C.2.1 C.2.2.2.2.2.1.1 hP hD hS q 1 he rfl (iI_in hz.1 hz.2.1 hz.2.2) hdg (fun H1 locs1 hP hD hS => ?_)
  rw [hv, g_wr f hz.1 (by omega)] at hP hD
  exact kk H1 locs1 ls hP hD hS hl
theorem g_alenI (n' : Nat) (C : gC p s m args meth c cc nL own Ts E A) (q : Nat) {a n : Nat} {f : Int → Int} (hdg : decode cc pc = .ok (.arraylength, 1)) (hp : pc + 1 = n') (he : ws[q]? = some (a, aI E n f)) (kk : gJ p l e R s m args below meth c cells slots Q E A nL ws lv n' (.int (iI n) :: st)) : gJ p l e R s m args below meth c cells slots Q E A nL ws lv pc (.ref a :: st) := by
  intro H locs ls hP hD hS hl
  subst hp
  exact va_alen C.1 C.2.1 C.2.2.2.2.2.1.1 hP q 0 he (ty := .int) rfl (v := iI n) rfl hdg (kk H locs ls hP hD hS hl)
theorem g_aaload (n' : Nat) (C : gC p s m args meth c cc nL own Ts E A) (q : Nat) {a n b : Nat} {f : Int → Option Nat} {z : Int} (hdg : decode cc pc = .ok (.aaload, 1)) (hp : pc + 1 = n') (he : ws[q]? = some (a, aQ E n f)) (hz : 0 ≤ z ∧ z < n ∧ n < 2147483648) (hb : f z = some b) (kk : gJ p l e R s m args below meth c cells slots Q E A nL ws lv n' (.ref b :: st)) : gJ p l e R s m args below meth c cells slots Q E A nL ws lv pc (.int (iI z) :: .ref a :: st) := by
  intro H locs ls hP hD hS hl
  subst hp
  refine va_aldq C.1 C.2.1 C.2.2.2.2.2.1.1 hP q 2 he rfl (iI_in hz.1 hz.2.1 hz.2.2) hdg ?_
  rw [g_rd hz.1 (by omega), hb]
  exact kk H locs ls hP hD hS hl
end GL
end
section
section GL
variable {p : Program} {l : Launch} {e : Env} {R : Room} {s : State} {m : MethodId} {args : Array Value} {below : List Frame} {meth : Method} {c : Code} {cells slots : Nat} {Q : State → Prop} {E : gE} {A : Nat → Prop} {nL : Nat} {ws : va_W} {lv : List (Nat × Value)} {pc : Nat} {st : List Value} {cc : ByteArray} {own : String} {Ts : List Cond}
def gPut : va_W → List Nat → va_W → va_W
  | ws, [], _ => ws
  | ws, _ :: _, [] => ws
  | ws, i :: is, x :: xs => gPut (ws.set i x) is xs
theorem gPut_ne : ∀ (is : List Nat) (ws xs : va_W) (k : Nat), k ∉ is → (gPut ws is xs)[k]? = ws[k]?
  | [], ws, xs, k, _ => by unfold gPut; rfl
  | i :: is, ws, [], k, _ => by unfold gPut; rfl
  | i :: is, ws, x :: xs, k, h => by
    unfold gPut
    rw [gPut_ne is (ws.set i x) xs k (fun q => h (List.mem_cons_of_mem _ q)), List.getElem?_set_ne (fun q : i = k => h (by rw [← q]; exact List.mem_cons_self))]
theorem gPut_eq : ∀ (is : List Nat) (ws xs : va_W) (j k : Nat) (x : Nat × va_E), va_nd is = true → (∀ i ∈ is, i < ws.length) → is[j]? = some k → xs[j]? = some x → (gPut ws is xs)[k]? = some x
  | [], ws, xs, j, k, x, _, _, h, _ => by simp at h
  | i :: is, ws, [], j, k, x, _, _, _, h => by simp at h
  | i :: is, ws, y :: ys, j, k, x, hn, hl, h1, h2 => by
    simp only [va_nd, Bool.and_eq_true, decide_eq_true_eq] at hn
    unfold gPut
    cases j with
    | zero =>
      rw [List.getElem?_cons_zero] at h1 h2
      cases h1
      cases h2
      rw [gPut_ne is _ ys i hn.1, List.getElem?_set_self (hl i List.mem_cons_self)]
    | succ j =>
      rw [List.getElem?_cons_succ] at h1 h2
      exact gPut_eq is _ ys j k x hn.2 (fun q hq => by rw [List.length_set]; exact hl q (List.mem_cons_of_mem _ hq)) h1 h2
theorem gPut_len : ∀ (is : List Nat) (ws xs : va_W), (gPut ws is xs).length = ws.length
  | [], ws, xs => by unfold gPut; rfl
  | i :: is, ws, [] => by unfold gPut; rfl
  | i :: is, ws, x :: xs => by unfold gPut; rw [gPut_len is _ xs, List.length_set]
theorem g_cut {wc : va_W} {cu : List Nat} (hcut : cu.map (fun i => ws[i]?) = wc.map some) {j : Nat} {q : Nat × va_E} (h : wc[j]? = some q) : ∃ i, cu[j]? = some i ∧ ws[i]? = some q := by
  have h1 : (cu.map (fun i => ws[i]?))[j]? = some (some q) := by rw [hcut, List.getElem?_map, h]; rfl
  rw [List.getElem?_map] at h1
  cases hi : cu[j]? with
  | none => rw [hi] at h1; cases h1
  | some i => rw [hi] at h1; exact ⟨i, rfl, Option.some.inj h1⟩
theorem g_cutr {wc : va_W} {cu : List Nat} (hcut : cu.map (fun i => ws[i]?) = wc.map some) {j i : Nat} (h : cu[j]? = some i) : ∃ q, wc[j]? = some q ∧ ws[i]? = some q := by
  have h1 : (cu.map (fun i => ws[i]?))[j]? = some (ws[i]?) := by rw [List.getElem?_map, h]; rfl
  rw [hcut, List.getElem?_map] at h1
  cases hq : wc[j]? with
  | none => rw [hq] at h1; cases h1
  | some q => rw [hq] at h1; exact ⟨q, rfl, (Option.some.inj h1).symm⟩
theorem g_subP {H : Heap} {wc : va_W} {cu : List Nat} (hcut : cu.map (fun i => ws[i]?) = wc.map some) (hP : va_P E.1 vwCl ws H) : va_P E.1 vwCl wc H := by
  intro j q hq
  obtain ⟨i, -, hi⟩ := g_cut hcut hq
  exact hP i q hi
/-- the world behind a call that made no cells -/
theorem g_world {H H1 : Heap} {wc w : va_W} {cu : List Nat} (hP : va_P E.1 vwCl ws H) (hD : va_D A ws) (hcut : cu.map (fun i => ws[i]?) = wc.map some) (hnd : va_nd cu = true) (had : w.map Prod.fst = wc.map Prod.fst) (hk : ∀ q : Nat, q < H.size → ¬ va_A wc H.size q → H1[q]? = H[q]?) (hP1 : va_P E.1 vwCl w H1) : va_P E.1 vwCl (gPut ws cu w) H1 ∧ va_D A (gPut ws cu w) := by
  have hlt : ∀ i ∈ cu, i < ws.length := fun i hi => by
    obtain ⟨j, hj⟩ := List.getElem?_of_mem hi
    obtain ⟨q, -, h⟩ := g_cutr hcut hj
    exact (List.getElem?_eq_some_iff.mp h).1
  have hwl : w.length = wc.length := by
    have := congrArg List.length had
    simpa using this
  have hwa : ∀ (j : Nat) (q r : Nat × va_E), w[j]? = some q → wc[j]? = some r → q.1 = r.1 := fun j q r h1 h2 => by
    have h3 := congrArg (fun z => z[j]?) had
    simp only [List.getElem?_map, h1, h2, Option.map_some] at h3
    exact Option.some.inj h3
  -- each cell of the new world: a cell of w, or one that stayed
  have key : ∀ (k : Nat) (q : Nat × va_E), (gPut ws cu w)[k]? = some q → ∃ q0, ws[k]? = some q0 ∧ q0.1 = q.1 ∧ ((∃ j : Nat, cu[j]? = some k ∧ w[j]? = some q) ∨ (k ∉ cu ∧ q0 = q)) := by
    intro k q hq
    by_cases hkc : k ∈ cu
    · obtain ⟨j, hj⟩ := List.getElem?_of_mem hkc
      obtain ⟨r, hr1, hr2⟩ := g_cutr hcut hj
      have hjl : j < w.length := by rw [hwl]; exact (List.getElem?_eq_some_iff.mp hr1).1
      have hx : w[j]? = some w[j] := List.getElem?_eq_getElem hjl
      have h2 := gPut_eq cu ws w j k w[j] hnd hlt hj hx
      rw [hq] at h2
      cases h2
      exact ⟨r, hr2, (hwa j _ _ hx hr1).symm, Or.inl ⟨j, hj, hx⟩⟩
    · rw [gPut_ne cu ws w k hkc] at hq
      exact ⟨q, hq, rfl, Or.inr ⟨hkc, rfl⟩⟩
  refine ⟨fun k q hq => ?_, fun i j x y hi hj hxy => ?_, fun k q hq => ?_⟩
  · obtain ⟨q0, h0, h1, h2⟩ := key k q hq
    rcases h2 with ⟨j, -, hw⟩ | ⟨hkc, rfl⟩
    · exact hP1 j q hw
    · refine (hP k q0 h0).kept (hk q0.1 (hP k q0 h0).lt (fun z => ?_))
      rcases z with ⟨j, e, hz⟩ | hz
      · obtain ⟨i, hi1, hi2⟩ := g_cut hcut hz
        have := hD.1 k i q0 (q0.1, e) h0 hi2 rfl
        subst this
        exact hkc (List.mem_of_getElem? hi1)
      · exact absurd (hP k q0 h0).lt (Nat.not_lt.mpr hz)
  · obtain ⟨x0, a1, a2, -⟩ := key i x hi
    obtain ⟨y0, b1, b2, -⟩ := key j y hj
    exact hD.1 i j x0 y0 a1 b1 (a2.trans (hxy.trans b2.symm))
  · obtain ⟨q0, h0, h1, -⟩ := key k q hq
    rw [← h1]
    exact hD.2 k q0 h0
/-- behind a run that made no cells -/
theorem g_back {mc ms : Nat} {wc : va_W} {post : Option Value → va_W → Prop} {a : Array Value} {rest : List Value} (n' : Nat) (cu : List Nat) (C : gC p s m args meth c cc nL own Ts E A) (hp : pc + 3 = n') (hcut : cu.map (fun i => ws[i]?) = wc.map some) (hnd : va_nd cu = true) (had : ∀ v w, post v w → w.map Prod.fst = wc.map Prod.fst)
    (run : ∀ (H : Heap) (locs : List Loc) (ls : Array Slot), va_P E.1 vwCl ws H → va_D A ws → lv_has ls nL lv → va_Run p l e R s m args below meth c H locs cells slots mc ms (F0 m pc ls st) rest (gPost E (va_A wc H.size) post a) (va_A wc H.size))
    (kk : ∀ v w, post v w → gJ p l e R s m args below meth c (cells + mc) (slots + ms) Q E A nL (gPut ws cu w) lv n' (v.toList ++ rest)) : gJ p l e R s m args below meth c cells slots Q E A nL ws lv pc st := by
  intro H locs ls hP hD hS hl
  subst hp
  intro T hT X
  obtain ⟨v, st₀, t, T', L, h0, X', hL, e1, e2, ⟨⟨v', w, hv, hpost, hPw, hKw, hDw⟩, hz, hk⟩, st⟩ := run H locs ls hP hD hl T hT X
  cases hv
  rw [h0] at hz hk
  rw [← e1] at hz hk hPw
  have hF := va_free hD hS C.2.2.2.2.2.2.1 cu hcut
  obtain ⟨hP2, hD2⟩ := g_world hP hD hcut hnd (had v w hpost) hk hPw
  obtain ⟨t2, a1, b1⟩ := kk v w hpost T'.heap (locs ++ L) ls hP2 hD2 ⟨Nat.le_trans hS.1 hz, fun q h1 h2 => by rw [hk q (Nat.lt_of_lt_of_le h1 hS.1) (fun z => h2 (hF q z))]; exact hS.2.1 q h1 h2, fun q hq => by
      rcases List.mem_append.mp hq with h | h
      · exact hS.2.2 q h
      · exact hF _ (hL q h)⟩ hl T' rfl X'
  exact ⟨t2, st t2 a1, b1⟩
/-- behind a run that may have made cells: the caller's other cells first, then the callee's -/
theorem g_backN {mc ms : Nat} {wc : va_W} {post : Option Value → va_W → Prop} {a : Array Value} {rest : List Value} (n' : Nat) (cu re : List Nat) (C : gC p s m args meth c cc nL own Ts E A) (hp : pc + 3 = n') (hcut : cu.map (fun i => ws[i]?) = wc.map some) {wr : va_W} (hre : re.map (fun i => ws[i]?) = wr.map some) (hnd : va_nd re = true) (hdis : ∀ i ∈ re, i ∉ cu)
    (run : ∀ (H : Heap) (locs : List Loc) (ls : Array Slot), va_P E.1 vwCl ws H → va_D A ws → lv_has ls nL lv → va_Run p l e R s m args below meth c H locs cells slots mc ms (F0 m pc ls st) rest (gPost E (va_A wc H.size) post a) (va_A wc H.size))
    (kk : ∀ v w, post v w → gJ p l e R s m args below meth c (cells + mc) (slots + ms) Q E A nL (wr ++ w) lv n' (v.toList ++ rest)) : gJ p l e R s m args below meth c cells slots Q E A nL ws lv pc st := by
  intro H locs ls hP hD hS hl
  subst hp
  intro T hT X
  obtain ⟨v, st₀, t, T', L, h0, X', hL, e1, e2, ⟨⟨v', w, hv, hpost, hPw, hKw, hDw⟩, hz, hk⟩, st⟩ := run H locs ls hP hD hl T hT X
  cases hv
  rw [h0] at hz hk
  rw [← e1] at hz hk hPw
  have hF := va_free hD hS C.2.2.2.2.2.2.1 cu hcut
  obtain ⟨hP2, hD2⟩ := va_join hP hD cu re hcut hre hnd hdis hk hF hPw hDw
  obtain ⟨t2, a1, b1⟩ := kk v w hpost T'.heap (locs ++ L) ls hP2 hD2 ⟨Nat.le_trans hS.1 hz, fun q h1 h2 => by rw [hk q (Nat.lt_of_lt_of_le h1 hS.1) (fun z => h2 (hF q z))]; exact hS.2.1 q h1 h2, fun q hq => by
      rcases List.mem_append.mp hq with h | h
      · exact hS.2.2 q h
      · exact hF _ (hL q h)⟩ hl T' rfl X'
  exact ⟨t2, st t2 a1, b1⟩
theorem g_blind {as : List Value} {sz : Nat} {wc : va_W} : FrameBlind (va_Pc as (fun U => U.heap.size = sz ∧ va_P E.1 vwCl wc U.heap ∧ gK E U ∧ va_D (fun _ => True) wc)) := fun a U g mk q => by obtain ⟨q0, q1, qP, qK, qD⟩ := q; exact ⟨q0, q1, qP, gK.moved (u := U) (U := U.calling g mk a) (Vm.Alike.refl U.vm) qK, qD⟩
theorem g_self {wc : va_W} {cu : List Nat} (hcut : cu.map (fun i => ws[i]?) = wc.map some) (hnd : va_nd cu = true) : gPut ws cu wc = ws := by
  apply List.ext_getElem?
  intro k
  have hlt : ∀ i ∈ cu, i < ws.length := fun i hi => by
    obtain ⟨j, hj⟩ := List.getElem?_of_mem hi
    obtain ⟨q, -, h⟩ := g_cutr hcut hj
    exact (List.getElem?_eq_some_iff.mp h).1
  by_cases hkc : k ∈ cu
  · obtain ⟨j, hj⟩ := List.getElem?_of_mem hkc
    obtain ⟨r, hr1, hr2⟩ := g_cutr hcut hj
    rw [gPut_eq cu ws wc j k r hnd hlt hj hr1, hr2]
  · exact gPut_ne cu ws wc k hkc
theorem g_preD {H : Heap} {wc : va_W} {cu : List Nat} (hD : va_D A ws) (hcut : cu.map (fun i => ws[i]?) = wc.map some) (hnd : va_nd cu = true) : va_D (fun _ => True) wc := (hD.sub cu hnd hcut).weaken (fun _ _ _ _ => trivial)
theorem g_runV {k mc ms maxL index : Nat} {y : MethodName} {bytes : ByteArray} {ret : Option FieldType} {wsy : List Cond} {rm : Room} {as rest : List Value} {b : Nat} {Cn : String} {wc : va_W} {post : Option Value → va_W → Prop} (C : gC p s m args meth c cc nL own Ts E A) (hM : gMet E l y wsy rm mc ms (.ref b :: as) wc post) (cw : CallW R s args own Cn index y bytes maxL ret wsy rm mc ms k) (cu : List Nat) (hcut : cu.map (fun i => ws[i]?) = wc.map some) (hnd : va_nd cu = true) (hst : as.reverse ++ .ref b :: rest = st) (hlen : as.length = k) (hcat : (rest.map fun v => v.category).sum ≤ 8) (q0 ci : Nat) {fs : List Value} {r : vw_C} (he : ws[q0]? = some (b, .inr (ci, fs))) (hc : vwCl[ci]? = some r) (hCn : r.1 = Cn) (hdg : decode cc pc = .ok (.invokevirtual index, 3)) (hf : cells + mc ≤ R.cells ∧ slots + ms ≤ R.slots) :
    ∀ (H : Heap) (locs : List Loc) (ls : Array Slot), va_P E.1 vwCl ws H → va_D A ws → lv_has ls nL lv → va_Run p l e R s m args below meth c H locs cells slots mc ms (F0 m pc ls st) rest (gPost E (va_A wc H.size) post (.ref b :: as).toArray) (va_A wc H.size) :=
  fun H locs ls hP hD hl => va_runV (C := Cn) ⟨C.1, C.2.1, C.2.2.1, C.2.2.2.1, C.2.2.2.2.1⟩ (hM H.size) cw ⟨g_blind, hCn ▸ va_recv C.2.2.2.2.2.1.1 hP hc he, fun U hU hW => ⟨rfl, by rw [hU], by rw [hU]; exact g_subP hcut hP, gK.moved hW.alike C.2.2.2.2.2.1, g_preD (H := H) hD hcut hnd⟩⟩ rfl hlen hl.1 hst.symm (lv_room hcat) hdg hf
theorem g_callV (n' : Nat) {k mc ms maxL index : Nat} {y : MethodName} {bytes : ByteArray} {ret : Option FieldType} {wsy : List Cond} {rm : Room} {as rest : List Value} {b : Nat} {Cn : String} {wc : va_W} {post : Option Value → va_W → Prop} (C : gC p s m args meth c cc nL own Ts E A) (cu : List Nat) (hdg : decode cc pc = .ok (.invokevirtual index, 3)) (hp : pc + 3 = n') (hM : gMet E l y wsy rm mc ms (.ref b :: as) wc post) (cw : CallW R s args own Cn index y bytes maxL ret wsy rm mc ms k) (hst : as.reverse ++ .ref b :: rest = st) (hcut : cu.map (fun i => ws[i]?) = wc.map some) (hnd : va_nd cu = true) (hlen : as.length = k) (hcat : (rest.map fun v => v.category).sum ≤ 8) (q0 ci : Nat) {fs : List Value} {r : vw_C} (he : ws[q0]? = some (b, .inr (ci, fs))) (hc : vwCl[ci]? = some r) (hCn : r.1 = Cn) (hf : cells + mc ≤ R.cells ∧ slots + ms ≤ R.slots) (had : ∀ v w, post v w → w.map Prod.fst = wc.map Prod.fst)
    (kk : ∀ v w, post v w → gJ p l e R s m args below meth c (cells + mc) (slots + ms) Q E A nL (gPut ws cu w) lv n' (v.toList ++ rest)) : gJ p l e R s m args below meth c cells slots Q E A nL ws lv pc st :=
  g_back n' cu C hp hcut hnd had (g_runV C hM cw cu hcut hnd hst hlen hcat q0 ci he hc hCn hdg hf) kk
theorem g_callVF (n' : Nat) {k maxL index : Nat} {y : MethodName} {bytes : ByteArray} {ret : Option FieldType} {wsy : List Cond} {rm : Room} {as rest : List Value} {b : Nat} {Cn : String} {wc : va_W} {v : Value} (C : gC p s m args meth c cc nL own Ts E A) (cu : List Nat) (hdg : decode cc pc = .ok (.invokevirtual index, 3)) (hp : pc + 3 = n') (hM : gFun E l y wsy rm (.ref b :: as) wc v) (cw : CallW R s args own Cn index y bytes maxL ret wsy rm 0 0 k) (hst : as.reverse ++ .ref b :: rest = st) (hcut : cu.map (fun i => ws[i]?) = wc.map some) (hnd : va_nd cu = true) (hlen : as.length = k) (hcat : (rest.map fun v => v.category).sum ≤ 8) (q0 ci : Nat) {fs : List Value} {r : vw_C} (he : ws[q0]? = some (b, .inr (ci, fs))) (hc : vwCl[ci]? = some r) (hCn : r.1 = Cn) (hf : cells + 0 ≤ R.cells ∧ slots + 0 ≤ R.slots)
    (kk : gJ p l e R s m args below meth c cells slots Q E A nL ws lv n' (v :: rest)) : gJ p l e R s m args below meth c cells slots Q E A nL ws lv pc st :=
  g_callV n' C cu hdg hp hM cw hst hcut hnd hlen hcat q0 ci he hc hCn hf (fun v w h => by rw [h.2]) (fun v2 w h => by
    obtain ⟨rfl, rfl⟩ := h
    rw [g_self hcut hnd]
    exact kk)
theorem g_callVU (n' : Nat) {k maxL index : Nat} {y : MethodName} {bytes : ByteArray} {ret : Option FieldType} {wsy : List Cond} {rm : Room} {as rest : List Value} {b : Nat} {Cn : String} {wc : va_W} {v : Option Value} {w1 ws' : va_W} (C : gC p s m args meth c cc nL own Ts E A) (cu : List Nat) (hdg : decode cc pc = .ok (.invokevirtual index, 3)) (hp : pc + 3 = n') (hM : gUpd E l y wsy rm (.ref b :: as) wc v w1) (cw : CallW R s args own Cn index y bytes maxL ret wsy rm 0 0 k) (hst : as.reverse ++ .ref b :: rest = st) (hcut : cu.map (fun i => ws[i]?) = wc.map some) (hnd : va_nd cu = true) (hlen : as.length = k) (hcat : (rest.map fun v => v.category).sum ≤ 8) (q0 ci : Nat) {fs : List Value} {r : vw_C} (he : ws[q0]? = some (b, .inr (ci, fs))) (hc : vwCl[ci]? = some r) (hCn : r.1 = Cn) (hf : cells + 0 ≤ R.cells ∧ slots + 0 ≤ R.slots) (had : w1.map Prod.fst = wc.map Prod.fst) (hw : gPut ws cu w1 = ws')
    (kk : gJ p l e R s m args below meth c cells slots Q E A nL ws' lv n' (v.toList ++ rest)) : gJ p l e R s m args below meth c cells slots Q E A nL ws lv pc st :=
  g_callV n' C cu hdg hp hM cw hst hcut hnd hlen hcat q0 ci he hc hCn hf (fun v w h => by rw [h.2]; exact had) (fun v2 w h => by
    obtain ⟨rfl, rfl⟩ := h
    rw [hw]
    exact kk)
theorem g_callVN (n' : Nat) {k mc ms maxL index : Nat} {y : MethodName} {bytes : ByteArray} {ret : Option FieldType} {wsy : List Cond} {rm : Room} {as rest : List Value} {b : Nat} {Cn : String} {wc : va_W} {post : Option Value → va_W → Prop} (C : gC p s m args meth c cc nL own Ts E A) (cu re : List Nat) (hdg : decode cc pc = .ok (.invokevirtual index, 3)) (hp : pc + 3 = n') (hM : gMet E l y wsy rm mc ms (.ref b :: as) wc post) (cw : CallW R s args own Cn index y bytes maxL ret wsy rm mc ms k) (hst : as.reverse ++ .ref b :: rest = st) (hcut : cu.map (fun i => ws[i]?) = wc.map some) (hnd : va_nd cu = true) {wr : va_W} (hre : re.map (fun i => ws[i]?) = wr.map some) (hnr : va_nd re = true) (hdis : ∀ i ∈ re, i ∉ cu) (hlen : as.length = k) (hcat : (rest.map fun v => v.category).sum ≤ 8) (q0 ci : Nat) {fs : List Value} {r : vw_C} (he : ws[q0]? = some (b, .inr (ci, fs))) (hc : vwCl[ci]? = some r) (hCn : r.1 = Cn) (hf : cells + mc ≤ R.cells ∧ slots + ms ≤ R.slots)
    (kk : ∀ v w, post v w → gJ p l e R s m args below meth c (cells + mc) (slots + ms) Q E A nL (wr ++ w) lv n' (v.toList ++ rest)) : gJ p l e R s m args below meth c cells slots Q E A nL ws lv pc st :=
  g_backN n' cu re C hp hcut hre hnr hdis (g_runV C hM cw cu hcut hnd hst hlen hcat q0 ci he hc hCn hdg hf) kk
theorem g_runS {k mc ms maxL index : Nat} {y : MethodName} {bytes : ByteArray} {ret : Option FieldType} {wsy : List Cond} {rm : Room} {as rest : List Value}  {wc : va_W} {post : Option Value → va_W → Prop} (C : gC p s m args meth c cc nL own Ts E A) (hM : gMet E l y wsy rm mc ms as wc post) (cw : CallB R s args own index y bytes maxL ret wsy rm mc ms k ∧ (Cond.static y).before args s = true) (cu : List Nat) (hcut : cu.map (fun i => ws[i]?) = wc.map some) (hnd : va_nd cu = true) (hst : as.reverse ++ rest = st) (hlen : as.length = k) (hcat : (rest.map fun v => v.category).sum ≤ 8) (hdg : decode cc pc = .ok (.invokestatic index, 3)) (hf : cells + mc ≤ R.cells ∧ slots + ms ≤ R.slots) :
    ∀ (H : Heap) (locs : List Loc) (ls : Array Slot), va_P E.1 vwCl ws H → va_D A ws → lv_has ls nL lv → va_Run p l e R s m args below meth c H locs cells slots mc ms (F0 m pc ls st) rest (gPost E (va_A wc H.size) post as.toArray) (va_A wc H.size) :=
  fun H locs ls hP hD hl => va_runS ⟨C.1, C.2.1, C.2.2.1, C.2.2.2.1, C.2.2.2.2.1⟩ (hM H.size) cw ⟨g_blind, fun U hU hW => ⟨rfl, by rw [hU], by rw [hU]; exact g_subP hcut hP, gK.moved hW.alike C.2.2.2.2.2.1, g_preD (H := H) hD hcut hnd⟩⟩ rfl hlen hl.1 hst.symm (lv_room hcat) hdg hf
theorem g_callS (n' : Nat) {k mc ms maxL index : Nat} {y : MethodName} {bytes : ByteArray} {ret : Option FieldType} {wsy : List Cond} {rm : Room} {as rest : List Value}  {wc : va_W} {post : Option Value → va_W → Prop} (C : gC p s m args meth c cc nL own Ts E A) (cu : List Nat) (hdg : decode cc pc = .ok (.invokestatic index, 3)) (hp : pc + 3 = n') (hM : gMet E l y wsy rm mc ms as wc post) (cw : CallB R s args own index y bytes maxL ret wsy rm mc ms k ∧ (Cond.static y).before args s = true) (hst : as.reverse ++ rest = st) (hcut : cu.map (fun i => ws[i]?) = wc.map some) (hnd : va_nd cu = true) (hlen : as.length = k) (hcat : (rest.map fun v => v.category).sum ≤ 8) (hf : cells + mc ≤ R.cells ∧ slots + ms ≤ R.slots) (had : ∀ v w, post v w → w.map Prod.fst = wc.map Prod.fst)
    (kk : ∀ v w, post v w → gJ p l e R s m args below meth c (cells + mc) (slots + ms) Q E A nL (gPut ws cu w) lv n' (v.toList ++ rest)) : gJ p l e R s m args below meth c cells slots Q E A nL ws lv pc st :=
  g_back n' cu C hp hcut hnd had (g_runS C hM cw cu hcut hnd hst hlen hcat hdg hf) kk
theorem g_callSF (n' : Nat) {k maxL index : Nat} {y : MethodName} {bytes : ByteArray} {ret : Option FieldType} {wsy : List Cond} {rm : Room} {as rest : List Value}  {wc : va_W} {v : Value} (C : gC p s m args meth c cc nL own Ts E A) (cu : List Nat) (hdg : decode cc pc = .ok (.invokestatic index, 3)) (hp : pc + 3 = n') (hM : gFun E l y wsy rm as wc v) (cw : CallB R s args own index y bytes maxL ret wsy rm 0 0 k ∧ (Cond.static y).before args s = true) (hst : as.reverse ++ rest = st) (hcut : cu.map (fun i => ws[i]?) = wc.map some) (hnd : va_nd cu = true) (hlen : as.length = k) (hcat : (rest.map fun v => v.category).sum ≤ 8) (hf : cells + 0 ≤ R.cells ∧ slots + 0 ≤ R.slots)
    (kk : gJ p l e R s m args below meth c cells slots Q E A nL ws lv n' (v :: rest)) : gJ p l e R s m args below meth c cells slots Q E A nL ws lv pc st :=
  g_callS n' C cu hdg hp hM cw hst hcut hnd hlen hcat hf (fun v w h => by rw [h.2]) (fun v2 w h => by
    obtain ⟨rfl, rfl⟩ := h
    rw [g_self hcut hnd]
    exact kk)
theorem g_callSU (n' : Nat) {k maxL index : Nat} {y : MethodName} {bytes : ByteArray} {ret : Option FieldType} {wsy : List Cond} {rm : Room} {as rest : List Value}  {wc : va_W} {v : Option Value} {w1 ws' : va_W} (C : gC p s m args meth c cc nL own Ts E A) (cu : List Nat) (hdg : decode cc pc = .ok (.invokestatic index, 3)) (hp : pc + 3 = n') (hM : gUpd E l y wsy rm as wc v w1) (cw : CallB R s args own index y bytes maxL ret wsy rm 0 0 k ∧ (Cond.static y).before args s = true) (hst : as.reverse ++ rest = st) (hcut : cu.map (fun i => ws[i]?) = wc.map some) (hnd : va_nd cu = true) (hlen : as.length = k) (hcat : (rest.map fun v => v.category).sum ≤ 8) (hf : cells + 0 ≤ R.cells ∧ slots + 0 ≤ R.slots) (had : w1.map Prod.fst = wc.map Prod.fst) (hw : gPut ws cu w1 = ws')
    (kk : gJ p l e R s m args below meth c cells slots Q E A nL ws' lv n' (v.toList ++ rest)) : gJ p l e R s m args below meth c cells slots Q E A nL ws lv pc st :=
  g_callS n' C cu hdg hp hM cw hst hcut hnd hlen hcat hf (fun v w h => by rw [h.2]; exact had) (fun v2 w h => by
    obtain ⟨rfl, rfl⟩ := h
    rw [hw]
    exact kk)
theorem g_callSN (n' : Nat) {k mc ms maxL index : Nat} {y : MethodName} {bytes : ByteArray} {ret : Option FieldType} {wsy : List Cond} {rm : Room} {as rest : List Value}  {wc : va_W} {post : Option Value → va_W → Prop} (C : gC p s m args meth c cc nL own Ts E A) (cu re : List Nat) (hdg : decode cc pc = .ok (.invokestatic index, 3)) (hp : pc + 3 = n') (hM : gMet E l y wsy rm mc ms as wc post) (cw : CallB R s args own index y bytes maxL ret wsy rm mc ms k ∧ (Cond.static y).before args s = true) (hst : as.reverse ++ rest = st) (hcut : cu.map (fun i => ws[i]?) = wc.map some) (hnd : va_nd cu = true) {wr : va_W} (hre : re.map (fun i => ws[i]?) = wr.map some) (hnr : va_nd re = true) (hdis : ∀ i ∈ re, i ∉ cu) (hlen : as.length = k) (hcat : (rest.map fun v => v.category).sum ≤ 8) (hf : cells + mc ≤ R.cells ∧ slots + ms ≤ R.slots)
    (kk : ∀ v w, post v w → gJ p l e R s m args below meth c (cells + mc) (slots + ms) Q E A nL (wr ++ w) lv n' (v.toList ++ rest)) : gJ p l e R s m args below meth c cells slots Q E A nL ws lv pc st :=
  g_backN n' cu re C hp hcut hre hnr hdis (g_runS C hM cw cu hcut hnd hst hlen hcat hdg hf) kk
theorem g_runI {k mc ms maxL index : Nat} {y : MethodName} {bytes : ByteArray} {wsy : List Cond} {rm : Room} {as rest : List Value} {b : Nat} {wc : va_W} {post : Option Value → va_W → Prop} (C : gC p s m args meth c cc nL own Ts E A) (hM : gMet E l y wsy rm mc ms (.ref b :: as) wc post) (cw : CallB R s args own index y bytes maxL none wsy rm mc ms k ∧ y.name = "<init>" ∧ (Cond.instanceMethod y).before args s = true) (cu : List Nat) (hcut : cu.map (fun i => ws[i]?) = wc.map some) (hnd : va_nd cu = true) (hst : as.reverse ++ .ref b :: rest = st) (hlen : as.length = k) (hcat : (rest.map fun v => v.category).sum ≤ 8) (hdg : decode cc pc = .ok (.invokespecial index, 3)) (hf : cells + mc ≤ R.cells ∧ slots + ms ≤ R.slots) :
    ∀ (H : Heap) (locs : List Loc) (ls : Array Slot), va_P E.1 vwCl ws H → va_D A ws → lv_has ls nL lv → va_Run p l e R s m args below meth c H locs cells slots mc ms (F0 m pc ls st) rest (gPost E (va_A wc H.size) post (.ref b :: as).toArray) (va_A wc H.size) :=
  fun H locs ls hP hD hl => va_runI ⟨C.1, C.2.1, C.2.2.1, C.2.2.2.1, C.2.2.2.2.1⟩ (hM H.size) cw ⟨g_blind, fun U hU hW => ⟨rfl, by rw [hU], by rw [hU]; exact g_subP hcut hP, gK.moved hW.alike C.2.2.2.2.2.1, g_preD (H := H) hD hcut hnd⟩⟩ rfl hlen hl.1 hst.symm (lv_room hcat) hdg hf
theorem g_callIN (n' : Nat) {k mc ms maxL index : Nat} {y : MethodName} {bytes : ByteArray} {wsy : List Cond} {rm : Room} {as rest : List Value} {b : Nat} {wc : va_W} {post : Option Value → va_W → Prop} (C : gC p s m args meth c cc nL own Ts E A) (cu re : List Nat) (hdg : decode cc pc = .ok (.invokespecial index, 3)) (hp : pc + 3 = n') (hM : gMet E l y wsy rm mc ms (.ref b :: as) wc post) (cw : CallB R s args own index y bytes maxL none wsy rm mc ms k ∧ y.name = "<init>" ∧ (Cond.instanceMethod y).before args s = true) (hst : as.reverse ++ .ref b :: rest = st) (hcut : cu.map (fun i => ws[i]?) = wc.map some) (hnd : va_nd cu = true) {wr : va_W} (hre : re.map (fun i => ws[i]?) = wr.map some) (hnr : va_nd re = true) (hdis : ∀ i ∈ re, i ∉ cu) (hlen : as.length = k) (hcat : (rest.map fun v => v.category).sum ≤ 8) (hf : cells + mc ≤ R.cells ∧ slots + ms ≤ R.slots)
    (kk : ∀ v w, post v w → gJ p l e R s m args below meth c (cells + mc) (slots + ms) Q E A nL (wr ++ w) lv n' (v.toList ++ rest)) : gJ p l e R s m args below meth c cells slots Q E A nL ws lv pc st :=
  g_backN n' cu re C hp hcut hre hnr hdis (g_runI C hM cw cu hcut hnd hst hlen hcat hdg hf) kk
theorem g_iret (C : gC p s m args meth c cc nL own Ts E A) {post : Option Value → va_W → Prop} {x : Int32} (hr : meth.sig.returnType = some .int) (hdg : decode cc pc = .ok (.ireturn, 1)) (hq : post (some (.int x)) ws) : gJ p l e R s m args below meth c cells slots (MQ below (gPost E A post) args s cells slots A) E A nL ws lv pc [.int x] := by
  intro H locs ls hP hD hS hl
  exact W.iret C.1 C.2.1 hr (fun t ht hW => ⟨⟨_, ws, rfl, hq, by rw [ht]; exact hP, gK.moved hW.alike C.2.2.2.2.2.1, hD⟩, hS.F ht⟩) hS.2.2 hdg C.2.2.2.2.2.2.2
theorem g_lret (C : gC p s m args meth c cc nL own Ts E A) {post : Option Value → va_W → Prop} {x : Int64} (hr : meth.sig.returnType = some .long) (hdg : decode cc pc = .ok (.lreturn, 1)) (hq : post (some (.long x)) ws) : gJ p l e R s m args below meth c cells slots (MQ below (gPost E A post) args s cells slots A) E A nL ws lv pc [.long x] := by
  intro H locs ls hP hD hS hl
  exact W.lret C.1 C.2.1 hr (fun t ht hW => ⟨⟨_, ws, rfl, hq, by rw [ht]; exact hP, gK.moved hW.alike C.2.2.2.2.2.1, hD⟩, hS.F ht⟩) hS.2.2 hdg C.2.2.2.2.2.2.2
theorem g_zret (C : gC p s m args meth c cc nL own Ts E A) {post : Option Value → va_W → Prop} {x : Int32} (hr : meth.sig.returnType = some .boolean) (hdg : decode cc pc = .ok (.ireturn, 1)) (hn : narrow .boolean (.int x) = .int x) (hq : post (some (.int x)) ws) : gJ p l e R s m args below meth c cells slots (MQ below (gPost E A post) args s cells slots A) E A nL ws lv pc [.int x] := by
  intro H locs ls hP hD hS hl
  exact W.zret C.1 C.2.1 hr hn (fun t ht hW => ⟨⟨_, ws, rfl, hq, by rw [ht]; exact hP, gK.moved hW.alike C.2.2.2.2.2.1, hD⟩, hS.F ht⟩) hS.2.2 hdg C.2.2.2.2.2.2.2
theorem g_vret (C : gC p s m args meth c cc nL own Ts E A) {post : Option Value → va_W → Prop} (hr : meth.sig.returnType = none) (hdg : decode cc pc = .ok (.return_, 1)) (hq : post none ws) : gJ p l e R s m args below meth c cells slots (MQ below (gPost E A post) args s cells slots A) E A nL ws lv pc [] := by
  intro H locs ls hP hD hS hl
  exact W.vret C.1 C.2.1 hr (fun t ht hW => ⟨⟨_, ws, rfl, hq, by rw [ht]; exact hP, gK.moved hW.alike C.2.2.2.2.2.1, hD⟩, hS.F ht⟩) hS.2.2 hdg C.2.2.2.2.2.2.2
theorem g_widen {k n : Nat} (h1 : cells ≤ k) (h2 : slots ≤ n) (kk : gJ p l e R s m args below meth c k n Q E A nL ws lv pc st) : gJ p l e R s m args below meth c cells slots Q E A nL ws lv pc st := fun H locs ls hP hD hS hl => W.widen h1 h2 (kk H locs ls hP hD hS hl)
-- Math
theorem g_mabs (n' : Nat) (C : gC p s m args meth c cc nL own Ts E A) {index : Nat} {a : Int} (hdg : decode cc pc = .ok (.invokestatic index, 3)) (hp : pc + 3 = n') (hm : ∀ w ∈ ([Cond.methodLink own index Lib.Math.abs.name, Cond.static Lib.Math.abs.name, Cond.initialized "java/lang/Math", Cond.code Lib.Math.abs.name Lib.Math.abs.code 1 (some .int)] : List Cond), w ∈ Ts) (hcat : (st.map fun v => v.category).sum + 13 ≤ R.locals) (hfr : 1 ≤ R.frames) (hc : cells ≤ R.cells) (hs : slots ≤ R.slots) (hr : -2147483648 < a ∧ a < 2147483648) (kk : gJ p l e R s m args below meth c cells slots Q E A nL ws lv n' (.int (iI (if 0 ≤ a then a else -a)) :: st)) : gJ p l e R s m args below meth c cells slots Q E A nL ws lv pc (.int (iI a) :: st) := by
  intro H locs ls hP hD hS hl
  subst hp
  have ht := C.2.2.2.2.1
  refine va_mabs C.1 C.2.1 (C.2.2.1.trans hl.1.symm) C.2.2.2.1 (ht _ (hm _ (by simp))) (ht _ (hm _ (by simp))) (ht _ (hm _ (by simp))) (ht _ (hm _ (by simp))) hfr hcat hc hs hdg ?_
  have e1 : (if (0 : Int32) ≤ iI a then iI a else 0 - iI a) = iI (if 0 ≤ a then a else -a) := by
    by_cases h : 0 ≤ a
    · rw [if_pos h, if_pos (by rw [← iI_0, iI_le (by omega) (by omega) (by omega) (by omega)]; exact h)]
    · rw [if_neg h, if_neg (by rw [← iI_0, iI_le (by omega) (by omega) (by omega) (by omega)]; exact h), ← iI_0, iI_sub, Int.zero_sub]
  rw [e1]
  exact kk H locs ls hP hD hS hl
theorem g_joinv (t k : Nat) (val : Int) (body : gJ p l e R s m args below meth c cells slots Q E A nL ws lv t (.int (iI val) :: st.drop k)) (kk : (∀ v : Int, v = val → gJ p l e R s m args below meth c cells slots Q E A nL ws lv t (.int (iI v) :: st.drop k)) → gJ p l e R s m args below meth c cells slots Q E A nL ws lv pc st) : gJ p l e R s m args below meth c cells slots Q E A nL ws lv pc st := kk (fun _ h => h ▸ body)
theorem g_ri {a b : Int} (h : a = b) : some (Value.int (iI a)) = some (Value.int (iI b)) := by rw [h]
theorem g_rl {a b : Int} (h : a = b) : some (Value.long (lI a)) = some (Value.long (lI b)) := by rw [h]
theorem g_split (P : Prop) (kt : P → gJ p l e R s m args below meth c cells slots Q E A nL ws lv pc st) (kf : ¬ P → gJ p l e R s m args below meth c cells slots Q E A nL ws lv pc st) : gJ p l e R s m args below meth c cells slots Q E A nL ws lv pc st := (Classical.em P).elim kt kf
theorem g_tsw (t : Nat) (C : gC p s m args meth c cc nL own Ts E A) (z : Int) {dflt lo hi a off : Int} {offs : Array Int} {len : Nat} (hdg : decode cc pc = .ok (.tableswitch dflt lo hi offs, len)) (hr : -2147483648 ≤ a ∧ a < 2147483648) (ha : a = z) (h1 : ¬ z < lo) (h2 : ¬ hi < z) (ho : offs[(z - lo).toNat]? = some off) (ht : (pc : Int) + off = (t : Int)) (kk : gJ p l e R s m args below meth c cells slots Q E A nL ws lv t st) : gJ p l e R s m args below meth c cells slots Q E A nL ws lv pc (.int (iI a) :: st) := by
  intro H locs ls hP hD hS hl
  have e := iI_toInt hr.1 hr.2
  subst ha
  exact lv_tableIn C.1 C.2.1 hdg (by rw [e]; exact h1) (by rw [e]; exact h2) (by rw [e]; exact ho) ht (kk H locs ls hP hD hS hl)
theorem g_tswd (t : Nat) (C : gC p s m args meth c cc nL own Ts E A) {dflt lo hi a : Int} {offs : Array Int} {len : Nat} (hdg : decode cc pc = .ok (.tableswitch dflt lo hi offs, len)) (hr : -2147483648 ≤ a ∧ a < 2147483648) (h : a < lo ∨ hi < a) (ht : (pc : Int) + dflt = (t : Int)) (kk : gJ p l e R s m args below meth c cells slots Q E A nL ws lv t st) : gJ p l e R s m args below meth c cells slots Q E A nL ws lv pc (.int (iI a) :: st) := by
  intro H locs ls hP hD hS hl
  exact lv_tableOut C.1 C.2.1 hdg (by rw [iI_toInt hr.1 hr.2]; exact h) ht (kk H locs ls hP hD hS hl)
theorem g_lsw2 (t1 t2 td : Nat) (C : gC p s m args meth c cc nL own Ts E A) {dflt k1 o1 k2 o2 a : Int} {len : Nat} (hdg : decode cc pc = .ok (.lookupswitch dflt #[(k1, o1), (k2, o2)], len)) (hs : k1 < k2) (hr : -2147483648 ≤ a ∧ a < 2147483648) (e1 : (pc : Int) + o1 = (t1 : Int)) (e2 : (pc : Int) + o2 = (t2 : Int)) (ed : (pc : Int) + dflt = (td : Int)) (kk1 : a = k1 → gJ p l e R s m args below meth c cells slots Q E A nL ws lv t1 st) (kk2 : a = k2 → gJ p l e R s m args below meth c cells slots Q E A nL ws lv t2 st) (kkd : a ≠ k1 ∧ a ≠ k2 → gJ p l e R s m args below meth c cells slots Q E A nL ws lv td st) : gJ p l e R s m args below meth c cells slots Q E A nL ws lv pc (.int (iI a) :: st) := by
  intro H locs ls hP hD hS hl
  have e := iI_toInt hr.1 hr.2
  have hz : (((#[(k1, o1), (k2, o2)] : Array (Int × Int)).toList.zip ((#[(k1, o1), (k2, o2)] : Array (Int × Int)).toList.drop 1)).all (fun (a, next) => a.1 < next.1)) = true := by simp [hs]
  by_cases h1 : k1 = a
  · refine lv_lookup C.1 C.2.1 hdg hz (off := o1) ?_ e1 (kk1 h1.symm H locs ls hP hD hS hl)
    show (if k1 = (iI a).toInt then o1 else _) = o1
    rw [e, if_pos h1]
  · by_cases h2 : k2 = a
    · refine lv_lookup C.1 C.2.1 hdg hz (off := o2) ?_ e2 (kk2 h2.symm H locs ls hP hD hS hl)
      show (if k1 = (iI a).toInt then o1 else if k2 = (iI a).toInt then o2 else _) = o2
      rw [e, if_neg h1, if_pos h2]
    · refine lv_lookup C.1 C.2.1 hdg hz (off := dflt) ?_ ed (kkd ⟨fun q => h1 q.symm, fun q => h2 q.symm⟩ H locs ls hP hD hS hl)
      show (if k1 = (iI a).toInt then o1 else if k2 = (iI a).toInt then o2 else dflt) = dflt
      rw [e, if_neg h1, if_neg h2]
end GL
end
section
section GL
variable {p : Program} {l : Launch} {e : Env} {R : Room} {s : State} {m : MethodId} {args : Array Value} {below : List Frame} {meth : Method} {c : Code} {cells slots : Nat} {Q : State → Prop} {E : gE} {A : Nat → Prop} {nL : Nat} {ws : va_W} {lv : List (Nat × Value)} {pc : Nat} {st : List Value} {cc : ByteArray} {own : String} {Ts : List Cond}
theorem g_mmax (n' : Nat) (C : gC p s m args meth c cc nL own Ts E A) (z : Int) {index : Nat} {a b : Int} (hdg : decode cc pc = .ok (.invokestatic index, 3)) (hp : pc + 3 = n') (hm : ∀ w ∈ ([Cond.methodLink own index Lib.Math.max.name, Cond.static Lib.Math.max.name, Cond.initialized "java/lang/Math", Cond.code Lib.Math.max.name Lib.Math.max.code 2 (some .int)] : List Cond), w ∈ Ts) (hcat : (st.map fun v => v.category).sum + 13 ≤ R.locals) (hfr : 1 ≤ R.frames) (hc : cells ≤ R.cells) (hs : slots ≤ R.slots) (hr : -2147483648 ≤ a ∧ a < 2147483648 ∧ -2147483648 ≤ b ∧ b < 2147483648) (hz : z = if a < b then b else a) (kk : gJ p l e R s m args below meth c cells slots Q E A nL ws lv n' (.int (iI z) :: st)) : gJ p l e R s m args below meth c cells slots Q E A nL ws lv pc (.int (iI b) :: .int (iI a) :: st) := by
  intro H locs ls hP hD hS hl
  subst hp
  have ht := C.2.2.2.2.1
  refine va_mmax C.1 C.2.1 (C.2.2.1.trans hl.1.symm) C.2.2.2.1 (ht _ (hm _ (by simp))) (ht _ (hm _ (by simp))) (ht _ (hm _ (by simp))) (ht _ (hm _ (by simp))) hfr hcat hc hs hdg ?_
  have e1 : (if iI a < iI b then iI b else iI a) = iI z := by
    rw [hz]
    by_cases h : a < b
    · rw [if_pos h, if_pos ((iI_lt hr.1 hr.2.1 hr.2.2.1 hr.2.2.2).mpr h)]
    · rw [if_neg h, if_neg (fun q => h ((iI_lt hr.1 hr.2.1 hr.2.2.1 hr.2.2.2).mp q))]
  rw [e1]
  exact kk H locs ls hP hD hS hl
theorem g_mmin (n' : Nat) (C : gC p s m args meth c cc nL own Ts E A) (z : Int) {index : Nat} {a b : Int} (hdg : decode cc pc = .ok (.invokestatic index, 3)) (hp : pc + 3 = n') (hm : ∀ w ∈ ([Cond.methodLink own index Lib.Math.min.name, Cond.static Lib.Math.min.name, Cond.initialized "java/lang/Math", Cond.code Lib.Math.min.name Lib.Math.min.code 2 (some .int)] : List Cond), w ∈ Ts) (hcat : (st.map fun v => v.category).sum + 13 ≤ R.locals) (hfr : 1 ≤ R.frames) (hc : cells ≤ R.cells) (hs : slots ≤ R.slots) (hr : -2147483648 ≤ a ∧ a < 2147483648 ∧ -2147483648 ≤ b ∧ b < 2147483648) (hz : z = if b < a then b else a) (kk : gJ p l e R s m args below meth c cells slots Q E A nL ws lv n' (.int (iI z) :: st)) : gJ p l e R s m args below meth c cells slots Q E A nL ws lv pc (.int (iI b) :: .int (iI a) :: st) := by
  intro H locs ls hP hD hS hl
  subst hp
  have ht := C.2.2.2.2.1
  refine va_mmin C.1 C.2.1 (C.2.2.1.trans hl.1.symm) C.2.2.2.1 (ht _ (hm _ (by simp))) (ht _ (hm _ (by simp))) (ht _ (hm _ (by simp))) (ht _ (hm _ (by simp))) hfr hcat hc hs hdg ?_
  have e1 : (if iI b < iI a then iI b else iI a) = iI z := by
    rw [hz]
    by_cases h : b < a
    · rw [if_pos h, if_pos ((iI_lt hr.2.2.1 hr.2.2.2 hr.1 hr.2.1).mpr h)]
    · rw [if_neg h, if_neg (fun q => h ((iI_lt hr.2.2.1 hr.2.2.2 hr.1 hr.2.1).mp q))]
  rw [e1]
  exact kk H locs ls hP hD hS hl
def cpI (f g : Int → Int) (i j n : Int) : Int → Int := fun k => if j ≤ k ∧ k < j + n then f (i + (k - j)) else g k
theorem cpI_e (f g : Int → Int) {i j n : Int} (hi : 0 ≤ i ∧ i < 2147483648) (hj : 0 ≤ j ∧ j < 2147483648) (hn : 0 ≤ n ∧ n < 2147483648) : va_cpy (fun k : Nat => iI (f (k : Int))) (fun k : Nat => iI (g (k : Int))) (iI i).toNatClampNeg (iI j).toNatClampNeg (iI n).toNatClampNeg = fun k : Nat => iI (cpI f g i j n (k : Int)) := by
  funext k
  rw [iI_clamp hi.1 hi.2, iI_clamp hj.1 hj.2, iI_clamp hn.1 hn.2]
  unfold va_cpy cpI
  by_cases h : j ≤ (k : Int) ∧ (k : Int) < j + n
  · rw [if_pos h, if_pos (by omega)]
    show iI (f ((i.toNat + (k - j.toNat) : Nat) : Int)) = _
    rw [show ((i.toNat + (k - j.toNat) : Nat) : Int) = i + ((k : Int) - j) by omega]
  · rw [if_neg h, if_neg (by omega)]
theorem g_copy (n' : Nat) (C : gC p s m args meth c cc nL own Ts E A) (q0 q1 : Nat) {index a0 a1 n0 n1 : Nat} {f g : Int → Int} {i j n : Int} {ws' : va_W} (hdg : decode cc pc = .ok (.invokestatic index, 3)) (hp : pc + 3 = n') (hm : ∀ w ∈ ([Cond.methodLink own index arraycopyName, Cond.native arraycopyName, Cond.static arraycopyName, Cond.initialized "java/lang/System"] : List Cond), w ∈ Ts) (he0 : ws[q0]? = some (a0, aI E n0 f)) (he1 : ws[q1]? = some (a1, aI E n1 g)) (hi : 0 ≤ i ∧ i + n ≤ n0) (hj : 0 ≤ j ∧ j + n ≤ n1) (hn : 0 ≤ n) (hb : n0 < 2147483648 ∧ n1 < 2147483648) (hfr : 1 ≤ R.frames) (hcat : (st.map fun v => v.category).sum + (nativeFrameWords "java/lang/System" "arraycopy" 5 + 11) ≤ R.locals) (hw : ws.set q1 (a1, aI E n1 (cpI f g i j n)) = ws') (kk : gJ p l e R s m args below meth c cells slots Q E A nL ws' lv n' st) : gJ p l e R s m args below meth c cells slots Q E A nL ws lv pc (.int (iI n) :: .int (iI j) :: .ref a1 :: .int (iI i) :: .ref a0 :: st) := by
  intro H locs ls hP hD hS hl
  subst hp
  subst hw
  have ht := C.2.2.2.2.1
  have ei := iI_clamp (z := i) (by omega) (by omega)
  have ej := iI_clamp (z := j) (by omega) (by omega)
  have en := iI_clamp (z := n) (by omega) (by omega)
  have neg : ∀ z : Int, 0 ≤ z → z < 2147483648 → ¬ iI z < 0 := fun z h1 h2 q => by
    rw [← iI_0, iI_lt (by omega) (by omega) (by omega) (by omega)] at q; omega
  refine va_copyi C.1 C.2.1 (C.2.2.1.trans hl.1.symm) C.2.2.2.1 (ht _ (hm _ (by simp))) (ht _ (hm _ (by simp))) (ht _ (hm _ (by simp))) (ht _ (hm _ (by simp))) C.2.2.2.2.2.1.1 hP hD hS q0 q1 0 0 he0 he1 (ty := .int) rfl rfl rfl (neg i (by omega) (by omega)) (neg j (by omega) (by omega)) (neg n (by omega) (by omega)) (by rw [ei, en]; omega) (by rw [ej, en]; omega) (fun k _ => rfl) hfr hcat hdg (fun H1 locs1 hP hD hS => ?_)
  rw [cpI_e f g (by omega) (by omega) (by omega)] at hP hD
  exact kk H1 locs1 ls hP hD hS hl
-- making cells
theorem g_objInit (n' : Nat) (C : gC p s m args meth c cc nL own Ts E A) {idx a : Nat} (hdg : decode cc pc = .ok (.invokespecial idx, 3)) (hp : pc + 3 = n') (hm : ∀ w ∈ ([Cond.methodLink own idx Lib.objectInit, Cond.instanceMethod Lib.objectInit, Cond.code Lib.objectInit ⟨#[0xb1]⟩ 1 none] : List Cond), w ∈ Ts) (hfr : 1 ≤ R.frames) (hlo : (st.map fun v => v.category).sum + 12 ≤ R.locals) (kk : gJ p l e R s m args below meth c cells slots Q E A nL ws lv n' st) : gJ p l e R s m args below meth c cells slots Q E A nL ws lv pc (.ref a :: st) := by
  intro H locs ls hP hD hS hl
  subst hp
  have ht := C.2.2.2.2.1
  have e : (F0 m pc ls (.ref a :: st)).monitorRoom = 0 := rfl
  exact W.objInit C.1 C.2.1 C.2.2.2.1 (ht _ (hm _ (by simp))) (ht _ (hm _ (by simp))) (ht _ (hm _ (by simp))) rfl (hl.1.trans C.2.2.1.symm) rfl hdg hfr (by rw [e]; omega) (kk H locs ls hP hD hS hl)
theorem g_new (n' : Nat) (C : gC p s m args meth c cc nL own Ts E A) (ci : Nat) {Cn : String} {T : u_T} {N index : Nat} (fs : List Value) (ty : Nat → FieldType) (hty : ∀ k, k < N → parseFieldDescriptor (T k).2.2.1 = some (ty k)) (hin : ∀ w ∈ u_ws Cn T N, w ∈ Ts) (hm : ∀ w ∈ ([Cond.classLink own index Cn, Cond.instantiable Cn N, Cond.initialized Cn] : List Cond), w ∈ Ts) (hdg : decode cc pc = .ok (.new index, 3)) (hp : pc + 3 = n') (hc : vwCl[ci]? = some (Cn, T, N)) (hfs : ∀ j, j < N → defaultValue (ty j) = vp_V fs j) (hcells : cells + 1 ≤ R.cells) (hslots : slots + N ≤ R.slots)
    (kk : ∀ a : Nat, gJ p l e R s m args below meth c (cells + 1) (slots + N) Q E A nL (ws ++ [(a, .inr (ci, fs))]) lv n' (.ref a :: st)) : gJ p l e R s m args below meth c cells slots Q E A nL ws lv pc st := by
  intro H locs ls hP hD hS hl
  subst hp
  have ht := C.2.2.2.2.1
  exact va_new C.1 C.2.1 ht hin ty hty C.2.2.2.1 (ht _ (hm _ (by simp))) (ht _ (hm _ (by simp))) (ht _ (hm _ (by simp))) C.2.2.2.2.2.1.1 hP hD hS C.2.2.2.2.2.2.1 hc hfs hcells hslots hdg (fun a H1 hP hD hS => kk a H1 locs ls hP hD hS hl)
theorem g_RAu {U : State} {c1 c2 : ClassId} {ty : FieldType} (h1 : va_RA U c1 ty) (h2 : va_RA U c2 ty) : c1 = c2 := by
  cases ty with
  | object C =>
    obtain ⟨k1, m1, a1, a2, a3, a4⟩ := h1
    obtain ⟨k2, m2, b1, b2, b3, b4⟩ := h2
    exact Option.some.inj (a4.symm.trans b4)
  | _ =>
    have a : U.vm.findClass _ = some c1 := h1
    have b : U.vm.findClass _ = some c2 := h2
    exact Option.some.inj (a.symm.trans b)
theorem g_newI (n' : Nat) (C : gC p s m args meth c cc nL own Ts E A) (N : Nat) (hm : Cond.arrayClass .int ∈ Ts) (hdg : decode cc pc = .ok (.newarray .int, 2)) (hp : pc + 2 = n') (hN : N < 100000) (hcells : cells + 1 ≤ R.cells) (hslots : slots + N ≤ R.slots)
    (kk : ∀ a : Nat, gJ p l e R s m args below meth c (cells + 1) (slots + N) Q E A nL (ws ++ [(a, aI E N (fun _ => 0))]) lv n' (.ref a :: st)) : gJ p l e R s m args below meth c cells slots Q E A nL ws lv pc (.int (iI N) :: st) := by
  intro H locs ls hP hD hS hl
  subst hp
  have ht := C.2.2.2.2.1
  refine va_newa (atype := .int) C.1 C.2.1 (ht _ hm) rfl C.2.2.2.2.2.1.1 hP hD hS C.2.2.2.2.2.2.1 (a0 := (N, .inl (fun _ => 0))) (fun cA => rfl) (fun q => by rw [← iI_0, iI_lt (by omega) (by omega) (by omega) (by omega)] at q; omega) (iI_nat N (by omega)) (by show N * 4 ≤ 536870912; omega) hcells hslots hdg (fun a cA H1 hK hP hD hS => ?_)
  have e := g_RAu ((hK.2 0 (E.2.1, .int) rfl).2) ((hK.2 3 (cA, .int) rfl).2)
  subst e
  exact kk a H1 locs ls hP hD hS hl
theorem g_newZ (n' : Nat) (C : gC p s m args meth c cc nL own Ts E A) (N : Nat) (hm : Cond.arrayClass .boolean ∈ Ts) (hdg : decode cc pc = .ok (.newarray .boolean, 2)) (hp : pc + 2 = n') (hN : N < 100000) (hcells : cells + 1 ≤ R.cells) (hslots : slots + N ≤ R.slots)
    (kk : ∀ a : Nat, gJ p l e R s m args below meth c (cells + 1) (slots + N) Q E A nL (ws ++ [(a, aZ E N (fun _ => 0))]) lv n' (.ref a :: st)) : gJ p l e R s m args below meth c cells slots Q E A nL ws lv pc (.int (iI N) :: st) := by
  intro H locs ls hP hD hS hl
  subst hp
  have ht := C.2.2.2.2.1
  refine va_newa (atype := .boolean) C.1 C.2.1 (ht _ hm) rfl C.2.2.2.2.2.1.1 hP hD hS C.2.2.2.2.2.2.1 (a0 := (N, .inl (fun _ => 0))) (fun cA => rfl) (fun q => by rw [← iI_0, iI_lt (by omega) (by omega) (by omega) (by omega)] at q; omega) (iI_nat N (by omega)) (by show N * 1 ≤ 536870912; omega) hcells hslots hdg (fun a cA H1 hK hP hD hS => ?_)
  have e := g_RAu ((hK.2 1 (E.2.2.1, .boolean) rfl).2) ((hK.2 3 (cA, .boolean) rfl).2)
  subst e
  exact kk a H1 locs ls hP hD hS hl
theorem g_newQ (n' : Nat) (C : gC p s m args meth c cc nL own Ts E A) (N : Nat) {index : Nat} (hm : Cond.classLink own index RX4 ∈ Ts) (hdg : decode cc pc = .ok (.anewarray index, 3)) (hp : pc + 3 = n') (hN : N < 100000) (hcells : cells + 1 ≤ R.cells) (hslots : slots + N ≤ R.slots)
    (kk : ∀ a : Nat, gJ p l e R s m args below meth c (cells + 1) (slots + N) Q E A nL (ws ++ [(a, aQ E N (fun _ => none))]) lv n' (.ref a :: st)) : gJ p l e R s m args below meth c cells slots Q E A nL ws lv pc (.int (iI N) :: st) := by
  intro H locs ls hP hD hS hl
  subst hp
  have ht := C.2.2.2.2.1
  refine va_newq C.1 C.2.1 C.2.2.2.1 (ht _ hm) C.2.2.2.2.2.1.2 C.2.2.2.2.2.1.1 hP hD hS C.2.2.2.2.2.2.1 (fun q => by rw [← iI_0, iI_lt (by omega) (by omega) (by omega) (by omega)] at q; omega) (iI_nat N (by omega)) (by omega) hcells hslots hdg (fun a cA H1 hK hP hD hS => ?_)
  have e := g_RAu ((hK.2 2 (E.2.2.2, .object RX4) rfl).2) ((hK.2 3 (cA, .object RX4) rfl).2)
  subst e
  exact kk a H1 locs ls hP hD hS hl
theorem g_aastore (n' : Nat) (C : gC p s m args meth c cc nL own Ts E A) (q qk : Nat) {a n v : Nat} {fs : List Value} {f : Int → Option Nat} {z : Int} {ws' : va_W} (hdg : decode cc pc = .ok (.aastore, 1)) (hp : pc + 1 = n') (he : ws[q]? = some (a, aQ E n f)) (hv : ws[qk]? = some (v, .inr (4, fs))) (hz : 0 ≤ z ∧ z < n ∧ n < 2147483648) (hw : ws.set q (a, aQ E n (uQ f z (some v))) = ws') (kk : gJ p l e R s m args below meth c cells slots Q E A nL ws' lv n' st) : gJ p l e R s m args below meth c cells slots Q E A nL ws lv pc (.ref v :: .int (iI z) :: .ref a :: st) := by
  intro H locs ls hP hD hS hl
  subst hp
  subst hw
  refine va_astq C.1 C.2.1 C.2.2.2.2.2.1.1 hP hD hS q 2 qk 4 (r := (RX4, TX4, 4)) he rfl hv rfl (iI_in hz.1 hz.2.1 hz.2.2) hdg (fun H1 locs1 hP hD hS => ?_)
  have e : va_up (fun k : Nat => f (k : Int)) (iI z).toNatClampNeg (some v) = fun k : Nat => uQ f z (some v) (k : Int) := by
    funext k
    rw [iI_clamp hz.1 (by omega)]
    unfold va_up uQ
    by_cases h : k = z.toNat
    · rw [if_pos h, if_pos (by omega)]
    · rw [if_neg h, if_neg (by omega)]
  rw [e] at hP hD
  exact kk H1 locs1 ls hP hD hS hl
end GL
end
section
/-! what the system says, as whole numbers: the picture -/
def nsd (W h : Int) : Int := (W - 1) * h + W * (h - 1)
def sdI (W h p e : Int) : Int := if e = 1 then (if p % W = W - 1 then -9 else p / W * (W - 1) + p % W) else if e = 3 then (if p % W = 0 then -9 else p / W * (W - 1) + (p % W - 1)) else if e = 2 then (if p / W = h - 1 then -9 else (W - 1) * h + p / W * W + p % W) else (if p / W = 0 then -9 else (W - 1) * h + (p / W - 1) * W + p % W)
theorem chk2 {P : Nat → Nat → Prop} [∀ W h, Decidable (P W h)] (h0 : ((List.range 6).all fun W => (List.range 6).all fun h => decide (P W h)) = true) (W h : Nat) (hW : W < 6) (hh : h < 6) : P W h :=
  of_decide_eq_true (List.all_eq_true.mp (List.all_eq_true.mp h0 W (List.mem_range.mpr hW)) h (List.mem_range.mpr hh))
theorem chk4 {P : Nat → Nat → Nat → Nat → Prop} [∀ W h p e, Decidable (P W h p e)] (h0 : ((List.range 6).all fun W => (List.range 6).all fun h => (List.range 25).all fun p => (List.range 4).all fun e => decide (P W h p e)) = true) (W h p e : Nat) (hW : W < 6) (hh : h < 6) (hp : p < 25) (he : e < 4) : P W h p e :=
  of_decide_eq_true (List.all_eq_true.mp (List.all_eq_true.mp (List.all_eq_true.mp (List.all_eq_true.mp h0 W (List.mem_range.mpr hW)) h (List.mem_range.mpr hh)) p (List.mem_range.mpr hp)) e (List.mem_range.mpr he))
theorem nsd_nat (W h : Nat) (hW : W < 6) (hh : h < 6) : 1 ≤ W → 1 ≤ h → 0 ≤ nsd (W : Nat) (h : Nat) ∧ nsd W h ≤ 40 ∧ 1 ≤ (W : Int) * h ∧ (W : Int) * h ≤ 25 := chk2 (P := fun W h => 1 ≤ W → 1 ≤ h → 0 ≤ nsd (W : Nat) (h : Nat) ∧ nsd W h ≤ 40 ∧ 1 ≤ (W : Int) * h ∧ (W : Int) * h ≤ 25) (by decide +kernel) W h hW hh
theorem nsd_b {W h : Int} (hB : 1 ≤ W ∧ W ≤ 5 ∧ 1 ≤ h ∧ h ≤ 5) : 0 ≤ nsd W h ∧ nsd W h ≤ 40 ∧ 1 ≤ W * h ∧ W * h ≤ 25 := by
  obtain ⟨w, rfl⟩ := Int.eq_ofNat_of_zero_le (show 0 ≤ W by omega)
  obtain ⟨k, rfl⟩ := Int.eq_ofNat_of_zero_le (show 0 ≤ h by omega)
  exact nsd_nat w k (by omega) (by omega) (by omega) (by omega)
theorem sdI_nat (W h p e : Nat) (hW : W < 6) (hh : h < 6) (hp : p < 25) (he : e < 4) : 1 ≤ W → 1 ≤ h → p < W * h → (sdI (W : Nat) (h : Nat) (p : Nat) (e : Nat) = -9 ∨ (0 ≤ sdI W h p e ∧ sdI W h p e < nsd W h)) := chk4 (P := fun W h p e => 1 ≤ W → 1 ≤ h → p < W * h → (sdI (W : Nat) (h : Nat) (p : Nat) (e : Nat) = -9 ∨ (0 ≤ sdI W h p e ∧ sdI W h p e < nsd W h))) (by decide +kernel) W h p e hW hh hp he
theorem sdI_b {W h p e : Int} (hB : 1 ≤ W ∧ W ≤ 5 ∧ 1 ≤ h ∧ h ≤ 5) (hp : 0 ≤ p ∧ p < W * h) (he : 0 ≤ e ∧ e < 4) : sdI W h p e = -9 ∨ (0 ≤ sdI W h p e ∧ sdI W h p e < nsd W h) := by
  obtain ⟨w, rfl⟩ := Int.eq_ofNat_of_zero_le (show 0 ≤ W by omega)
  obtain ⟨k, rfl⟩ := Int.eq_ofNat_of_zero_le (show 0 ≤ h by omega)
  obtain ⟨q, rfl⟩ := Int.eq_ofNat_of_zero_le hp.1
  obtain ⟨f, rfl⟩ := Int.eq_ofNat_of_zero_le he.1
  have hn := nsd_nat w k (by omega) (by omega) (by omega) (by omega)
  have hq : q < w * k := by
    have := hp.2
    rw [← Int.natCast_mul] at this
    omega
  exact sdI_nat w k q f (by omega) (by omega) (by have := hn.2.2.2; omega) (by omega) (by omega) (by omega) hq
def nxI (W p e : Int) : Int := if e = 0 then p - W else if e = 1 then p + 1 else if e = 2 then p + W else p - 1
def htI (hs : Int → Int) (s i w : Int) : Int := if w = 0 then hs (s * 5 + i) else - hs (s * 5 + (4 - i))
def wyI (e : Int) : Int := if e = 1 ∨ e = 2 then 0 else 1
def ehI (W h : Int) (hs : Int → Int) (p e i : Int) : Int := htI hs (sdI W h p e) i (wyI e)
def abI (z : Int) : Int := if 0 ≤ z then z else -z
def frI (W h : Int) (hs : Int → Int) (p e q f : Int) : Int := 0 + abI (ehI W h hs p e 0 + ehI W h hs q f 4) + abI (ehI W h hs p e 1 + ehI W h hs q f 3) + abI (ehI W h hs p e 2 + ehI W h hs q f 2) + abI (ehI W h hs p e 3 + ehI W h hs q f 1) + abI (ehI W h hs p e 4 + ehI W h hs q f 0)
def smI (hs : Int → Int) (s : Int) : Int := 0 + hs (s * 5 + 0) + hs (s * 5 + 1) + hs (s * 5 + 2) + hs (s * 5 + 3) + hs (s * 5 + 4)
def hB9 (hs : Int → Int) : Prop := ∀ i, -9 ≤ hs i ∧ hs i ≤ 9
theorem htI_b {hs : Int → Int} (hh : hB9 hs) (s i w : Int) : -9 ≤ htI hs s i w ∧ htI hs s i w ≤ 9 := by
  unfold htI
  split
  · exact hh _
  · have := hh (s * 5 + (4 - i)); omega
theorem ehI_b {W h : Int} {hs : Int → Int} (hh : hB9 hs) (p e i : Int) : -9 ≤ ehI W h hs p e i ∧ ehI W h hs p e i ≤ 9 := htI_b hh _ _ _
theorem abI_b {a b : Int} (ha : -9 ≤ a ∧ a ≤ 9) (hb : -9 ≤ b ∧ b ≤ 9) : 0 ≤ abI (a + b) ∧ abI (a + b) ≤ 18 := by unfold abI; split <;> omega
theorem frI_b {W h : Int} {hs : Int → Int} (hh : hB9 hs) (p e q f : Int) : 0 ≤ frI W h hs p e q f ∧ frI W h hs p e q f ≤ 90 := by
  have h0 := abI_b (ehI_b (W := W) (h := h) hh p e 0) (ehI_b (W := W) (h := h) hh q f 4)
  have h1 := abI_b (ehI_b (W := W) (h := h) hh p e 1) (ehI_b (W := W) (h := h) hh q f 3)
  have h2 := abI_b (ehI_b (W := W) (h := h) hh p e 2) (ehI_b (W := W) (h := h) hh q f 2)
  have h3 := abI_b (ehI_b (W := W) (h := h) hh p e 3) (ehI_b (W := W) (h := h) hh q f 1)
  have h4 := abI_b (ehI_b (W := W) (h := h) hh p e 4) (ehI_b (W := W) (h := h) hh q f 0)
  unfold frI; omega
end
section
/-! counts, and what the picture's searches say -/
noncomputable abbrev cI (P : Prop) (a b : Int) : Int := @ite Int P (Classical.propDecidable P) a b
theorem cI_t {P : Prop} {a b : Int} (h : P) : cI P a b = a := if_pos h
theorem cI_f {P : Prop} {a b : Int} (h : ¬ P) : cI P a b = b := if_neg h
theorem cI_c {P Q : Prop} {a b : Int} (h : P ↔ Q) : cI P a b = cI Q a b := by
  by_cases q : Q
  · rw [cI_t q, cI_t (h.mpr q)]
  · rw [cI_f q, cI_f (fun z => q (h.mp z))]
noncomputable def cnN (P : Int → Prop) : Nat → Int
  | 0 => 0
  | n + 1 => cnN P n + cI (P (n : Int)) 1 0
noncomputable def cnI (P : Int → Prop) (i : Int) : Int := cnN P i.toNat
theorem cnI_0 (P : Int → Prop) : cnI P 0 = 0 := rfl
theorem cnI_s (P : Int → Prop) {i : Int} (h : 0 ≤ i) : cnI P (i + 1) = cnI P i + cI (P i) 1 0 := by
  obtain ⟨n, rfl⟩ := Int.eq_ofNat_of_zero_le h
  rfl
theorem cnI_st (P : Int → Prop) {i : Int} (h : 0 ≤ i) (q : P i) : cnI P (i + 1) = cnI P i + 1 := by rw [cnI_s P h, cI_t q]
theorem cnI_sf (P : Int → Prop) {i : Int} (h : 0 ≤ i) (q : ¬ P i) : cnI P (i + 1) = cnI P i := by rw [cnI_s P h, cI_f q, Int.add_zero]
theorem cnN_b (P : Int → Prop) : ∀ n : Nat, 0 ≤ cnN P n ∧ cnN P n ≤ n
  | 0 => ⟨Int.le_refl _, Int.le_refl _⟩
  | n + 1 => by
    have h := cnN_b P n
    show 0 ≤ cnN P n + cI (P n) 1 0 ∧ cnN P n + cI (P n) 1 0 ≤ ((n + 1 : Nat) : Int)
    by_cases q : P (n : Int)
    · rw [cI_t q]; omega
    · rw [cI_f q]; omega
theorem cnI_b (P : Int → Prop) {i : Int} (h : 0 ≤ i) : 0 ≤ cnI P i ∧ cnI P i ≤ i := by
  have := cnN_b P i.toNat
  unfold cnI
  omega
theorem cnI_ind {M : Int → Prop} (h0 : M 0) (hs : ∀ i, 0 ≤ i → M i → M (i + 1)) {i : Int} (h : 0 ≤ i) : M i := by
  obtain ⟨n, rfl⟩ := Int.eq_ofNat_of_zero_le h
  induction n with
  | zero => exact h0
  | succ n ih => exact hs _ (by omega) (ih (by omega))
theorem cnI_z (P : Int → Prop) {i : Int} (h : 0 ≤ i) : cnI P i = 0 ↔ ∀ j, 0 ≤ j → j < i → ¬ P j := by
  refine cnI_ind (M := fun i => cnI P i = 0 ↔ ∀ j, 0 ≤ j → j < i → ¬ P j) ⟨fun _ j h1 h2 => absurd h1 (by omega), fun _ => rfl⟩ ?_ h
  intro i hi ih
  have hb := cnI_b P hi
  by_cases q : P i
  · rw [cnI_st P hi q]
    exact ⟨fun z => by omega, fun z => absurd q (z i hi (by omega))⟩
  · rw [cnI_sf P hi q, ih]
    refine ⟨fun z j h1 h2 => ?_, fun z j h1 h2 => z j h1 (by omega)⟩
    by_cases e : j = i
    · rw [e]; exact q
    · exact z j h1 (by omega)
theorem cnI_f (P : Int → Prop) {i : Int} (h : 0 ≤ i) : cnI P i = i ↔ ∀ j, 0 ≤ j → j < i → P j := by
  refine cnI_ind (M := fun i => cnI P i = i ↔ ∀ j, 0 ≤ j → j < i → P j) ⟨fun _ j h1 h2 => absurd h1 (by omega), fun _ => rfl⟩ ?_ h
  intro i hi ih
  have hb := cnI_b P hi
  by_cases q : P i
  · rw [cnI_st P hi q]
    refine ⟨fun z j h1 h2 => ?_, fun z => by have := ih.mpr (fun j h1 h2 => z j h1 (by omega)); omega⟩
    by_cases e : j = i
    · rw [e]; exact q
    · exact ih.mp (by omega) j h1 (by omega)
  · rw [cnI_sf P hi q]
    exact ⟨fun z => by omega, fun z => absurd (z i hi (by omega)) q⟩
theorem cnI_c {P Q : Int → Prop} {i : Int} (h : 0 ≤ i) (hpq : ∀ j, 0 ≤ j → j < i → (P j ↔ Q j)) : cnI P i = cnI Q i := by
  have key : ∀ k, 0 ≤ k → k ≤ i → cnI P k = cnI Q k := by
    intro k hk
    refine cnI_ind (M := fun k => k ≤ i → cnI P k = cnI Q k) (fun _ => rfl) ?_ hk
    intro k hk ih hle
    rw [cnI_s P hk, cnI_s Q hk, ih (by omega), cI_c (hpq k hk (by omega))]
  exact key i h (Int.le_refl _)
def blI (hs : Int → Int) (s : Int) : Prop := (∀ j, 0 ≤ j → j < 5 → 0 < htI hs s j 0) ∨ (∀ j, 0 ≤ j → j < 5 → htI hs s j 0 < 0)
noncomputable def dfI (hs : Int → Int) (s o w : Int) : Int := cnI (fun j => htI hs s j 0 ≠ htI hs o j w) 5
noncomputable def kdI (hs : Int → Int) (n s : Int) : Int := cI (blI hs s) (cI (∃ k, 0 ≤ k ∧ k < n ∧ k ≠ s ∧ (dfI hs s k 0 = 0 ∨ dfI hs s k 1 = 0)) 2 1) 0
theorem kdI_b (hs : Int → Int) (n s : Int) : 0 ≤ kdI hs n s ∧ kdI hs n s ≤ 2 := by
  unfold kdI
  by_cases h : blI hs s
  · rw [cI_t h]
    by_cases q : ∃ k, 0 ≤ k ∧ k < n ∧ k ≠ s ∧ (dfI hs s k 0 = 0 ∨ dfI hs s k 1 = 0)
    · rw [cI_t q]; omega
    · rw [cI_f q]; omega
  · rw [cI_f h]; omega
def gvI (hs : Int → Int) (a b w i : Int) : Int → Int := fun j => if a * 5 ≤ j ∧ j < a * 5 + i then htI hs b (j - a * 5) w else hs j
theorem gvI_0 (hs : Int → Int) (a b w : Int) : gvI hs a b w 0 = hs := by
  funext j
  exact if_neg (by omega)
theorem gvI_s {hs : Int → Int} {a b w i : Int} (hab : a ≠ b) (h0 : 0 ≤ i) (h5 : i < 5) : uI (gvI hs a b w i) (a * 5 + i) (htI (gvI hs a b w i) b i w) = gvI hs a b w (i + 1) := by
  have e : htI (gvI hs a b w i) b i w = htI hs b i w := by
    have e1 : gvI hs a b w i (b * 5 + i) = hs (b * 5 + i) := if_neg (by omega)
    have e2 : gvI hs a b w i (b * 5 + (4 - i)) = hs (b * 5 + (4 - i)) := if_neg (by omega)
    unfold htI
    rw [e1, e2]
  rw [e]
  funext j
  unfold uI gvI
  by_cases h : j = a * 5 + i
  · rw [if_pos h, if_pos (by omega), show j - a * 5 = i by omega]
  · rw [if_neg h]
    by_cases q : a * 5 ≤ j ∧ j < a * 5 + i
    · rw [if_pos q, if_pos (by omega)]
    · rw [if_neg q, if_neg (by omega)]
def zrI (f : Int → Int) (n : Int) : Int → Int := fun j => if 0 ≤ j ∧ j < n then 0 else f j
theorem zrI_0 (f : Int → Int) : zrI f 0 = f := by
  funext j
  exact if_neg (by omega)
theorem zrI_s (f : Int → Int) {i : Int} (h : 0 ≤ i) : uI (zrI f i) i 0 = zrI f (i + 1) := by
  funext j
  unfold uI zrI
  by_cases e : j = i
  · rw [if_pos e, if_pos (by omega)]
  · rw [if_neg e]
    by_cases q : 0 ≤ j ∧ j < i
    · rw [if_pos q, if_pos (by omega)]
    · rw [if_neg q, if_neg (by omega)]
def saI (W h : Int) (hs : Int → Int) (a b : Int) : Int := if a / 4 = b / 4 ∨ sdI W h (a / 4) (a % 4) = -9 ∨ sdI W h (b / 4) (b % 4) = -9 ∨ sdI W h (a / 4) (a % 4) = sdI W h (b / 4) (b % 4) then -9 else frI W h hs (a / 4) (a % 4) (b / 4) (b % 4)
theorem saI_b {W h : Int} {hs : Int → Int} (hh : hB9 hs) (a b : Int) : saI W h hs a b = -9 ∨ (0 ≤ saI W h hs a b ∧ saI W h hs a b ≤ 90) := by
  unfold saI
  split
  · exact Or.inl rfl
  · exact Or.inr (frI_b hh _ _ _ _)
/-- r is the least of saI over the pairs that are done, or -9 where there is none -/
def lfP (W h : Int) (hs : Int → Int) (D : Int → Int → Prop) (r : Int) : Prop := (r = -9 ∧ ∀ a b, D a b → saI W h hs a b = -9) ∨ (0 ≤ r ∧ r ≤ 90 ∧ (∃ a b, D a b ∧ saI W h hs a b = r) ∧ ∀ a b, D a b → saI W h hs a b = -9 ∨ r ≤ saI W h hs a b)
theorem lfP_c {W h : Int} {hs : Int → Int} {D D' : Int → Int → Prop} {r : Int} (hd : ∀ a b, D a b ↔ D' a b) (q : lfP W h hs D r) : lfP W h hs D' r := by
  have e : D = D' := by funext a b; exact propext (hd a b)
  rw [← e]; exact q
theorem lfP_u {W h : Int} {hs : Int → Int} {D : Int → Int → Prop} {r t : Int} (q : lfP W h hs D r) (q' : lfP W h hs D t) : r = t := by
  rcases q with ⟨e, q⟩ | ⟨a0, a1, ⟨a, b, a2, a3⟩, a4⟩ <;> rcases q' with ⟨e', q'⟩ | ⟨b0, b1, ⟨c, d, b2, b3⟩, b4⟩
  · omega
  · have := q c d b2; omega
  · have := q' a b a2; omega
  · have x := a4 c d b2
    have y := b4 a b a2
    omega
theorem lfP_0 {W h : Int} {hs : Int → Int} {D : Int → Int → Prop} (hd : ∀ a b, ¬ D a b) : lfP W h hs D (-9) := Or.inl ⟨rfl, fun a b h => absurd h (hd a b)⟩
/-- one pair more -/
theorem lfP_s {W h : Int} {hs : Int → Int} {D D' : Int → Int → Prop} {r c d : Int} (hh : hB9 hs) (q : lfP W h hs D r) (hd : ∀ a b, D' a b ↔ D a b ∨ (a = c ∧ b = d)) : lfP W h hs D' (if saI W h hs c d ≠ -9 ∧ (r = -9 ∨ saI W h hs c d < r) then saI W h hs c d else r) := by
  have hb := saI_b (W := W) (h := h) hh c d
  split
  · rename_i hz
    refine Or.inr ⟨by omega, by omega, ⟨c, d, (hd c d).mpr (Or.inr ⟨rfl, rfl⟩), rfl⟩, fun a b hab => ?_⟩
    rcases (hd a b).mp hab with z | ⟨rfl, rfl⟩
    · rcases q with ⟨e, q⟩ | ⟨a0, -, -, q⟩
      · exact Or.inl (q a b z)
      · rcases q a b z with y | y
        · exact Or.inl y
        · exact Or.inr (by omega)
    · exact Or.inr (Int.le_refl _)
  · rename_i hz
    rcases q with ⟨e, q⟩ | ⟨a0, a1, ⟨a, b, a2, a3⟩, q⟩
    · refine Or.inl ⟨e, fun a b hab => ?_⟩
      rcases (hd a b).mp hab with z | ⟨rfl, rfl⟩
      · exact q a b z
      · omega
    · refine Or.inr ⟨a0, a1, ⟨a, b, (hd a b).mpr (Or.inl a2), a3⟩, fun a b hab => ?_⟩
      rcases (hd a b).mp hab with z | ⟨rfl, rfl⟩
      · exact q a b z
      · omega
/-! sums; pairs of edges that are near; the table of edges; the heap's row; a sheet's cell cut to its lane; the draw -/
noncomputable def suN (f : Int → Int) : Nat → Int
  | 0 => 0
  | n + 1 => suN f n + f (n : Int)
noncomputable def suI (f : Int → Int) (i : Int) : Int := suN f i.toNat
theorem suI_0 (f : Int → Int) : suI f 0 = 0 := rfl
theorem suI_s (f : Int → Int) {i : Int} (h : 0 ≤ i) : suI f (i + 1) = suI f i + f i := by
  obtain ⟨n, rfl⟩ := Int.eq_ofNat_of_zero_le h
  rfl
def pwP (W h : Int) (hs : Int → Int) (d a b : Int) : Prop := a < b ∧ saI W h hs a b ≠ -9 ∧ saI W h hs a b ≤ d
noncomputable def pwR (W h : Int) (hs : Int → Int) (d a : Int) : Int := cnI (pwP W h hs d a) (W * h * 4)
noncomputable def pwI (W h : Int) (hs : Int → Int) (d : Int) : Int := suI (pwR W h hs d) (W * h * 4)
theorem idx_b {W h x y : Int} (hB : 1 ≤ W ∧ W ≤ 5 ∧ 1 ≤ h ∧ h ≤ 5) (hx : 0 ≤ x ∧ x < W) (hy : 0 ≤ y ∧ y < h) : 0 ≤ W * y ∧ W * y + x < W * h := by
  have h1 : W * y ≤ W * (h - 1) := Int.mul_le_mul_of_nonneg_left (by omega) (by omega)
  rw [Int.mul_sub, Int.mul_one] at h1
  have h2 : 0 ≤ W * y := Int.mul_nonneg (by omega) hy.1
  omega
def leI (W h : Int) (se : Int → Int) (x y : Int) : Int → Int :=
  uI (uI (uI (uI se ((W * y + x) * 4 + 0) (if y = 0 then -9 else (W - 1) * h + W * y + x - W)) ((W * y + x) * 4 + 1) (if x = W - 1 then -9 else (W - 1) * y + x)) ((W * y + x) * 4 + 2) (if y = h - 1 then -9 else (W - 1) * h + W * y + x)) ((W * y + x) * 4 + 3) (if x = 0 then -9 else (W - 1) * y + x - 1)
theorem uI_eq (f : Int → Int) (z v : Int) : uI f z v z = v := if_pos rfl
theorem uI_ne {f : Int → Int} {z v j : Int} (h : j ≠ z) : uI f z v j = f j := if_neg h
theorem sdI_e0 (W h p : Int) : sdI W h p 0 = if p / W = 0 then -9 else (W - 1) * h + (p / W - 1) * W + p % W := rfl
theorem sdI_e1 (W h p : Int) : sdI W h p 1 = if p % W = W - 1 then -9 else p / W * (W - 1) + p % W := rfl
theorem sdI_e2 (W h p : Int) : sdI W h p 2 = if p / W = h - 1 then -9 else (W - 1) * h + p / W * W + p % W := rfl
theorem sdI_e3 (W h p : Int) : sdI W h p 3 = if p % W = 0 then -9 else p / W * (W - 1) + (p % W - 1) := rfl
theorem leI_s {W h x y : Int} {se : Int → Int} (hB : 1 ≤ W ∧ W ≤ 5 ∧ 1 ≤ h ∧ h ≤ 5) (hx : 0 ≤ x ∧ x < W) (hy : 0 ≤ y ∧ y < h) (hf : ∀ p e : Int, 0 ≤ p ∧ p < W * y + x → 0 ≤ e ∧ e < 4 → se (p * 4 + e) = sdI W h p e) : ∀ p e : Int, 0 ≤ p ∧ p < W * y + (x + 1) → 0 ≤ e ∧ e < 4 → leI W h se x y (p * 4 + e) = sdI W h p e := by
  intro p e hp he
  have hi := idx_b hB hx hy
  by_cases q : p = W * y + x
  · have hm : p % W = x := by rw [q, Int.add_comm, Int.add_mul_emod_self_left]; exact Int.emod_eq_of_lt hx.1 hx.2
    have hd : p / W = y := by rw [q, Int.add_comm, Int.add_mul_ediv_left _ _ (by omega), Int.ediv_eq_zero_of_lt hx.1 hx.2, Int.zero_add]
    unfold leI
    rw [← q]
    have h4 : e = 0 ∨ e = 1 ∨ e = 2 ∨ e = 3 := by omega
    have c1 : y * (W - 1) = (W - 1) * y := Int.mul_comm _ _
    have c2 : y * W = W * y := Int.mul_comm _ _
    have c3 : (y - 1) * W = W * y - W := by rw [Int.sub_mul, Int.one_mul, c2]
    rcases h4 with rfl | rfl | rfl | rfl
    · rw [uI_ne (by omega), uI_ne (by omega), uI_ne (by omega), uI_eq, sdI_e0, hd, hm, c3]
      split
      · rfl
      · omega
    · rw [uI_ne (by omega), uI_ne (by omega), uI_eq, sdI_e1, hd, hm, c1]
    · rw [uI_ne (by omega), uI_eq, sdI_e2, hd, hm, c2]
    · rw [uI_eq, sdI_e3, hd, hm, c1]
      split
      · rfl
      · omega
  · unfold leI
    rw [uI_ne (by omega), uI_ne (by omega), uI_ne (by omega), uI_ne (by omega)]
    exact hf p e (by omega) he
def rmI (f : Int → Int) (i n : Int) : Int → Int := fun j => if i ≤ j ∧ j < n - 1 then f (j + 1) else f j
theorem rmI_0 (f : Int → Int) (i : Int) : rmI f i (i + 1) = f := by
  funext j
  exact if_neg (by omega)
theorem rmI_s (f : Int → Int) {i k : Int} (h : i < k) : uI (rmI f i k) (k - 1) (rmI f i k k) = rmI f i (k + 1) := by
  have e : rmI f i k k = f k := if_neg (by omega)
  rw [e]
  funext j
  unfold uI rmI
  by_cases q : j = k - 1
  · rw [if_pos q, if_pos (by omega), show j + 1 = k by omega]
  · rw [if_neg q]
    by_cases z : i ≤ j ∧ j < k - 1
    · rw [if_pos z, if_pos (by omega)]
    · rw [if_neg z, if_neg (by omega)]
def cuI (ln v : Int) : Int := if ln = 0 then (iI v).toInt8.toInt32.toInt else if ln = 1 then (iI v).toInt16.toInt32.toInt else v
theorem cuI_0 {ln v : Int} (h : ln = 0) : iI (cuI ln v) = (iI v).toInt8.toInt32 := by
  unfold cuI
  rw [if_pos h, iI_of]
theorem cuI_1 {ln v : Int} (h : ln = 1) : iI (cuI ln v) = (iI v).toInt16.toInt32 := by
  unfold cuI
  rw [if_neg (by omega), if_pos h, iI_of]
theorem cuI_2 {ln v : Int} (h : ln ≠ 0 ∧ ln ≠ 1) : cuI ln v = v := by
  unfold cuI
  rw [if_neg h.1, if_neg h.2]
/-- the draw: the next, and what it gives below n -/
def dnI (x : Int64) : Int64 := x * lI 6364136223846793005 + lI 1442695040888963407
def dvI (x : Int64) (n : Int) : Int := ((x &&& lI 2147483647) / lI 4096 - (x &&& lI 2147483647) / lI 4096 / lI n * lI n).toInt32.toInt
end
section
/-! the search: what fits, and the machine of its trials -/
def edI (tn : Int → Int) (v d : Int) : Int := (d + 8 - tn (v / 4) - v % 4) % 4
def ftF (W h : Int) (pc tn : Int → Int) (v d : Int) : Prop := sdI W h (pc (v / 4)) (edI tn v d) = -9
def ftM (W h : Int) (hs pc tn : Int → Int) (v e w f : Int) : Prop := ¬ ftF W h pc tn v e ∧ ¬ ftF W h pc tn w f ∧ frI W h hs (pc (v / 4)) (edI tn v e) (pc (w / 4)) (edI tn w f) = 0
def FT (W h : Int) (hs pc tn : Int → Int) (q : Int → Int) (k : Int) : Prop :=
  ((ftF W h pc tn (q k) 0 ↔ k / W = 0) ∧ (ftF W h pc tn (q k) 1 ↔ k % W = W - 1) ∧ (ftF W h pc tn (q k) 2 ↔ k / W = h - 1) ∧ (ftF W h pc tn (q k) 3 ↔ k % W = 0)) ∧ (k / W = 0 ∨ ftM W h hs pc tn (q k) 0 (q (k - W)) 2) ∧ (k % W = 0 ∨ ftM W h hs pc tn (q k) 3 (q (k - 1)) 1)
def coI (W h : Int) (hs : Int → Int) (p e : Int) : Int := ((((0 * 19 + 9 + ehI W h hs p e 0) * 19 + 9 + ehI W h hs p e 1) * 19 + 9 + ehI W h hs p e 2) * 19 + 9 + ehI W h hs p e 3) * 19 + 9 + ehI W h hs p e 4
def maI (W h : Int) (hs : Int → Int) (p e : Int) : Int := ((((0 * 19 + 9 - ehI W h hs p e 4) * 19 + 9 - ehI W h hs p e 3) * 19 + 9 - ehI W h hs p e 2) * 19 + 9 - ehI W h hs p e 1) * 19 + 9 - ehI W h hs p e 0
theorem coI_b {W h : Int} {hs : Int → Int} (hh : hB9 hs) (p e : Int) : 0 ≤ coI W h hs p e ∧ coI W h hs p e < 2476099 := by
  have h0 := ehI_b (W := W) (h := h) hh p e 0
  have h1 := ehI_b (W := W) (h := h) hh p e 1
  have h2 := ehI_b (W := W) (h := h) hh p e 2
  have h3 := ehI_b (W := W) (h := h) hh p e 3
  have h4 := ehI_b (W := W) (h := h) hh p e 4
  unfold coI; omega
theorem maI_b {W h : Int} {hs : Int → Int} (hh : hB9 hs) (p e : Int) : 0 ≤ maI W h hs p e ∧ maI W h hs p e < 2476099 := by
  have h0 := ehI_b (W := W) (h := h) hh p e 0
  have h1 := ehI_b (W := W) (h := h) hh p e 1
  have h2 := ehI_b (W := W) (h := h) hh p e 2
  have h3 := ehI_b (W := W) (h := h) hh p e 3
  have h4 := ehI_b (W := W) (h := h) hh p e 4
  unfold maI; omega
theorem abI_0 {z : Int} : abI z = 0 ↔ z = 0 := by unfold abI; split <;> omega
theorem abI_n (z : Int) : 0 ≤ abI z := by unfold abI; split <;> omega
theorem frI_z {W h : Int} {hs : Int → Int} (p e q f : Int) : frI W h hs p e q f = 0 ↔ (ehI W h hs p e 0 = - ehI W h hs q f 4 ∧ ehI W h hs p e 1 = - ehI W h hs q f 3 ∧ ehI W h hs p e 2 = - ehI W h hs q f 2 ∧ ehI W h hs p e 3 = - ehI W h hs q f 1 ∧ ehI W h hs p e 4 = - ehI W h hs q f 0) := by
  unfold frI
  have a0 := abI_n (ehI W h hs p e 0 + ehI W h hs q f 4)
  have a1 := abI_n (ehI W h hs p e 1 + ehI W h hs q f 3)
  have a2 := abI_n (ehI W h hs p e 2 + ehI W h hs q f 2)
  have a3 := abI_n (ehI W h hs p e 3 + ehI W h hs q f 1)
  have a4 := abI_n (ehI W h hs p e 4 + ehI W h hs q f 0)
  have b0 := @abI_0 (ehI W h hs p e 0 + ehI W h hs q f 4)
  have b1 := @abI_0 (ehI W h hs p e 1 + ehI W h hs q f 3)
  have b2 := @abI_0 (ehI W h hs p e 2 + ehI W h hs q f 2)
  have b3 := @abI_0 (ehI W h hs p e 3 + ehI W h hs q f 1)
  have b4 := @abI_0 (ehI W h hs p e 4 + ehI W h hs q f 0)
  constructor
  · intro z
    have c0 := b0.mp (by omega)
    have c1 := b1.mp (by omega)
    have c2 := b2.mp (by omega)
    have c3 := b3.mp (by omega)
    have c4 := b4.mp (by omega)
    omega
  · intro z
    have c0 := b0.mpr (by omega)
    have c1 := b1.mpr (by omega)
    have c2 := b2.mpr (by omega)
    have c3 := b3.mpr (by omega)
    have c4 := b4.mpr (by omega)
    omega
theorem dig5 {a b c d e a' b' c' d' e' : Int} (ha : -9 ≤ a ∧ a ≤ 9) (hb : -9 ≤ b ∧ b ≤ 9) (hc : -9 ≤ c ∧ c ≤ 9) (hd : -9 ≤ d ∧ d ≤ 9) (he : -9 ≤ e ∧ e ≤ 9) (ha' : -9 ≤ a' ∧ a' ≤ 9) (hb' : -9 ≤ b' ∧ b' ≤ 9) (hc' : -9 ≤ c' ∧ c' ≤ 9) (hd' : -9 ≤ d' ∧ d' ≤ 9) (he' : -9 ≤ e' ∧ e' ≤ 9)
    (q : ((((0 * 19 + 9 + a) * 19 + 9 + b) * 19 + 9 + c) * 19 + 9 + d) * 19 + 9 + e = ((((0 * 19 + 9 - a') * 19 + 9 - b') * 19 + 9 - c') * 19 + 9 - d') * 19 + 9 - e') : a = -a' ∧ b = -b' ∧ c = -c' ∧ d = -d' ∧ e = -e' := by
  have h5 : e = -e' := by omega
  have h4 : d = -d' := by omega
  have h3 : c = -c' := by omega
  have h2 : b = -b' := by omega
  omega
theorem coI_ma {W h : Int} {hs : Int → Int} (hh : hB9 hs) (p e q f : Int) : coI W h hs p e = maI W h hs q f ↔ frI W h hs p e q f = 0 := by
  rw [frI_z]
  unfold coI maI
  constructor
  · intro z
    exact dig5 (ehI_b hh p e 0) (ehI_b hh p e 1) (ehI_b hh p e 2) (ehI_b hh p e 3) (ehI_b hh p e 4) (ehI_b hh q f 4) (ehI_b hh q f 3) (ehI_b hh q f 2) (ehI_b hh q f 1) (ehI_b hh q f 0) z
  · rintro ⟨z0, z1, z2, z3, z4⟩
    omega
theorem FT_c {W h : Int} {hs pc tn q q' : Int → Int} {k : Int} (hB : 1 ≤ W ∧ W ≤ 5 ∧ 1 ≤ h ∧ h ≤ 5) (hk : 0 ≤ k) (hq : ∀ j, 0 ≤ j ∧ j ≤ k → q j = q' j) : FT W h hs pc tn q k ↔ FT W h hs pc tn q' k := by
  unfold FT
  rw [hq k ⟨hk, Int.le_refl _⟩]
  by_cases c1 : k / W = 0
  · by_cases c2 : k % W = 0
    · simp only [c1, c2, true_or]
    · have hk1 : 0 ≤ k - 1 := by
        by_cases z : k = 0
        · rw [z, Int.zero_emod] at c2; omega
        · omega
      rw [hq (k - 1) ⟨hk1, by omega⟩]
      simp only [c1, true_or]
  · have hkW : 0 ≤ k - W := by
      by_cases z : k < W
      · rw [Int.ediv_eq_zero_of_lt hk z] at c1; omega
      · omega
    rw [hq (k - W) ⟨hkW, by omega⟩, hq (k - 1) ⟨by omega, by omega⟩]
abbrev gS : Type := Int × (Int → Int) × (Int → Int) × Int × Int
def skN (u : Int → Int) (n : Int) : Nat → Int → Int
  | 0, a => a
  | m + 1, a => if a < n ∧ u a ≠ 0 then skN u n m (a + 1) else a
def skp (u : Int → Int) (n a : Int) : Int := skN u n 30 a
theorem skN_u {u : Int → Int} {n : Int} : ∀ (m : Nat) (a b : Int), a ≤ b → b - a ≤ m → (∀ j, a ≤ j → j < b → j < n ∧ u j ≠ 0) → (n ≤ b ∨ u b = 0) → skN u n m a = b
  | 0, a, b, h1, h2, _, _ => by show a = b; omega
  | m + 1, a, b, h1, h2, h3, h4 => by
    show (if a < n ∧ u a ≠ 0 then skN u n m (a + 1) else a) = b
    by_cases e : a = b
    · subst e
      rw [if_neg (by intro q; rcases h4 with z | z <;> omega)]
    · rw [if_pos (h3 a (Int.le_refl _) (by omega))]
      exact skN_u m (a + 1) b (by omega) (by omega) (fun j h5 h6 => h3 j (by omega) h6) h4
theorem skp_u {u : Int → Int} {n a b : Int} (h0 : 0 ≤ a) (hn : n ≤ 25) (h1 : a ≤ b) (hb : b ≤ 26) (h3 : ∀ j, a ≤ j → j < b → j < n ∧ u j ≠ 0) (h4 : n ≤ b ∨ u b = 0) : skp u n a = b := skN_u 30 a b h1 (by omega) h3 h4
noncomputable def stA (F : (Int → Int) → Int → Prop) (n N fo k : Int) (q u : Int → Int) (tc fd a v : Int) : gS :=
  if n ≤ a then (if k = 0 then (-1, uI q k v, u, tc, fd) else (k - 1, uI q k v, uI u (uI q k v (k - 1) / 4) 0, tc, fd))
  else if tc = 60000 then (-2, uI q k v, u, tc, fd)
  else @ite gS (F (uI q k v) k) (Classical.propDecidable _) (if k = N - 1 then (if fo = 1 ∧ fd + 1 = 1 then (-3, uI q k v, u, tc + 1, fd + 1) else (k, uI q k v, u, tc + 1, fd + 1)) else (k + 1, uI (uI q k v) (k + 1) (-1), uI u a 1, tc + 1, fd)) (k, uI q k v, u, tc + 1, fd)
noncomputable def stp (F : (Int → Int) → Int → Prop) (n N fo : Int) (s : gS) : gS :=
  if s.1 < 0 then s else stA F n N fo s.1 s.2.1 s.2.2.1 s.2.2.2.1 s.2.2.2.2 (skp s.2.2.1 n ((s.2.1 s.1 + 1) / 4)) (skp s.2.2.1 n ((s.2.1 s.1 + 1) / 4) * 4 + (s.2.1 s.1 + 1) % 4)
noncomputable def itS (F : (Int → Int) → Int → Prop) (n N fo : Int) : Nat → gS → gS
  | 0, s => s
  | m + 1, s => stp F n N fo (itS F n N fo m s)
theorem itS_a (F : (Int → Int) → Int → Prop) (n N fo : Int) (s : gS) (a : Nat) : ∀ b : Nat, itS F n N fo b (itS F n N fo a s) = itS F n N fo (a + b) s
  | 0 => rfl
  | b + 1 => by
    show stp F n N fo (itS F n N fo b (itS F n N fo a s)) = stp F n N fo (itS F n N fo (a + b) s)
    rw [itS_a F n N fo s a b]
section ST
variable {F : (Int → Int) → Int → Prop} {n N fo k : Int} {q u : Int → Int} {tc fd a : Int}
theorem st_go (hk : 0 ≤ k) (ha : skp u n ((q k + 1) / 4) = a) : stp F n N fo (k, q, u, tc, fd) = stA F n N fo k q u tc fd a (a * 4 + (q k + 1) % 4) := by
  show (if k < 0 then _ else stA F n N fo k q u tc fd (skp u n ((q k + 1) / 4)) (skp u n ((q k + 1) / 4) * 4 + (q k + 1) % 4)) = _
  rw [if_neg (by omega), ha]
theorem st_halt {s : gS} (h : s.1 < 0) : stp F n N fo s = s := if_pos h
theorem st_back0 (hk : k = 0) (ha : skp u n ((q k + 1) / 4) = a) (h : n ≤ a) : stp F n N fo (k, q, u, tc, fd) = (-1, uI q k (a * 4 + (q k + 1) % 4), u, tc, fd) := by
  rw [st_go (by omega) ha]; unfold stA; rw [if_pos h, if_pos hk]
theorem st_back (hk : 0 < k) (ha : skp u n ((q k + 1) / 4) = a) (h : n ≤ a) : stp F n N fo (k, q, u, tc, fd) = (k - 1, uI q k (a * 4 + (q k + 1) % 4), uI u (q (k - 1) / 4) 0, tc, fd) := by
  rw [st_go (by omega) ha]; unfold stA; rw [if_pos h, if_neg (by omega), uI_ne (f := q) (by omega)]
theorem st_spent (hk : 0 ≤ k) (ha : skp u n ((q k + 1) / 4) = a) (h : a < n) (ht : tc = 60000) : stp F n N fo (k, q, u, tc, fd) = (-2, uI q k (a * 4 + (q k + 1) % 4), u, tc, fd) := by
  rw [st_go hk ha]; unfold stA; rw [if_neg (by omega), if_pos ht]
theorem st_not (hk : 0 ≤ k) (ha : skp u n ((q k + 1) / 4) = a) (h : a < n) (ht : tc ≠ 60000) (hF : ¬ F (uI q k (a * 4 + (q k + 1) % 4)) k) : stp F n N fo (k, q, u, tc, fd) = (k, uI q k (a * 4 + (q k + 1) % 4), u, tc + 1, fd) := by
  rw [st_go hk ha]; unfold stA; rw [if_neg (by omega), if_neg ht, if_neg hF]
theorem st_last1 (hk : 0 ≤ k) (ha : skp u n ((q k + 1) / 4) = a) (h : a < n) (ht : tc ≠ 60000) (hF : F (uI q k (a * 4 + (q k + 1) % 4)) k) (hN : k = N - 1) (hf : fo = 1 ∧ fd + 1 = 1) : stp F n N fo (k, q, u, tc, fd) = (-3, uI q k (a * 4 + (q k + 1) % 4), u, tc + 1, fd + 1) := by
  rw [st_go hk ha]; unfold stA; rw [if_neg (by omega), if_neg ht, if_pos hF, if_pos hN, if_pos hf]
theorem st_last (hk : 0 ≤ k) (ha : skp u n ((q k + 1) / 4) = a) (h : a < n) (ht : tc ≠ 60000) (hF : F (uI q k (a * 4 + (q k + 1) % 4)) k) (hN : k = N - 1) (hf : ¬ (fo = 1 ∧ fd + 1 = 1)) : stp F n N fo (k, q, u, tc, fd) = (k, uI q k (a * 4 + (q k + 1) % 4), u, tc + 1, fd + 1) := by
  rw [st_go hk ha]; unfold stA; rw [if_neg (by omega), if_neg ht, if_pos hF, if_pos hN, if_neg hf]
theorem st_down (hk : 0 ≤ k) (ha : skp u n ((q k + 1) / 4) = a) (h : a < n) (ht : tc ≠ 60000) (hF : F (uI q k (a * 4 + (q k + 1) % 4)) k) (hN : k ≠ N - 1) : stp F n N fo (k, q, u, tc, fd) = (k + 1, uI (uI q k (a * 4 + (q k + 1) % 4)) (k + 1) (-1), uI u a 1, tc + 1, fd) := by
  rw [st_go hk ha]; unfold stA; rw [if_neg (by omega), if_neg ht, if_pos hF, if_neg hN]
end ST
/-- s comes to a state whose next is c's next -/
def rcS (F : (Int → Int) → Int → Prop) (n N fo : Int) (s c : gS) : Prop := ∃ m : Nat, stp F n N fo (itS F n N fo m s) = stp F n N fo c
theorem rc_rf {F : (Int → Int) → Int → Prop} {n N fo : Int} (s : gS) : rcS F n N fo s s := ⟨0, rfl⟩
theorem rc_it {F : (Int → Int) → Int → Prop} {n N fo : Int} {s c : gS} (h : ∃ m : Nat, itS F n N fo m s = c) : rcS F n N fo s c := by
  obtain ⟨m, e⟩ := h
  exact ⟨m, by rw [e]⟩
theorem rc_eq {F : (Int → Int) → Int → Prop} {n N fo : Int} {s c d : gS} (h : rcS F n N fo s c) (e : stp F n N fo c = stp F n N fo d) : rcS F n N fo s d := by
  obtain ⟨m, q⟩ := h
  exact ⟨m, q.trans e⟩
theorem rc_st {F : (Int → Int) → Int → Prop} {n N fo : Int} {s c d : gS} (h : rcS F n N fo s c) (e : stp F n N fo c = d) : ∃ m : Nat, itS F n N fo m s = d := by
  obtain ⟨m, q⟩ := h
  exact ⟨m + 1, q.trans e⟩
theorem it_tr {F : (Int → Int) → Int → Prop} {n N fo : Int} {s c d : gS} (h : ∃ m : Nat, itS F n N fo m s = c) (h2 : ∃ m : Nat, itS F n N fo m c = d) : ∃ m : Nat, itS F n N fo m s = d := by
  obtain ⟨a, e⟩ := h
  obtain ⟨b, e2⟩ := h2
  exact ⟨a + b, by rw [← itS_a, e, e2]⟩
end
section
theorem lX1_width_22 : Cond.fieldLink RX1 22 (TX1 2).1 (TX1 2).2.1 (TX1 2).2.2.1 ∈ wsX1_width := by decide +kernel
theorem iX1_width_X1 : ∀ w ∈ u_ws RX1 TX1 4, w ∈ wsX1_width := by decide +kernel
set_option maxHeartbeats 4000000 in
set_option maxRecDepth 100000 in
theorem k_X1_width (E : gE) (l : Launch) {a_P a_hs a_se : Nat} {W h : Int}  : gFun E l yX1_width wsX1_width { frames := 0, cells := 0, slots := 0, locals := 0 } [.ref a_P] [(a_P, .inr (1, [.ref a_hs, .ref a_se, .int (iI W), .int (iI h)]))] (.int (iI W)) := by
  refine g_start (cc := cX1_width) (maxL := 1) (ret := (some .int)) (by decide) rfl (Nat.le_of_ble_eq_true rfl) ?_
  intro p_ e_ s_ m_ args_ below_ meth_ c_ A_ C hr hnm
  refine g_aload_n 1 C 0 dX1_width_0 rfl rfl ?_
  refine g_get 4 C 0 2 1 iX1_width_X1 lX1_width_22 dX1_width_1 rfl rfl rfl (by decide) rfl ?_
  exact g_iret C hr dX1_width_4 ⟨g_ri (by first | rfl | omega | exact (if_pos (by omega)).symm | exact (if_neg (by omega)).symm), rfl⟩
theorem lX1_depth_26 : Cond.fieldLink RX1 26 (TX1 3).1 (TX1 3).2.1 (TX1 3).2.2.1 ∈ wsX1_depth := by decide +kernel
theorem iX1_depth_X1 : ∀ w ∈ u_ws RX1 TX1 4, w ∈ wsX1_depth := by decide +kernel
set_option maxHeartbeats 4000000 in
set_option maxRecDepth 100000 in
theorem k_X1_depth (E : gE) (l : Launch) {a_P a_hs a_se : Nat} {W h : Int}  : gFun E l yX1_depth wsX1_depth { frames := 0, cells := 0, slots := 0, locals := 0 } [.ref a_P] [(a_P, .inr (1, [.ref a_hs, .ref a_se, .int (iI W), .int (iI h)]))] (.int (iI h)) := by
  refine g_start (cc := cX1_depth) (maxL := 1) (ret := (some .int)) (by decide) rfl (Nat.le_of_ble_eq_true rfl) ?_
  intro p_ e_ s_ m_ args_ below_ meth_ c_ A_ C hr hnm
  refine g_aload_n 1 C 0 dX1_depth_0 rfl rfl ?_
  refine g_get 4 C 0 3 1 iX1_depth_X1 lX1_depth_26 dX1_depth_1 rfl rfl rfl (by decide) rfl ?_
  exact g_iret C hr dX1_depth_4 ⟨g_ri (by first | rfl | omega | exact (if_pos (by omega)).symm | exact (if_neg (by omega)).symm), rfl⟩
theorem lX1_pieces_22 : Cond.fieldLink RX1 22 (TX1 2).1 (TX1 2).2.1 (TX1 2).2.2.1 ∈ wsX1_pieces := by decide +kernel
theorem lX1_pieces_26 : Cond.fieldLink RX1 26 (TX1 3).1 (TX1 3).2.1 (TX1 3).2.2.1 ∈ wsX1_pieces := by decide +kernel
theorem iX1_pieces_X1 : ∀ w ∈ u_ws RX1 TX1 4, w ∈ wsX1_pieces := by decide +kernel
set_option maxHeartbeats 4000000 in
set_option maxRecDepth 100000 in
theorem k_X1_pieces (E : gE) (l : Launch) {a_P a_hs a_se : Nat} {W h : Int}  : gFun E l yX1_pieces wsX1_pieces { frames := 0, cells := 0, slots := 0, locals := 0 } [.ref a_P] [(a_P, .inr (1, [.ref a_hs, .ref a_se, .int (iI W), .int (iI h)]))] (.int (iI (W * h))) := by
  refine g_start (cc := cX1_pieces) (maxL := 1) (ret := (some .int)) (by decide) rfl (Nat.le_of_ble_eq_true rfl) ?_
  intro p_ e_ s_ m_ args_ below_ meth_ c_ A_ C hr hnm
  refine g_aload_n 1 C 0 dX1_pieces_0 rfl rfl ?_
  refine g_get 4 C 0 2 1 iX1_pieces_X1 lX1_pieces_22 dX1_pieces_1 rfl rfl rfl (by decide) rfl ?_
  refine g_aload_n 5 C 0 dX1_pieces_4 rfl rfl ?_
  refine g_get 8 C 0 3 1 iX1_pieces_X1 lX1_pieces_26 dX1_pieces_5 rfl rfl rfl (by decide) rfl ?_
  refine g_imul 9 C dX1_pieces_8 rfl ?_
  exact g_iret C hr dX1_pieces_9 ⟨g_ri (by first | rfl | omega | exact (if_pos (by omega)).symm | exact (if_neg (by omega)).symm), rfl⟩
theorem lX1_sides_22 : Cond.fieldLink RX1 22 (TX1 2).1 (TX1 2).2.1 (TX1 2).2.2.1 ∈ wsX1_sides := by decide +kernel
theorem lX1_sides_26 : Cond.fieldLink RX1 26 (TX1 3).1 (TX1 3).2.1 (TX1 3).2.2.1 ∈ wsX1_sides := by decide +kernel
theorem iX1_sides_X1 : ∀ w ∈ u_ws RX1 TX1 4, w ∈ wsX1_sides := by decide +kernel
set_option maxHeartbeats 4000000 in
set_option maxRecDepth 100000 in
theorem k_X1_sides (E : gE) (l : Launch) {a_P a_hs a_se : Nat} {W h : Int}  : gFun E l yX1_sides wsX1_sides { frames := 0, cells := 0, slots := 0, locals := 0 } [.ref a_P] [(a_P, .inr (1, [.ref a_hs, .ref a_se, .int (iI W), .int (iI h)]))] (.int (iI (nsd W h))) := by
  refine g_start (cc := cX1_sides) (maxL := 1) (ret := (some .int)) (by decide) rfl (Nat.le_of_ble_eq_true rfl) ?_
  intro p_ e_ s_ m_ args_ below_ meth_ c_ A_ C hr hnm
  refine g_aload_n 1 C 0 dX1_sides_0 rfl rfl ?_
  refine g_get 4 C 0 2 1 iX1_sides_X1 lX1_sides_22 dX1_sides_1 rfl rfl rfl (by decide) rfl ?_
  refine g_iconst 5 C dX1_sides_4 rfl ?_
  refine g_isub 6 C dX1_sides_5 rfl ?_
  refine g_aload_n 7 C 0 dX1_sides_6 rfl rfl ?_
  refine g_get 10 C 0 3 1 iX1_sides_X1 lX1_sides_26 dX1_sides_7 rfl rfl rfl (by decide) rfl ?_
  refine g_imul 11 C dX1_sides_10 rfl ?_
  refine g_aload_n 12 C 0 dX1_sides_11 rfl rfl ?_
  refine g_get 15 C 0 2 1 iX1_sides_X1 lX1_sides_22 dX1_sides_12 rfl rfl rfl (by decide) rfl ?_
  refine g_aload_n 16 C 0 dX1_sides_15 rfl rfl ?_
  refine g_get 19 C 0 3 1 iX1_sides_X1 lX1_sides_26 dX1_sides_16 rfl rfl rfl (by decide) rfl ?_
  refine g_iconst 20 C dX1_sides_19 rfl ?_
  refine g_isub 21 C dX1_sides_20 rfl ?_
  refine g_imul 22 C dX1_sides_21 rfl ?_
  refine g_iadd 23 C dX1_sides_22 rfl ?_
  exact g_iret C hr dX1_sides_23 ⟨g_ri (by first | rfl | omega | exact (if_pos (by omega)).symm | exact (if_neg (by omega)).symm), rfl⟩
theorem cdX1_sides : yX1_sides.cls = RX1 ∧ yX1_sides.cls ≠ "java/lang/invoke/MethodHandle" ∧ yX1_sides.cls ≠ "java/lang/invoke/VarHandle" ∧ (parseMethodDescriptor yX1_sides.desc).map (fun d => d.parameters.length) = some 0 := by decide +kernel
set_option maxHeartbeats 4000000 in
set_option maxRecDepth 100000 in
theorem k_X1_hasSide (E : gE) (l : Launch) {a_P a_hs a_se : Nat} {W h z : Int} (hB : 1 ≤ W ∧ W ≤ 5 ∧ 1 ≤ h ∧ h ≤ 5) (hz : -2147483648 ≤ z ∧ z < 2147483648) : gFun E l yX1_hasSide wsX1_hasSide { frames := 1, cells := 0, slots := 0, locals := 20 } [.ref a_P, .int (iI z)] [(a_P, .inr (1, [.ref a_hs, .ref a_se, .int (iI W), .int (iI h)]))] (.int (iI (if 0 ≤ z ∧ z < nsd W h then 1 else 0))) := by
  refine g_start (cc := cX1_hasSide) (maxL := 2) (ret := (some .boolean)) (by decide) rfl (Nat.le_of_ble_eq_true rfl) ?_
  intro p_ e_ s_ m_ args_ below_ meth_ c_ A_ C hr hnm
  have hn := nsd_b hB
  refine g_iload_n 1 C 1 dX1_hasSide_0 rfl rfl ?_
  refine g_if_lt 16 4 C dX1_hasSide_1 (by decide) rfl (by omega) ?_ ?_
  · intro h1
    refine g_iconst 17 C dX1_hasSide_16 rfl ?_
    exact g_zret C hr dX1_hasSide_17 (by first | rfl | decide | (split <;> rfl)) ⟨g_ri (by first | rfl | omega | exact (if_pos (by omega)).symm | exact (if_neg (by omega)).symm), rfl⟩
  · intro h1
    refine g_iload_n 5 C 1 dX1_hasSide_4 rfl rfl ?_
    refine g_aload_n 6 C 0 dX1_hasSide_5 rfl rfl ?_
    refine g_callVF 9 C [0] dX1_hasSide_6 rfl (k_X1_sides E l  ) (cwV 0 C.2.2.2.2.1 gX1_hasSide_X1_sides rfl rfl rfl cdX1_sides ⟨Nat.le_of_ble_eq_true rfl, Nat.le_of_ble_eq_true rfl⟩) rfl rfl rfl rfl (Nat.le_of_ble_eq_true rfl) 0 1 rfl rfl rfl ⟨Nat.le_of_ble_eq_true rfl, Nat.le_of_ble_eq_true rfl⟩ ?_
    refine g_icmp_ge 16 12 C dX1_hasSide_9 (by decide) rfl (by omega) ?_ ?_
    · intro h9
      refine g_iconst 17 C dX1_hasSide_16 rfl ?_
      exact g_zret C hr dX1_hasSide_17 (by first | rfl | decide | (split <;> rfl)) ⟨g_ri (by first | rfl | omega | exact (if_pos (by omega)).symm | exact (if_neg (by omega)).symm), rfl⟩
    · intro h9
      refine g_iconst 13 C dX1_hasSide_12 rfl ?_
      refine g_goto 17 C dX1_hasSide_13 (by decide) ?_
      exact g_zret C hr dX1_hasSide_17 (by first | rfl | decide | (split <;> rfl)) ⟨g_ri (by first | rfl | omega | exact (if_pos (by omega)).symm | exact (if_neg (by omega)).symm), rfl⟩
theorem cdX1_pieces : yX1_pieces.cls = RX1 ∧ yX1_pieces.cls ≠ "java/lang/invoke/MethodHandle" ∧ yX1_pieces.cls ≠ "java/lang/invoke/VarHandle" ∧ (parseMethodDescriptor yX1_pieces.desc).map (fun d => d.parameters.length) = some 0 := by decide +kernel
set_option maxHeartbeats 4000000 in
set_option maxRecDepth 100000 in
theorem k_X1_hasPiece (E : gE) (l : Launch) {a_P a_hs a_se : Nat} {W h z : Int} (hB : 1 ≤ W ∧ W ≤ 5 ∧ 1 ≤ h ∧ h ≤ 5) (hz : -2147483648 ≤ z ∧ z < 2147483648) : gFun E l yX1_hasPiece wsX1_hasPiece { frames := 1, cells := 0, slots := 0, locals := 20 } [.ref a_P, .int (iI z)] [(a_P, .inr (1, [.ref a_hs, .ref a_se, .int (iI W), .int (iI h)]))] (.int (iI (if 0 ≤ z ∧ z < W * h then 1 else 0))) := by
  refine g_start (cc := cX1_hasPiece) (maxL := 2) (ret := (some .boolean)) (by decide) rfl (Nat.le_of_ble_eq_true rfl) ?_
  intro p_ e_ s_ m_ args_ below_ meth_ c_ A_ C hr hnm
  have hn := nsd_b hB
  refine g_iload_n 1 C 1 dX1_hasPiece_0 rfl rfl ?_
  refine g_if_lt 16 4 C dX1_hasPiece_1 (by decide) rfl (by omega) ?_ ?_
  · intro h1
    refine g_iconst 17 C dX1_hasPiece_16 rfl ?_
    exact g_zret C hr dX1_hasPiece_17 (by first | rfl | decide | (split <;> rfl)) ⟨g_ri (by first | rfl | omega | exact (if_pos (by omega)).symm | exact (if_neg (by omega)).symm), rfl⟩
  · intro h1
    refine g_iload_n 5 C 1 dX1_hasPiece_4 rfl rfl ?_
    refine g_aload_n 6 C 0 dX1_hasPiece_5 rfl rfl ?_
    refine g_callVF 9 C [0] dX1_hasPiece_6 rfl (k_X1_pieces E l  ) (cwV 0 C.2.2.2.2.1 gX1_hasPiece_X1_pieces rfl rfl rfl cdX1_pieces ⟨Nat.le_of_ble_eq_true rfl, Nat.le_of_ble_eq_true rfl⟩) rfl rfl rfl rfl (Nat.le_of_ble_eq_true rfl) 0 1 rfl rfl rfl ⟨Nat.le_of_ble_eq_true rfl, Nat.le_of_ble_eq_true rfl⟩ ?_
    refine g_icmp_ge 16 12 C dX1_hasPiece_9 (by decide) rfl (by omega) ?_ ?_
    · intro h9
      refine g_iconst 17 C dX1_hasPiece_16 rfl ?_
      exact g_zret C hr dX1_hasPiece_17 (by first | rfl | decide | (split <;> rfl)) ⟨g_ri (by first | rfl | omega | exact (if_pos (by omega)).symm | exact (if_neg (by omega)).symm), rfl⟩
    · intro h9
      refine g_iconst 13 C dX1_hasPiece_12 rfl ?_
      refine g_goto 17 C dX1_hasPiece_13 (by decide) ?_
      exact g_zret C hr dX1_hasPiece_17 (by first | rfl | decide | (split <;> rfl)) ⟨g_ri (by first | rfl | omega | exact (if_pos (by omega)).symm | exact (if_neg (by omega)).symm), rfl⟩
theorem cdX1_hasPiece : yX1_hasPiece.cls = RX1 ∧ yX1_hasPiece.cls ≠ "java/lang/invoke/MethodHandle" ∧ yX1_hasPiece.cls ≠ "java/lang/invoke/VarHandle" ∧ (parseMethodDescriptor yX1_hasPiece.desc).map (fun d => d.parameters.length) = some 1 := by decide +kernel
set_option maxHeartbeats 4000000 in
set_option maxRecDepth 100000 in
theorem k_X1_hasEdge (E : gE) (l : Launch) {a_P a_hs a_se : Nat} {W h z y : Int} (hB : 1 ≤ W ∧ W ≤ 5 ∧ 1 ≤ h ∧ h ≤ 5) (hz : -2147483648 ≤ z ∧ z < 2147483648) (hy : -2147483648 ≤ y ∧ y < 2147483648) : gFun E l yX1_hasEdge wsX1_hasEdge { frames := 2, cells := 0, slots := 0, locals := 41 } [.ref a_P, .int (iI z), .int (iI y)] [(a_P, .inr (1, [.ref a_hs, .ref a_se, .int (iI W), .int (iI h)]))] (.int (iI (if (0 ≤ z ∧ z < W * h) ∧ 0 ≤ y ∧ y < 4 then 1 else 0))) := by
  refine g_start (cc := cX1_hasEdge) (maxL := 3) (ret := (some .boolean)) (by decide) rfl (Nat.le_of_ble_eq_true rfl) ?_
  intro p_ e_ s_ m_ args_ below_ meth_ c_ A_ C hr hnm
  have hn := nsd_b hB
  refine g_aload_n 1 C 0 dX1_hasEdge_0 rfl rfl ?_
  refine g_iload_n 2 C 1 dX1_hasEdge_1 rfl rfl ?_
  refine g_callVF 5 C [0] dX1_hasEdge_2 rfl (k_X1_hasPiece E l  (by first | assumption | omega) (by first | assumption | omega)) (cwV 1 C.2.2.2.2.1 gX1_hasEdge_X1_hasPiece rfl rfl rfl cdX1_hasPiece ⟨Nat.le_of_ble_eq_true rfl, Nat.le_of_ble_eq_true rfl⟩) rfl rfl rfl rfl (Nat.le_of_ble_eq_true rfl) 0 1 rfl rfl rfl ⟨Nat.le_of_ble_eq_true rfl, Nat.le_of_ble_eq_true rfl⟩ ?_
  refine g_ifb_eq 21 8 C dX1_hasEdge_5 (by decide) rfl ?_ ?_
  · intro h5
    refine g_iconst 22 C dX1_hasEdge_21 rfl ?_
    exact g_zret C hr dX1_hasEdge_22 (by first | rfl | decide | (split <;> rfl)) ⟨g_ri (by first | rfl | omega | exact (if_pos (by omega)).symm | exact (if_neg (by omega)).symm), rfl⟩
  · intro h5
    refine g_iload_n 9 C 2 dX1_hasEdge_8 rfl rfl ?_
    refine g_if_lt 21 12 C dX1_hasEdge_9 (by decide) rfl (by omega) ?_ ?_
    · intro h9
      refine g_iconst 22 C dX1_hasEdge_21 rfl ?_
      exact g_zret C hr dX1_hasEdge_22 (by first | rfl | decide | (split <;> rfl)) ⟨g_ri (by first | rfl | omega | exact (if_pos (by omega)).symm | exact (if_neg (by omega)).symm), rfl⟩
    · intro h9
      refine g_iload_n 13 C 2 dX1_hasEdge_12 rfl rfl ?_
      refine g_iconst 14 C dX1_hasEdge_13 rfl ?_
      refine g_icmp_ge 21 17 C dX1_hasEdge_14 (by decide) rfl (by omega) ?_ ?_
      · intro h14
        refine g_iconst 22 C dX1_hasEdge_21 rfl ?_
        exact g_zret C hr dX1_hasEdge_22 (by first | rfl | decide | (split <;> rfl)) ⟨g_ri (by first | rfl | omega | exact (if_pos (by omega)).symm | exact (if_neg (by omega)).symm), rfl⟩
      · intro h14
        refine g_iconst 18 C dX1_hasEdge_17 rfl ?_
        refine g_goto 22 C dX1_hasEdge_18 (by decide) ?_
        exact g_zret C hr dX1_hasEdge_22 (by first | rfl | decide | (split <;> rfl)) ⟨g_ri (by first | rfl | omega | exact (if_pos (by omega)).symm | exact (if_neg (by omega)).symm), rfl⟩
theorem lX1_sideAt_15 : Cond.fieldLink RX1 15 (TX1 1).1 (TX1 1).2.1 (TX1 1).2.2.1 ∈ wsX1_sideAt := by decide +kernel
theorem iX1_sideAt_X1 : ∀ w ∈ u_ws RX1 TX1 4, w ∈ wsX1_sideAt := by decide +kernel
set_option maxHeartbeats 4000000 in
set_option maxRecDepth 100000 in
theorem k_X1_sideAt (E : gE) (l : Launch) {a_P a_hs a_se : Nat} {W h p e : Int} {se : Int → Int} (hB : 1 ≤ W ∧ W ≤ 5 ∧ 1 ≤ h ∧ h ≤ 5) (hp : 0 ≤ p ∧ p < W * h) (he : 0 ≤ e ∧ e < 4) (hse : ∀ p e : Int, 0 ≤ p ∧ p < W * h → 0 ≤ e ∧ e < 4 → se (p * 4 + e) = sdI W h p e) : gFun E l yX1_sideAt wsX1_sideAt { frames := 0, cells := 0, slots := 0, locals := 0 } [.ref a_P, .int (iI p), .int (iI e)] [(a_P, .inr (1, [.ref a_hs, .ref a_se, .int (iI W), .int (iI h)])), (a_se, aI E 100 se)] (.int (iI (sdI W h p e))) := by
  refine g_start (cc := cX1_sideAt) (maxL := 4) (ret := (some .int)) (by decide) rfl (Nat.le_of_ble_eq_true rfl) ?_
  intro p_ e_ s_ m_ args_ below_ meth_ c_ A_ C hr hnm
  have hn := nsd_b hB
  refine g_iload_n 1 C 1 dX1_sideAt_0 rfl rfl ?_
  refine g_iconst 2 C dX1_sideAt_1 rfl ?_
  refine g_imul 3 C dX1_sideAt_2 rfl ?_
  refine g_iload_n 4 C 2 dX1_sideAt_3 rfl rfl ?_
  refine g_iadd 5 C dX1_sideAt_4 rfl ?_
  refine g_istore_n (lv' := [(3, _), (0, _), (1, _), (2, _)]) 6 C dX1_sideAt_5 rfl rfl (by decide) rfl ?_
  refine g_iload_n 7 C 0 dX1_sideAt_6 rfl rfl ?_
  refine g_if_lt 28 10 C dX1_sideAt_7 (by decide) rfl (by omega) (fun h7 => absurd h7 (by omega)) ?_
  intro h7
  refine g_iload_n 11 C 0 dX1_sideAt_10 rfl rfl ?_
  refine g_aload_n 12 C 1 dX1_sideAt_11 rfl rfl ?_
  refine g_get 15 C 0 1 1 iX1_sideAt_X1 lX1_sideAt_15 dX1_sideAt_12 rfl rfl rfl (by decide) rfl ?_
  refine g_alenI 16 C 1 dX1_sideAt_15 rfl rfl ?_
  refine g_icmp_ge 28 19 C dX1_sideAt_16 (by decide) rfl (by omega) (fun h16 => absurd h16 (by omega)) ?_
  intro h16
  refine g_aload_n 20 C 1 dX1_sideAt_19 rfl rfl ?_
  refine g_get 23 C 0 1 1 iX1_sideAt_X1 lX1_sideAt_15 dX1_sideAt_20 rfl rfl rfl (by decide) rfl ?_
  refine g_iload_n 24 C 0 dX1_sideAt_23 rfl rfl ?_
  refine g_iaload 25 C 1 dX1_sideAt_24 rfl rfl (by omega) ?_
  refine g_goto 30 C dX1_sideAt_25 (by decide) ?_
  exact g_iret C hr dX1_sideAt_30 ⟨g_ri (hse p e hp he), rfl⟩
theorem cdX1_sideAt : yX1_sideAt.cls = RX1 ∧ yX1_sideAt.cls ≠ "java/lang/invoke/MethodHandle" ∧ yX1_sideAt.cls ≠ "java/lang/invoke/VarHandle" ∧ (parseMethodDescriptor yX1_sideAt.desc).map (fun d => d.parameters.length) = some 2 := by decide +kernel
set_option maxHeartbeats 4000000 in
set_option maxRecDepth 100000 in
theorem k_X1_isFlat (E : gE) (l : Launch) {a_P a_hs a_se : Nat} {W h p e : Int} {se : Int → Int} (hB : 1 ≤ W ∧ W ≤ 5 ∧ 1 ≤ h ∧ h ≤ 5) (hp : 0 ≤ p ∧ p < W * h) (he : 0 ≤ e ∧ e < 4) (hse : ∀ p e : Int, 0 ≤ p ∧ p < W * h → 0 ≤ e ∧ e < 4 → se (p * 4 + e) = sdI W h p e) : gFun E l yX1_isFlat wsX1_isFlat { frames := 1, cells := 0, slots := 0, locals := 23 } [.ref a_P, .int (iI p), .int (iI e)] [(a_P, .inr (1, [.ref a_hs, .ref a_se, .int (iI W), .int (iI h)])), (a_se, aI E 100 se)] (.int (iI (if sdI W h p e = -9 then 1 else 0))) := by
  refine g_start (cc := cX1_isFlat) (maxL := 3) (ret := (some .boolean)) (by decide) rfl (Nat.le_of_ble_eq_true rfl) ?_
  intro p_ e_ s_ m_ args_ below_ meth_ c_ A_ C hr hnm
  have hn := nsd_b hB
  have hb := sdI_b hB hp he
  refine g_aload_n 1 C 0 dX1_isFlat_0 rfl rfl ?_
  refine g_iload_n 2 C 1 dX1_isFlat_1 rfl rfl ?_
  refine g_iload_n 3 C 2 dX1_isFlat_2 rfl rfl ?_
  refine g_callVF 6 C [0, 1] dX1_isFlat_3 rfl (k_X1_sideAt E l  (by first | assumption | omega) (by first | assumption | omega) (by first | assumption | omega) (by first | assumption | omega)) (cwV 2 C.2.2.2.2.1 gX1_isFlat_X1_sideAt rfl rfl rfl cdX1_sideAt ⟨Nat.le_of_ble_eq_true rfl, Nat.le_of_ble_eq_true rfl⟩) rfl rfl rfl rfl (Nat.le_of_ble_eq_true rfl) 0 1 rfl rfl rfl ⟨Nat.le_of_ble_eq_true rfl, Nat.le_of_ble_eq_true rfl⟩ ?_
  refine g_bipush 8 C dX1_isFlat_6 rfl (by decide) ?_
  refine g_icmp_ne 15 11 C dX1_isFlat_8 (by decide) rfl (by omega) ?_ ?_
  · intro h8
    refine g_iconst 16 C dX1_isFlat_15 rfl ?_
    exact g_zret C hr dX1_isFlat_16 (by first | rfl | decide | (split <;> rfl)) ⟨g_ri (by first | rfl | omega | exact (if_pos (by omega)).symm | exact (if_neg (by omega)).symm), rfl⟩
  · intro h8
    refine g_iconst 12 C dX1_isFlat_11 rfl ?_
    refine g_goto 16 C dX1_isFlat_12 (by decide) ?_
    exact g_zret C hr dX1_isFlat_16 (by first | rfl | decide | (split <;> rfl)) ⟨g_ri (by first | rfl | omega | exact (if_pos (by omega)).symm | exact (if_neg (by omega)).symm), rfl⟩
theorem lX1_nextTo_22 : Cond.fieldLink RX1 22 (TX1 2).1 (TX1 2).2.1 (TX1 2).2.2.1 ∈ wsX1_nextTo := by decide +kernel
theorem iX1_nextTo_X1 : ∀ w ∈ u_ws RX1 TX1 4, w ∈ wsX1_nextTo := by decide +kernel
set_option maxHeartbeats 4000000 in
set_option maxRecDepth 100000 in
theorem k_X1_nextTo (E : gE) (l : Launch) {a_P a_hs a_se : Nat} {W h p e : Int} (he : 0 ≤ e ∧ e < 4) : gFun E l yX1_nextTo wsX1_nextTo { frames := 0, cells := 0, slots := 0, locals := 0 } [.ref a_P, .int (iI p), .int (iI e)] [(a_P, .inr (1, [.ref a_hs, .ref a_se, .int (iI W), .int (iI h)]))] (.int (iI (nxI W p e))) := by
  refine g_start (cc := cX1_nextTo) (maxL := 3) (ret := (some .int)) (by decide) rfl (Nat.le_of_ble_eq_true rfl) ?_
  intro p_ e_ s_ m_ args_ below_ meth_ c_ A_ C hr hnm
  refine g_iload_n 1 C 2 dX1_nextTo_0 rfl rfl ?_
  refine g_split (e = 0) ?_ ?_
  · intro hs1_0
    refine g_tsw 28 C 0 dX1_nextTo_1 (by omega) (by omega) (by decide) (by decide) rfl (by decide) ?_
    refine g_iload_n 29 C 1 dX1_nextTo_28 rfl rfl ?_
    refine g_aload_n 30 C 0 dX1_nextTo_29 rfl rfl ?_
    refine g_get 33 C 0 2 1 iX1_nextTo_X1 lX1_nextTo_22 dX1_nextTo_30 rfl rfl rfl (by decide) rfl ?_
    refine g_isub 34 C dX1_nextTo_33 rfl ?_
    exact g_iret C hr dX1_nextTo_34 ⟨g_ri (by unfold nxI; (repeat' split) <;> omega), rfl⟩
  intro hs1_0
  refine g_split (e = 1) ?_ ?_
  · intro hs1_1
    refine g_tsw 35 C 1 dX1_nextTo_1 (by omega) (by omega) (by decide) (by decide) rfl (by decide) ?_
    refine g_iload_n 36 C 1 dX1_nextTo_35 rfl rfl ?_
    refine g_iconst 37 C dX1_nextTo_36 rfl ?_
    refine g_iadd 38 C dX1_nextTo_37 rfl ?_
    exact g_iret C hr dX1_nextTo_38 ⟨g_ri (by unfold nxI; (repeat' split) <;> omega), rfl⟩
  intro hs1_1
  refine g_split (e = 2) ?_ ?_
  · intro hs1_2
    refine g_tsw 39 C 2 dX1_nextTo_1 (by omega) (by omega) (by decide) (by decide) rfl (by decide) ?_
    refine g_iload_n 40 C 1 dX1_nextTo_39 rfl rfl ?_
    refine g_aload_n 41 C 0 dX1_nextTo_40 rfl rfl ?_
    refine g_get 44 C 0 2 1 iX1_nextTo_X1 lX1_nextTo_22 dX1_nextTo_41 rfl rfl rfl (by decide) rfl ?_
    refine g_iadd 45 C dX1_nextTo_44 rfl ?_
    exact g_iret C hr dX1_nextTo_45 ⟨g_ri (by unfold nxI; (repeat' split) <;> omega), rfl⟩
  intro hs1_2
  refine g_tswd 46 C dX1_nextTo_1 (by omega) (by omega) (by decide) ?_
  refine g_iload_n 47 C 1 dX1_nextTo_46 rfl rfl ?_
  refine g_iconst 48 C dX1_nextTo_47 rfl ?_
  refine g_isub 49 C dX1_nextTo_48 rfl ?_
  exact g_iret C hr dX1_nextTo_49 ⟨g_ri (by unfold nxI; (repeat' split) <;> omega), rfl⟩
theorem lX1_setHeight_9 : Cond.fieldLink RX1 9 (TX1 0).1 (TX1 0).2.1 (TX1 0).2.2.1 ∈ wsX1_setHeight := by decide +kernel
theorem iX1_setHeight_X1 : ∀ w ∈ u_ws RX1 TX1 4, w ∈ wsX1_setHeight := by decide +kernel
set_option maxHeartbeats 4000000 in
set_option maxRecDepth 100000 in
theorem k_X1_setHeight (E : gE) (l : Launch) {a_P a_hs a_se : Nat} {W h z i v : Int} {hs : Int → Int} (hz : 0 ≤ z ∧ z < 40) (hi : 0 ≤ i ∧ i < 5) : gUpd E l yX1_setHeight wsX1_setHeight { frames := 0, cells := 0, slots := 0, locals := 0 } [.ref a_P, .int (iI z), .int (iI i), .int (iI v)] [(a_P, .inr (1, [.ref a_hs, .ref a_se, .int (iI W), .int (iI h)])), (a_hs, aI E 200 hs)] none [(a_P, .inr (1, [.ref a_hs, .ref a_se, .int (iI W), .int (iI h)])), (a_hs, aI E 200 (uI hs (z * 5 + i) v))] := by
  refine g_start (cc := cX1_setHeight) (maxL := 5) (ret := none) (by decide) rfl (Nat.le_of_ble_eq_true rfl) ?_
  intro p_ e_ s_ m_ args_ below_ meth_ c_ A_ C hr hnm
  refine g_iload_n 1 C 1 dX1_setHeight_0 rfl rfl ?_
  refine g_iconst 2 C dX1_setHeight_1 rfl ?_
  refine g_imul 3 C dX1_setHeight_2 rfl ?_
  refine g_iload_n 4 C 2 dX1_setHeight_3 rfl rfl ?_
  refine g_iadd 5 C dX1_setHeight_4 rfl ?_
  refine g_istore (lv' := [(4, _), (0, _), (1, _), (2, _), (3, _)]) 7 C dX1_setHeight_5 rfl (by decide) rfl ?_
  refine g_iload 9 C 0 dX1_setHeight_7 rfl rfl ?_
  refine g_if_lt 30 12 C dX1_setHeight_9 (by decide) rfl (by omega) (fun h9 => absurd h9 (by omega)) ?_
  intro h9
  refine g_iload 14 C 0 dX1_setHeight_12 rfl rfl ?_
  refine g_aload_n 15 C 1 dX1_setHeight_14 rfl rfl ?_
  refine g_get 18 C 0 0 1 iX1_setHeight_X1 lX1_setHeight_9 dX1_setHeight_15 rfl rfl rfl (by decide) rfl ?_
  refine g_alenI 19 C 1 dX1_setHeight_18 rfl rfl ?_
  refine g_icmp_ge 30 22 C dX1_setHeight_19 (by decide) rfl (by omega) (fun h19 => absurd h19 (by omega)) ?_
  intro h19
  refine g_aload_n 23 C 1 dX1_setHeight_22 rfl rfl ?_
  refine g_get 26 C 0 0 1 iX1_setHeight_X1 lX1_setHeight_9 dX1_setHeight_23 rfl rfl rfl (by decide) rfl ?_
  refine g_iload 28 C 0 dX1_setHeight_26 rfl rfl ?_
  refine g_iload_n 29 C 4 dX1_setHeight_28 rfl rfl ?_
  refine g_iastore (ws' := [(_, .inr (1, [_, _, _, _])), (_, aI _ _ _)]) 30 C 1 dX1_setHeight_29 rfl rfl (by omega) rfl ?_
  exact g_vret C hr dX1_setHeight_30 ⟨rfl, rfl⟩
theorem lX1_heightAt_9 : Cond.fieldLink RX1 9 (TX1 0).1 (TX1 0).2.1 (TX1 0).2.2.1 ∈ wsX1_heightAt := by decide +kernel
theorem iX1_heightAt_X1 : ∀ w ∈ u_ws RX1 TX1 4, w ∈ wsX1_heightAt := by decide +kernel
set_option maxHeartbeats 4000000 in
set_option maxRecDepth 100000 in
theorem k_X1_heightAt (E : gE) (l : Launch) {a_P a_hs a_se : Nat} {W h z i w : Int} {hs : Int → Int} (hz : 0 ≤ z ∧ z < 40) (hi : 0 ≤ i ∧ i < 5) (hw : w = 0 ∨ w = 1) : gFun E l yX1_heightAt wsX1_heightAt { frames := 0, cells := 0, slots := 0, locals := 0 } [.ref a_P, .int (iI z), .int (iI i), .int (iI w)] [(a_P, .inr (1, [.ref a_hs, .ref a_se, .int (iI W), .int (iI h)])), (a_hs, aI E 200 hs)] (.int (iI (htI hs z i w))) := by
  refine g_start (cc := cX1_heightAt) (maxL := 5) (ret := (some .int)) (by decide) rfl (Nat.le_of_ble_eq_true rfl) ?_
  intro p_ e_ s_ m_ args_ below_ meth_ c_ A_ C hr hnm
  refine g_iload_n 1 C 1 dX1_heightAt_0 rfl rfl ?_
  refine g_iconst 2 C dX1_heightAt_1 rfl ?_
  refine g_imul 3 C dX1_heightAt_2 rfl ?_
  refine g_iload_n 4 C 3 dX1_heightAt_3 rfl rfl ?_
  refine g_if_ne 11 7 C dX1_heightAt_4 (by decide) rfl (by omega) ?_ ?_
  · intro h4
    refine g_iconst 12 C dX1_heightAt_11 rfl ?_
    refine g_iload_n 13 C 2 dX1_heightAt_12 rfl rfl ?_
    refine g_isub 14 C dX1_heightAt_13 rfl ?_
    refine g_iadd 15 C dX1_heightAt_14 rfl ?_
    refine g_istore (lv' := [(4, _), (0, _), (1, _), (2, _), (3, _)]) 17 C dX1_heightAt_15 rfl (by decide) rfl ?_
    refine g_iload 19 C 0 dX1_heightAt_17 rfl rfl ?_
    refine g_if_lt 32 22 C dX1_heightAt_19 (by decide) rfl (by omega) (fun h19 => absurd h19 (by omega)) ?_
    intro h19
    refine g_iload 24 C 0 dX1_heightAt_22 rfl rfl ?_
    refine g_aload_n 25 C 1 dX1_heightAt_24 rfl rfl ?_
    refine g_get 28 C 0 0 1 iX1_heightAt_X1 lX1_heightAt_9 dX1_heightAt_25 rfl rfl rfl (by decide) rfl ?_
    refine g_alenI 29 C 1 dX1_heightAt_28 rfl rfl ?_
    refine g_icmp_lt 34 32 C dX1_heightAt_29 (by decide) rfl (by omega) ?_ (fun h29 => absurd h29 (by omega))
    intro h29
    refine g_iload_n 35 C 4 dX1_heightAt_34 rfl rfl ?_
    refine g_if_ne 48 38 C dX1_heightAt_35 (by decide) rfl (by omega) ?_ ?_
    · intro h35
      refine g_aload_n 49 C 1 dX1_heightAt_48 rfl rfl ?_
      refine g_get 52 C 0 0 1 iX1_heightAt_X1 lX1_heightAt_9 dX1_heightAt_49 rfl rfl rfl (by decide) rfl ?_
      refine g_iload 54 C 0 dX1_heightAt_52 rfl rfl ?_
      refine g_iaload 55 C 1 dX1_heightAt_54 rfl rfl (by omega) ?_
      refine g_ineg 56 C dX1_heightAt_55 rfl ?_
      exact g_iret C hr dX1_heightAt_56 ⟨g_ri (by unfold htI; (repeat' split) <;> first | rfl | omega), rfl⟩
    · intro h35
      refine g_aload_n 39 C 1 dX1_heightAt_38 rfl rfl ?_
      refine g_get 42 C 0 0 1 iX1_heightAt_X1 lX1_heightAt_9 dX1_heightAt_39 rfl rfl rfl (by decide) rfl ?_
      refine g_iload 44 C 0 dX1_heightAt_42 rfl rfl ?_
      refine g_iaload 45 C 1 dX1_heightAt_44 rfl rfl (by omega) ?_
      refine g_goto 56 C dX1_heightAt_45 (by decide) ?_
      exact g_iret C hr dX1_heightAt_56 ⟨g_ri (by unfold htI; (repeat' split) <;> first | rfl | omega), rfl⟩
  · intro h4
    refine g_iload_n 8 C 2 dX1_heightAt_7 rfl rfl ?_
    refine g_goto 14 C dX1_heightAt_8 (by decide) ?_
    refine g_iadd 15 C dX1_heightAt_14 rfl ?_
    refine g_istore (lv' := [(4, _), (0, _), (1, _), (2, _), (3, _)]) 17 C dX1_heightAt_15 rfl (by decide) rfl ?_
    refine g_iload 19 C 0 dX1_heightAt_17 rfl rfl ?_
    refine g_if_lt 32 22 C dX1_heightAt_19 (by decide) rfl (by omega) (fun h19 => absurd h19 (by omega)) ?_
    intro h19
    refine g_iload 24 C 0 dX1_heightAt_22 rfl rfl ?_
    refine g_aload_n 25 C 1 dX1_heightAt_24 rfl rfl ?_
    refine g_get 28 C 0 0 1 iX1_heightAt_X1 lX1_heightAt_9 dX1_heightAt_25 rfl rfl rfl (by decide) rfl ?_
    refine g_alenI 29 C 1 dX1_heightAt_28 rfl rfl ?_
    refine g_icmp_lt 34 32 C dX1_heightAt_29 (by decide) rfl (by omega) ?_ (fun h29 => absurd h29 (by omega))
    intro h29
    refine g_iload_n 35 C 4 dX1_heightAt_34 rfl rfl ?_
    refine g_if_ne 48 38 C dX1_heightAt_35 (by decide) rfl (by omega) ?_ ?_
    · intro h35
      refine g_aload_n 49 C 1 dX1_heightAt_48 rfl rfl ?_
      refine g_get 52 C 0 0 1 iX1_heightAt_X1 lX1_heightAt_9 dX1_heightAt_49 rfl rfl rfl (by decide) rfl ?_
      refine g_iload 54 C 0 dX1_heightAt_52 rfl rfl ?_
      refine g_iaload 55 C 1 dX1_heightAt_54 rfl rfl (by omega) ?_
      refine g_ineg 56 C dX1_heightAt_55 rfl ?_
      exact g_iret C hr dX1_heightAt_56 ⟨g_ri (by unfold htI; (repeat' split) <;> first | rfl | omega), rfl⟩
    · intro h35
      refine g_aload_n 39 C 1 dX1_heightAt_38 rfl rfl ?_
      refine g_get 42 C 0 0 1 iX1_heightAt_X1 lX1_heightAt_9 dX1_heightAt_39 rfl rfl rfl (by decide) rfl ?_
      refine g_iload 44 C 0 dX1_heightAt_42 rfl rfl ?_
      refine g_iaload 45 C 1 dX1_heightAt_44 rfl rfl (by omega) ?_
      refine g_goto 56 C dX1_heightAt_45 (by decide) ?_
      exact g_iret C hr dX1_heightAt_56 ⟨g_ri (by unfold htI; (repeat' split) <;> first | rfl | omega), rfl⟩
theorem cdX1_heightAt : yX1_heightAt.cls = RX1 ∧ yX1_heightAt.cls ≠ "java/lang/invoke/MethodHandle" ∧ yX1_heightAt.cls ≠ "java/lang/invoke/VarHandle" ∧ (parseMethodDescriptor yX1_heightAt.desc).map (fun d => d.parameters.length) = some 3 := by decide +kernel
set_option maxHeartbeats 4000000 in
set_option maxRecDepth 100000 in
theorem k_X1_edgeHeight (E : gE) (l : Launch) {a_P a_hs a_se : Nat} {W h p e i : Int} {hs se : Int → Int} (hB : 1 ≤ W ∧ W ≤ 5 ∧ 1 ≤ h ∧ h ≤ 5) (hp : 0 ≤ p ∧ p < W * h) (he : 0 ≤ e ∧ e < 4) (hse : ∀ p e : Int, 0 ≤ p ∧ p < W * h → 0 ≤ e ∧ e < 4 → se (p * 4 + e) = sdI W h p e) (hf : sdI W h p e ≠ -9) (hi : 0 ≤ i ∧ i < 5) : gFun E l yX1_edgeHeight wsX1_edgeHeight { frames := 1, cells := 0, slots := 0, locals := 24 } [.ref a_P, .int (iI p), .int (iI e), .int (iI i)] [(a_P, .inr (1, [.ref a_hs, .ref a_se, .int (iI W), .int (iI h)])), (a_hs, aI E 200 hs), (a_se, aI E 100 se)] (.int (iI (ehI W h hs p e i))) := by
  refine g_start (cc := cX1_edgeHeight) (maxL := 5) (ret := (some .int)) (by decide) rfl (Nat.le_of_ble_eq_true rfl) ?_
  intro p_ e_ s_ m_ args_ below_ meth_ c_ A_ C hr hnm
  have hn := nsd_b hB
  have hb := sdI_b hB hp he
  refine g_iload_n 1 C 2 dX1_edgeHeight_0 rfl rfl ?_
  refine g_iconst 2 C dX1_edgeHeight_1 rfl ?_
  refine g_icmp_eq 10 5 C dX1_edgeHeight_2 (by decide) rfl (by omega) ?_ ?_
  · intro h2
    refine g_iconst 11 C dX1_edgeHeight_10 rfl ?_
    refine g_goto 15 C dX1_edgeHeight_11 (by decide) ?_
    refine g_istore (lv' := [(4, _), (0, _), (1, _), (2, _), (3, _)]) 17 C dX1_edgeHeight_15 rfl (by decide) rfl ?_
    refine g_aload_n 18 C 1 dX1_edgeHeight_17 rfl rfl ?_
    refine g_aload_n 19 C 1 dX1_edgeHeight_18 rfl rfl ?_
    refine g_iload_n 20 C 2 dX1_edgeHeight_19 rfl rfl ?_
    refine g_iload_n 21 C 3 dX1_edgeHeight_20 rfl rfl ?_
    refine g_callVF 24 C [0, 2] dX1_edgeHeight_21 rfl (k_X1_sideAt E l  (by first | assumption | omega) (by first | assumption | omega) (by first | assumption | omega) (by first | assumption | omega)) (cwV 2 C.2.2.2.2.1 gX1_edgeHeight_X1_sideAt rfl rfl rfl cdX1_sideAt ⟨Nat.le_of_ble_eq_true rfl, Nat.le_of_ble_eq_true rfl⟩) rfl rfl rfl rfl (Nat.le_of_ble_eq_true rfl) 0 1 rfl rfl rfl ⟨Nat.le_of_ble_eq_true rfl, Nat.le_of_ble_eq_true rfl⟩ ?_
    refine g_iload_n 25 C 4 dX1_edgeHeight_24 rfl rfl ?_
    refine g_iload 27 C 0 dX1_edgeHeight_25 rfl rfl ?_
    refine g_callVF 30 C [0, 1] dX1_edgeHeight_27 rfl (k_X1_heightAt E l  (by first | assumption | omega) (by first | assumption | omega) (by first | assumption | omega)) (cwV 3 C.2.2.2.2.1 gX1_edgeHeight_X1_heightAt rfl rfl rfl cdX1_heightAt ⟨Nat.le_of_ble_eq_true rfl, Nat.le_of_ble_eq_true rfl⟩) rfl rfl rfl rfl (Nat.le_of_ble_eq_true rfl) 0 1 rfl rfl rfl ⟨Nat.le_of_ble_eq_true rfl, Nat.le_of_ble_eq_true rfl⟩ ?_
    exact g_iret C hr dX1_edgeHeight_30 ⟨g_ri (by unfold ehI wyI; split <;> first | rfl | omega), rfl⟩
  · intro h2
    refine g_iload_n 6 C 2 dX1_edgeHeight_5 rfl rfl ?_
    refine g_iconst 7 C dX1_edgeHeight_6 rfl ?_
    refine g_icmp_ne 14 10 C dX1_edgeHeight_7 (by decide) rfl (by omega) ?_ ?_
    · intro h7
      refine g_iconst 15 C dX1_edgeHeight_14 rfl ?_
      refine g_istore (lv' := [(4, _), (0, _), (1, _), (2, _), (3, _)]) 17 C dX1_edgeHeight_15 rfl (by decide) rfl ?_
      refine g_aload_n 18 C 1 dX1_edgeHeight_17 rfl rfl ?_
      refine g_aload_n 19 C 1 dX1_edgeHeight_18 rfl rfl ?_
      refine g_iload_n 20 C 2 dX1_edgeHeight_19 rfl rfl ?_
      refine g_iload_n 21 C 3 dX1_edgeHeight_20 rfl rfl ?_
      refine g_callVF 24 C [0, 2] dX1_edgeHeight_21 rfl (k_X1_sideAt E l  (by first | assumption | omega) (by first | assumption | omega) (by first | assumption | omega) (by first | assumption | omega)) (cwV 2 C.2.2.2.2.1 gX1_edgeHeight_X1_sideAt rfl rfl rfl cdX1_sideAt ⟨Nat.le_of_ble_eq_true rfl, Nat.le_of_ble_eq_true rfl⟩) rfl rfl rfl rfl (Nat.le_of_ble_eq_true rfl) 0 1 rfl rfl rfl ⟨Nat.le_of_ble_eq_true rfl, Nat.le_of_ble_eq_true rfl⟩ ?_
      refine g_iload_n 25 C 4 dX1_edgeHeight_24 rfl rfl ?_
      refine g_iload 27 C 0 dX1_edgeHeight_25 rfl rfl ?_
      refine g_callVF 30 C [0, 1] dX1_edgeHeight_27 rfl (k_X1_heightAt E l  (by first | assumption | omega) (by first | assumption | omega) (by first | assumption | omega)) (cwV 3 C.2.2.2.2.1 gX1_edgeHeight_X1_heightAt rfl rfl rfl cdX1_heightAt ⟨Nat.le_of_ble_eq_true rfl, Nat.le_of_ble_eq_true rfl⟩) rfl rfl rfl rfl (Nat.le_of_ble_eq_true rfl) 0 1 rfl rfl rfl ⟨Nat.le_of_ble_eq_true rfl, Nat.le_of_ble_eq_true rfl⟩ ?_
      exact g_iret C hr dX1_edgeHeight_30 ⟨g_ri (by unfold ehI wyI; split <;> first | rfl | omega), rfl⟩
    · intro h7
      refine g_iconst 11 C dX1_edgeHeight_10 rfl ?_
      refine g_goto 15 C dX1_edgeHeight_11 (by decide) ?_
      refine g_istore (lv' := [(4, _), (0, _), (1, _), (2, _), (3, _)]) 17 C dX1_edgeHeight_15 rfl (by decide) rfl ?_
      refine g_aload_n 18 C 1 dX1_edgeHeight_17 rfl rfl ?_
      refine g_aload_n 19 C 1 dX1_edgeHeight_18 rfl rfl ?_
      refine g_iload_n 20 C 2 dX1_edgeHeight_19 rfl rfl ?_
      refine g_iload_n 21 C 3 dX1_edgeHeight_20 rfl rfl ?_
      refine g_callVF 24 C [0, 2] dX1_edgeHeight_21 rfl (k_X1_sideAt E l  (by first | assumption | omega) (by first | assumption | omega) (by first | assumption | omega) (by first | assumption | omega)) (cwV 2 C.2.2.2.2.1 gX1_edgeHeight_X1_sideAt rfl rfl rfl cdX1_sideAt ⟨Nat.le_of_ble_eq_true rfl, Nat.le_of_ble_eq_true rfl⟩) rfl rfl rfl rfl (Nat.le_of_ble_eq_true rfl) 0 1 rfl rfl rfl ⟨Nat.le_of_ble_eq_true rfl, Nat.le_of_ble_eq_true rfl⟩ ?_
      refine g_iload_n 25 C 4 dX1_edgeHeight_24 rfl rfl ?_
      refine g_iload 27 C 0 dX1_edgeHeight_25 rfl rfl ?_
      refine g_callVF 30 C [0, 1] dX1_edgeHeight_27 rfl (k_X1_heightAt E l  (by first | assumption | omega) (by first | assumption | omega) (by first | assumption | omega)) (cwV 3 C.2.2.2.2.1 gX1_edgeHeight_X1_heightAt rfl rfl rfl cdX1_heightAt ⟨Nat.le_of_ble_eq_true rfl, Nat.le_of_ble_eq_true rfl⟩) rfl rfl rfl rfl (Nat.le_of_ble_eq_true rfl) 0 1 rfl rfl rfl ⟨Nat.le_of_ble_eq_true rfl, Nat.le_of_ble_eq_true rfl⟩ ?_
      exact g_iret C hr dX1_edgeHeight_30 ⟨g_ri (by unfold ehI wyI; split <;> first | rfl | omega), rfl⟩
theorem lX1_farness_54 : ∀ w ∈ ([Cond.methodLink RX1 54 Lib.Math.abs.name, Cond.static Lib.Math.abs.name, Cond.initialized "java/lang/Math", Cond.code Lib.Math.abs.name Lib.Math.abs.code 1 (some .int)] : List Cond), w ∈ wsX1_farness := by decide +kernel
theorem cdX1_edgeHeight : yX1_edgeHeight.cls = RX1 ∧ yX1_edgeHeight.cls ≠ "java/lang/invoke/MethodHandle" ∧ yX1_edgeHeight.cls ≠ "java/lang/invoke/VarHandle" ∧ (parseMethodDescriptor yX1_edgeHeight.desc).map (fun d => d.parameters.length) = some 3 := by decide +kernel
set_option maxHeartbeats 4000000 in
set_option maxRecDepth 100000 in
theorem k_X1_farness (E : gE) (l : Launch) {a_P a_hs a_se : Nat} {W h p e q f : Int} {hs se : Int → Int} (hB : 1 ≤ W ∧ W ≤ 5 ∧ 1 ≤ h ∧ h ≤ 5) (hp : 0 ≤ p ∧ p < W * h) (he : 0 ≤ e ∧ e < 4) (hse : ∀ p e : Int, 0 ≤ p ∧ p < W * h → 0 ≤ e ∧ e < 4 → se (p * 4 + e) = sdI W h p e) (hf : sdI W h p e ≠ -9) (hq : 0 ≤ q ∧ q < W * h) (hf4 : 0 ≤ f ∧ f < 4) (hg : sdI W h q f ≠ -9) (hh : hB9 hs) : gFun E l yX1_farness wsX1_farness { frames := 2, cells := 0, slots := 0, locals := 48 } [.ref a_P, .int (iI p), .int (iI e), .int (iI q), .int (iI f)] [(a_P, .inr (1, [.ref a_hs, .ref a_se, .int (iI W), .int (iI h)])), (a_hs, aI E 200 hs), (a_se, aI E 100 se)] (.int (iI (frI W h hs p e q f))) := by
  refine g_start (cc := cX1_farness) (maxL := 7) (ret := (some .int)) (by decide) rfl (Nat.le_of_ble_eq_true rfl) ?_
  intro p_ e_ s_ m_ args_ below_ meth_ c_ A_ C hr hnm
  have hn := nsd_b hB
  refine g_iconst 1 C dX1_farness_0 rfl ?_
  refine g_istore (lv' := [(5, _), (0, _), (1, _), (2, _), (3, _), (4, _)]) 3 C dX1_farness_1 rfl (by decide) rfl ?_
  refine g_iconst 4 C dX1_farness_3 rfl ?_
  refine g_istore (lv' := [(6, _), (5, _), (0, _), (1, _), (2, _), (3, _), (4, _)]) 6 C dX1_farness_4 rfl (by decide) rfl ?_
  refine g_iload 8 C 0 dX1_farness_6 rfl rfl ?_
  refine g_iconst 9 C dX1_farness_8 rfl ?_
  refine g_icmp_ge 46 12 C dX1_farness_9 (by decide) rfl (by omega) (fun q => absurd q (by omega)) ?_
  intro _
  refine g_iload 14 C 1 dX1_farness_12 rfl rfl ?_
  refine g_aload_n 15 C 2 dX1_farness_14 rfl rfl ?_
  refine g_iload_n 16 C 3 dX1_farness_15 rfl rfl ?_
  refine g_iload_n 17 C 4 dX1_farness_16 rfl rfl ?_
  refine g_iload 19 C 0 dX1_farness_17 rfl rfl ?_
  refine g_callVF 22 C [0, 1, 2] dX1_farness_19 rfl (k_X1_edgeHeight E l  (by first | assumption | omega) (by first | assumption | omega) (by first | assumption | omega) (by first | assumption | omega) (by first | assumption | omega) (by first | assumption | omega)) (cwV 3 C.2.2.2.2.1 gX1_farness_X1_edgeHeight rfl rfl rfl cdX1_edgeHeight ⟨Nat.le_of_ble_eq_true rfl, Nat.le_of_ble_eq_true rfl⟩) rfl rfl rfl rfl (Nat.le_of_ble_eq_true rfl) 0 1 rfl rfl rfl ⟨Nat.le_of_ble_eq_true rfl, Nat.le_of_ble_eq_true rfl⟩ ?_
  refine g_aload_n 23 C 2 dX1_farness_22 rfl rfl ?_
  refine g_iload_n 24 C 5 dX1_farness_23 rfl rfl ?_
  refine g_iload 26 C 6 dX1_farness_24 rfl rfl ?_
  refine g_iconst 27 C dX1_farness_26 rfl ?_
  refine g_iload 29 C 0 dX1_farness_27 rfl rfl ?_
  refine g_isub 30 C dX1_farness_29 rfl ?_
  refine g_callVF 33 C [0, 1, 2] dX1_farness_30 rfl (k_X1_edgeHeight E l  (by first | assumption | omega) (by first | assumption | omega) (by first | assumption | omega) (by first | assumption | omega) (by first | assumption | omega) (by first | assumption | omega)) (cwV 3 C.2.2.2.2.1 gX1_farness_X1_edgeHeight rfl rfl rfl cdX1_edgeHeight ⟨Nat.le_of_ble_eq_true rfl, Nat.le_of_ble_eq_true rfl⟩) rfl rfl rfl rfl (Nat.le_of_ble_eq_true rfl) 0 1 rfl rfl rfl ⟨Nat.le_of_ble_eq_true rfl, Nat.le_of_ble_eq_true rfl⟩ ?_
  refine g_iadd 34 C dX1_farness_33 rfl ?_
  have ha := ehI_b (W := W) (h := h) hh p e 0
  have hb := ehI_b (W := W) (h := h) hh q f (4 - 0)
  refine g_mabs 37 C dX1_farness_34 rfl lX1_farness_54 (Nat.le_of_ble_eq_true rfl) (Nat.le_of_ble_eq_true rfl) (Nat.le_of_ble_eq_true rfl) (Nat.le_of_ble_eq_true rfl) (by omega) ?_
  refine g_iadd 38 C dX1_farness_37 rfl ?_
  refine g_istore (lv' := [(5, _), (6, _), (0, _), (1, _), (2, _), (3, _), (4, _)]) 40 C dX1_farness_38 rfl (by decide) rfl ?_
  refine g_iinc (lv' := [(6, .int (iI 1)), (5, _), (0, _), (1, _), (2, _), (3, _), (4, _)]) 43 C 1 dX1_farness_40 rfl rfl (by decide) rfl ?_
  refine g_goto 6 C dX1_farness_43 (by decide) ?_
  refine g_iload 8 C 0 dX1_farness_6 rfl rfl ?_
  refine g_iconst 9 C dX1_farness_8 rfl ?_
  refine g_icmp_ge 46 12 C dX1_farness_9 (by decide) rfl (by omega) (fun q => absurd q (by omega)) ?_
  intro _
  refine g_iload 14 C 1 dX1_farness_12 rfl rfl ?_
  refine g_aload_n 15 C 2 dX1_farness_14 rfl rfl ?_
  refine g_iload_n 16 C 3 dX1_farness_15 rfl rfl ?_
  refine g_iload_n 17 C 4 dX1_farness_16 rfl rfl ?_
  refine g_iload 19 C 0 dX1_farness_17 rfl rfl ?_
  refine g_callVF 22 C [0, 1, 2] dX1_farness_19 rfl (k_X1_edgeHeight E l  (by first | assumption | omega) (by first | assumption | omega) (by first | assumption | omega) (by first | assumption | omega) (by first | assumption | omega) (by first | assumption | omega)) (cwV 3 C.2.2.2.2.1 gX1_farness_X1_edgeHeight rfl rfl rfl cdX1_edgeHeight ⟨Nat.le_of_ble_eq_true rfl, Nat.le_of_ble_eq_true rfl⟩) rfl rfl rfl rfl (Nat.le_of_ble_eq_true rfl) 0 1 rfl rfl rfl ⟨Nat.le_of_ble_eq_true rfl, Nat.le_of_ble_eq_true rfl⟩ ?_
  refine g_aload_n 23 C 2 dX1_farness_22 rfl rfl ?_
  refine g_iload_n 24 C 5 dX1_farness_23 rfl rfl ?_
  refine g_iload 26 C 6 dX1_farness_24 rfl rfl ?_
  refine g_iconst 27 C dX1_farness_26 rfl ?_
  refine g_iload 29 C 0 dX1_farness_27 rfl rfl ?_
  refine g_isub 30 C dX1_farness_29 rfl ?_
  refine g_callVF 33 C [0, 1, 2] dX1_farness_30 rfl (k_X1_edgeHeight E l  (by first | assumption | omega) (by first | assumption | omega) (by first | assumption | omega) (by first | assumption | omega) (by first | assumption | omega) (by first | assumption | omega)) (cwV 3 C.2.2.2.2.1 gX1_farness_X1_edgeHeight rfl rfl rfl cdX1_edgeHeight ⟨Nat.le_of_ble_eq_true rfl, Nat.le_of_ble_eq_true rfl⟩) rfl rfl rfl rfl (Nat.le_of_ble_eq_true rfl) 0 1 rfl rfl rfl ⟨Nat.le_of_ble_eq_true rfl, Nat.le_of_ble_eq_true rfl⟩ ?_
  refine g_iadd 34 C dX1_farness_33 rfl ?_
  have ha := ehI_b (W := W) (h := h) hh p e 1
  have hb := ehI_b (W := W) (h := h) hh q f (4 - 1)
  refine g_mabs 37 C dX1_farness_34 rfl lX1_farness_54 (Nat.le_of_ble_eq_true rfl) (Nat.le_of_ble_eq_true rfl) (Nat.le_of_ble_eq_true rfl) (Nat.le_of_ble_eq_true rfl) (by omega) ?_
  refine g_iadd 38 C dX1_farness_37 rfl ?_
  refine g_istore (lv' := [(5, _), (6, _), (0, _), (1, _), (2, _), (3, _), (4, _)]) 40 C dX1_farness_38 rfl (by decide) rfl ?_
  refine g_iinc (lv' := [(6, .int (iI 2)), (5, _), (0, _), (1, _), (2, _), (3, _), (4, _)]) 43 C 1 dX1_farness_40 rfl rfl (by decide) rfl ?_
  refine g_goto 6 C dX1_farness_43 (by decide) ?_
  refine g_iload 8 C 0 dX1_farness_6 rfl rfl ?_
  refine g_iconst 9 C dX1_farness_8 rfl ?_
  refine g_icmp_ge 46 12 C dX1_farness_9 (by decide) rfl (by omega) (fun q => absurd q (by omega)) ?_
  intro _
  refine g_iload 14 C 1 dX1_farness_12 rfl rfl ?_
  refine g_aload_n 15 C 2 dX1_farness_14 rfl rfl ?_
  refine g_iload_n 16 C 3 dX1_farness_15 rfl rfl ?_
  refine g_iload_n 17 C 4 dX1_farness_16 rfl rfl ?_
  refine g_iload 19 C 0 dX1_farness_17 rfl rfl ?_
  refine g_callVF 22 C [0, 1, 2] dX1_farness_19 rfl (k_X1_edgeHeight E l  (by first | assumption | omega) (by first | assumption | omega) (by first | assumption | omega) (by first | assumption | omega) (by first | assumption | omega) (by first | assumption | omega)) (cwV 3 C.2.2.2.2.1 gX1_farness_X1_edgeHeight rfl rfl rfl cdX1_edgeHeight ⟨Nat.le_of_ble_eq_true rfl, Nat.le_of_ble_eq_true rfl⟩) rfl rfl rfl rfl (Nat.le_of_ble_eq_true rfl) 0 1 rfl rfl rfl ⟨Nat.le_of_ble_eq_true rfl, Nat.le_of_ble_eq_true rfl⟩ ?_
  refine g_aload_n 23 C 2 dX1_farness_22 rfl rfl ?_
  refine g_iload_n 24 C 5 dX1_farness_23 rfl rfl ?_
  refine g_iload 26 C 6 dX1_farness_24 rfl rfl ?_
  refine g_iconst 27 C dX1_farness_26 rfl ?_
  refine g_iload 29 C 0 dX1_farness_27 rfl rfl ?_
  refine g_isub 30 C dX1_farness_29 rfl ?_
  refine g_callVF 33 C [0, 1, 2] dX1_farness_30 rfl (k_X1_edgeHeight E l  (by first | assumption | omega) (by first | assumption | omega) (by first | assumption | omega) (by first | assumption | omega) (by first | assumption | omega) (by first | assumption | omega)) (cwV 3 C.2.2.2.2.1 gX1_farness_X1_edgeHeight rfl rfl rfl cdX1_edgeHeight ⟨Nat.le_of_ble_eq_true rfl, Nat.le_of_ble_eq_true rfl⟩) rfl rfl rfl rfl (Nat.le_of_ble_eq_true rfl) 0 1 rfl rfl rfl ⟨Nat.le_of_ble_eq_true rfl, Nat.le_of_ble_eq_true rfl⟩ ?_
  refine g_iadd 34 C dX1_farness_33 rfl ?_
  have ha := ehI_b (W := W) (h := h) hh p e 2
  have hb := ehI_b (W := W) (h := h) hh q f (4 - 2)
  refine g_mabs 37 C dX1_farness_34 rfl lX1_farness_54 (Nat.le_of_ble_eq_true rfl) (Nat.le_of_ble_eq_true rfl) (Nat.le_of_ble_eq_true rfl) (Nat.le_of_ble_eq_true rfl) (by omega) ?_
  refine g_iadd 38 C dX1_farness_37 rfl ?_
  refine g_istore (lv' := [(5, _), (6, _), (0, _), (1, _), (2, _), (3, _), (4, _)]) 40 C dX1_farness_38 rfl (by decide) rfl ?_
  refine g_iinc (lv' := [(6, .int (iI 3)), (5, _), (0, _), (1, _), (2, _), (3, _), (4, _)]) 43 C 1 dX1_farness_40 rfl rfl (by decide) rfl ?_
  refine g_goto 6 C dX1_farness_43 (by decide) ?_
  refine g_iload 8 C 0 dX1_farness_6 rfl rfl ?_
  refine g_iconst 9 C dX1_farness_8 rfl ?_
  refine g_icmp_ge 46 12 C dX1_farness_9 (by decide) rfl (by omega) (fun q => absurd q (by omega)) ?_
  intro _
  refine g_iload 14 C 1 dX1_farness_12 rfl rfl ?_
  refine g_aload_n 15 C 2 dX1_farness_14 rfl rfl ?_
  refine g_iload_n 16 C 3 dX1_farness_15 rfl rfl ?_
  refine g_iload_n 17 C 4 dX1_farness_16 rfl rfl ?_
  refine g_iload 19 C 0 dX1_farness_17 rfl rfl ?_
  refine g_callVF 22 C [0, 1, 2] dX1_farness_19 rfl (k_X1_edgeHeight E l  (by first | assumption | omega) (by first | assumption | omega) (by first | assumption | omega) (by first | assumption | omega) (by first | assumption | omega) (by first | assumption | omega)) (cwV 3 C.2.2.2.2.1 gX1_farness_X1_edgeHeight rfl rfl rfl cdX1_edgeHeight ⟨Nat.le_of_ble_eq_true rfl, Nat.le_of_ble_eq_true rfl⟩) rfl rfl rfl rfl (Nat.le_of_ble_eq_true rfl) 0 1 rfl rfl rfl ⟨Nat.le_of_ble_eq_true rfl, Nat.le_of_ble_eq_true rfl⟩ ?_
  refine g_aload_n 23 C 2 dX1_farness_22 rfl rfl ?_
  refine g_iload_n 24 C 5 dX1_farness_23 rfl rfl ?_
  refine g_iload 26 C 6 dX1_farness_24 rfl rfl ?_
  refine g_iconst 27 C dX1_farness_26 rfl ?_
  refine g_iload 29 C 0 dX1_farness_27 rfl rfl ?_
  refine g_isub 30 C dX1_farness_29 rfl ?_
  refine g_callVF 33 C [0, 1, 2] dX1_farness_30 rfl (k_X1_edgeHeight E l  (by first | assumption | omega) (by first | assumption | omega) (by first | assumption | omega) (by first | assumption | omega) (by first | assumption | omega) (by first | assumption | omega)) (cwV 3 C.2.2.2.2.1 gX1_farness_X1_edgeHeight rfl rfl rfl cdX1_edgeHeight ⟨Nat.le_of_ble_eq_true rfl, Nat.le_of_ble_eq_true rfl⟩) rfl rfl rfl rfl (Nat.le_of_ble_eq_true rfl) 0 1 rfl rfl rfl ⟨Nat.le_of_ble_eq_true rfl, Nat.le_of_ble_eq_true rfl⟩ ?_
  refine g_iadd 34 C dX1_farness_33 rfl ?_
  have ha := ehI_b (W := W) (h := h) hh p e 3
  have hb := ehI_b (W := W) (h := h) hh q f (4 - 3)
  refine g_mabs 37 C dX1_farness_34 rfl lX1_farness_54 (Nat.le_of_ble_eq_true rfl) (Nat.le_of_ble_eq_true rfl) (Nat.le_of_ble_eq_true rfl) (Nat.le_of_ble_eq_true rfl) (by omega) ?_
  refine g_iadd 38 C dX1_farness_37 rfl ?_
  refine g_istore (lv' := [(5, _), (6, _), (0, _), (1, _), (2, _), (3, _), (4, _)]) 40 C dX1_farness_38 rfl (by decide) rfl ?_
  refine g_iinc (lv' := [(6, .int (iI 4)), (5, _), (0, _), (1, _), (2, _), (3, _), (4, _)]) 43 C 1 dX1_farness_40 rfl rfl (by decide) rfl ?_
  refine g_goto 6 C dX1_farness_43 (by decide) ?_
  refine g_iload 8 C 0 dX1_farness_6 rfl rfl ?_
  refine g_iconst 9 C dX1_farness_8 rfl ?_
  refine g_icmp_ge 46 12 C dX1_farness_9 (by decide) rfl (by omega) (fun q => absurd q (by omega)) ?_
  intro _
  refine g_iload 14 C 1 dX1_farness_12 rfl rfl ?_
  refine g_aload_n 15 C 2 dX1_farness_14 rfl rfl ?_
  refine g_iload_n 16 C 3 dX1_farness_15 rfl rfl ?_
  refine g_iload_n 17 C 4 dX1_farness_16 rfl rfl ?_
  refine g_iload 19 C 0 dX1_farness_17 rfl rfl ?_
  refine g_callVF 22 C [0, 1, 2] dX1_farness_19 rfl (k_X1_edgeHeight E l  (by first | assumption | omega) (by first | assumption | omega) (by first | assumption | omega) (by first | assumption | omega) (by first | assumption | omega) (by first | assumption | omega)) (cwV 3 C.2.2.2.2.1 gX1_farness_X1_edgeHeight rfl rfl rfl cdX1_edgeHeight ⟨Nat.le_of_ble_eq_true rfl, Nat.le_of_ble_eq_true rfl⟩) rfl rfl rfl rfl (Nat.le_of_ble_eq_true rfl) 0 1 rfl rfl rfl ⟨Nat.le_of_ble_eq_true rfl, Nat.le_of_ble_eq_true rfl⟩ ?_
  refine g_aload_n 23 C 2 dX1_farness_22 rfl rfl ?_
  refine g_iload_n 24 C 5 dX1_farness_23 rfl rfl ?_
  refine g_iload 26 C 6 dX1_farness_24 rfl rfl ?_
  refine g_iconst 27 C dX1_farness_26 rfl ?_
  refine g_iload 29 C 0 dX1_farness_27 rfl rfl ?_
  refine g_isub 30 C dX1_farness_29 rfl ?_
  refine g_callVF 33 C [0, 1, 2] dX1_farness_30 rfl (k_X1_edgeHeight E l  (by first | assumption | omega) (by first | assumption | omega) (by first | assumption | omega) (by first | assumption | omega) (by first | assumption | omega) (by first | assumption | omega)) (cwV 3 C.2.2.2.2.1 gX1_farness_X1_edgeHeight rfl rfl rfl cdX1_edgeHeight ⟨Nat.le_of_ble_eq_true rfl, Nat.le_of_ble_eq_true rfl⟩) rfl rfl rfl rfl (Nat.le_of_ble_eq_true rfl) 0 1 rfl rfl rfl ⟨Nat.le_of_ble_eq_true rfl, Nat.le_of_ble_eq_true rfl⟩ ?_
  refine g_iadd 34 C dX1_farness_33 rfl ?_
  have ha := ehI_b (W := W) (h := h) hh p e 4
  have hb := ehI_b (W := W) (h := h) hh q f (4 - 4)
  refine g_mabs 37 C dX1_farness_34 rfl lX1_farness_54 (Nat.le_of_ble_eq_true rfl) (Nat.le_of_ble_eq_true rfl) (Nat.le_of_ble_eq_true rfl) (Nat.le_of_ble_eq_true rfl) (by omega) ?_
  refine g_iadd 38 C dX1_farness_37 rfl ?_
  refine g_istore (lv' := [(5, _), (6, _), (0, _), (1, _), (2, _), (3, _), (4, _)]) 40 C dX1_farness_38 rfl (by decide) rfl ?_
  refine g_iinc (lv' := [(6, .int (iI 5)), (5, _), (0, _), (1, _), (2, _), (3, _), (4, _)]) 43 C 1 dX1_farness_40 rfl rfl (by decide) rfl ?_
  refine g_goto 6 C dX1_farness_43 (by decide) ?_
  refine g_iload 8 C 0 dX1_farness_6 rfl rfl ?_
  refine g_iconst 9 C dX1_farness_8 rfl ?_
  refine g_icmp_ge 46 12 C dX1_farness_9 (by decide) rfl (by omega) ?_ (fun q => absurd q (by omega))
  intro _
  refine g_iload 48 C 1 dX1_farness_46 rfl rfl ?_
  exact g_iret C hr dX1_farness_48 ⟨g_ri (rfl), rfl⟩
set_option maxHeartbeats 4000000 in
set_option maxRecDepth 100000 in
theorem k_X1_sumOf (E : gE) (l : Launch) {a_P a_hs a_se : Nat} {W h z : Int} {hs : Int → Int} (hz : 0 ≤ z ∧ z < 40) : gFun E l yX1_sumOf wsX1_sumOf { frames := 1, cells := 0, slots := 0, locals := 24 } [.ref a_P, .int (iI z)] [(a_P, .inr (1, [.ref a_hs, .ref a_se, .int (iI W), .int (iI h)])), (a_hs, aI E 200 hs)] (.int (iI (smI hs z))) := by
  refine g_start (cc := cX1_sumOf) (maxL := 4) (ret := (some .int)) (by decide) rfl (Nat.le_of_ble_eq_true rfl) ?_
  intro p_ e_ s_ m_ args_ below_ meth_ c_ A_ C hr hnm
  refine g_iconst 1 C dX1_sumOf_0 rfl ?_
  refine g_istore_n (lv' := [(2, _), (0, _), (1, _)]) 2 C dX1_sumOf_1 rfl rfl (by decide) rfl ?_
  refine g_iconst 3 C dX1_sumOf_2 rfl ?_
  refine g_istore_n (lv' := [(3, _), (2, _), (0, _), (1, _)]) 4 C dX1_sumOf_3 rfl rfl (by decide) rfl ?_
  refine g_iload_n 5 C 0 dX1_sumOf_4 rfl rfl ?_
  refine g_iconst 6 C dX1_sumOf_5 rfl ?_
  refine g_icmp_ge 25 9 C dX1_sumOf_6 (by decide) rfl (by omega) (fun q => absurd q (by omega)) ?_
  intro _
  refine g_iload_n 10 C 1 dX1_sumOf_9 rfl rfl ?_
  refine g_aload_n 11 C 2 dX1_sumOf_10 rfl rfl ?_
  refine g_iload_n 12 C 3 dX1_sumOf_11 rfl rfl ?_
  refine g_iload_n 13 C 0 dX1_sumOf_12 rfl rfl ?_
  refine g_iconst 14 C dX1_sumOf_13 rfl ?_
  refine g_callVF 17 C [0, 1] dX1_sumOf_14 rfl (k_X1_heightAt E l  (by first | assumption | omega) (by first | assumption | omega) (by first | assumption | omega)) (cwV 3 C.2.2.2.2.1 gX1_sumOf_X1_heightAt rfl rfl rfl cdX1_heightAt ⟨Nat.le_of_ble_eq_true rfl, Nat.le_of_ble_eq_true rfl⟩) rfl rfl rfl rfl (Nat.le_of_ble_eq_true rfl) 0 1 rfl rfl rfl ⟨Nat.le_of_ble_eq_true rfl, Nat.le_of_ble_eq_true rfl⟩ ?_
  refine g_iadd 18 C dX1_sumOf_17 rfl ?_
  refine g_istore_n (lv' := [(2, _), (3, _), (0, _), (1, _)]) 19 C dX1_sumOf_18 rfl rfl (by decide) rfl ?_
  refine g_iinc (lv' := [(3, .int (iI 1)), (2, _), (0, _), (1, _)]) 22 C 1 dX1_sumOf_19 rfl rfl (by decide) rfl ?_
  refine g_goto 4 C dX1_sumOf_22 (by decide) ?_
  refine g_iload_n 5 C 0 dX1_sumOf_4 rfl rfl ?_
  refine g_iconst 6 C dX1_sumOf_5 rfl ?_
  refine g_icmp_ge 25 9 C dX1_sumOf_6 (by decide) rfl (by omega) (fun q => absurd q (by omega)) ?_
  intro _
  refine g_iload_n 10 C 1 dX1_sumOf_9 rfl rfl ?_
  refine g_aload_n 11 C 2 dX1_sumOf_10 rfl rfl ?_
  refine g_iload_n 12 C 3 dX1_sumOf_11 rfl rfl ?_
  refine g_iload_n 13 C 0 dX1_sumOf_12 rfl rfl ?_
  refine g_iconst 14 C dX1_sumOf_13 rfl ?_
  refine g_callVF 17 C [0, 1] dX1_sumOf_14 rfl (k_X1_heightAt E l  (by first | assumption | omega) (by first | assumption | omega) (by first | assumption | omega)) (cwV 3 C.2.2.2.2.1 gX1_sumOf_X1_heightAt rfl rfl rfl cdX1_heightAt ⟨Nat.le_of_ble_eq_true rfl, Nat.le_of_ble_eq_true rfl⟩) rfl rfl rfl rfl (Nat.le_of_ble_eq_true rfl) 0 1 rfl rfl rfl ⟨Nat.le_of_ble_eq_true rfl, Nat.le_of_ble_eq_true rfl⟩ ?_
  refine g_iadd 18 C dX1_sumOf_17 rfl ?_
  refine g_istore_n (lv' := [(2, _), (3, _), (0, _), (1, _)]) 19 C dX1_sumOf_18 rfl rfl (by decide) rfl ?_
  refine g_iinc (lv' := [(3, .int (iI 2)), (2, _), (0, _), (1, _)]) 22 C 1 dX1_sumOf_19 rfl rfl (by decide) rfl ?_
  refine g_goto 4 C dX1_sumOf_22 (by decide) ?_
  refine g_iload_n 5 C 0 dX1_sumOf_4 rfl rfl ?_
  refine g_iconst 6 C dX1_sumOf_5 rfl ?_
  refine g_icmp_ge 25 9 C dX1_sumOf_6 (by decide) rfl (by omega) (fun q => absurd q (by omega)) ?_
  intro _
  refine g_iload_n 10 C 1 dX1_sumOf_9 rfl rfl ?_
  refine g_aload_n 11 C 2 dX1_sumOf_10 rfl rfl ?_
  refine g_iload_n 12 C 3 dX1_sumOf_11 rfl rfl ?_
  refine g_iload_n 13 C 0 dX1_sumOf_12 rfl rfl ?_
  refine g_iconst 14 C dX1_sumOf_13 rfl ?_
  refine g_callVF 17 C [0, 1] dX1_sumOf_14 rfl (k_X1_heightAt E l  (by first | assumption | omega) (by first | assumption | omega) (by first | assumption | omega)) (cwV 3 C.2.2.2.2.1 gX1_sumOf_X1_heightAt rfl rfl rfl cdX1_heightAt ⟨Nat.le_of_ble_eq_true rfl, Nat.le_of_ble_eq_true rfl⟩) rfl rfl rfl rfl (Nat.le_of_ble_eq_true rfl) 0 1 rfl rfl rfl ⟨Nat.le_of_ble_eq_true rfl, Nat.le_of_ble_eq_true rfl⟩ ?_
  refine g_iadd 18 C dX1_sumOf_17 rfl ?_
  refine g_istore_n (lv' := [(2, _), (3, _), (0, _), (1, _)]) 19 C dX1_sumOf_18 rfl rfl (by decide) rfl ?_
  refine g_iinc (lv' := [(3, .int (iI 3)), (2, _), (0, _), (1, _)]) 22 C 1 dX1_sumOf_19 rfl rfl (by decide) rfl ?_
  refine g_goto 4 C dX1_sumOf_22 (by decide) ?_
  refine g_iload_n 5 C 0 dX1_sumOf_4 rfl rfl ?_
  refine g_iconst 6 C dX1_sumOf_5 rfl ?_
  refine g_icmp_ge 25 9 C dX1_sumOf_6 (by decide) rfl (by omega) (fun q => absurd q (by omega)) ?_
  intro _
  refine g_iload_n 10 C 1 dX1_sumOf_9 rfl rfl ?_
  refine g_aload_n 11 C 2 dX1_sumOf_10 rfl rfl ?_
  refine g_iload_n 12 C 3 dX1_sumOf_11 rfl rfl ?_
  refine g_iload_n 13 C 0 dX1_sumOf_12 rfl rfl ?_
  refine g_iconst 14 C dX1_sumOf_13 rfl ?_
  refine g_callVF 17 C [0, 1] dX1_sumOf_14 rfl (k_X1_heightAt E l  (by first | assumption | omega) (by first | assumption | omega) (by first | assumption | omega)) (cwV 3 C.2.2.2.2.1 gX1_sumOf_X1_heightAt rfl rfl rfl cdX1_heightAt ⟨Nat.le_of_ble_eq_true rfl, Nat.le_of_ble_eq_true rfl⟩) rfl rfl rfl rfl (Nat.le_of_ble_eq_true rfl) 0 1 rfl rfl rfl ⟨Nat.le_of_ble_eq_true rfl, Nat.le_of_ble_eq_true rfl⟩ ?_
  refine g_iadd 18 C dX1_sumOf_17 rfl ?_
  refine g_istore_n (lv' := [(2, _), (3, _), (0, _), (1, _)]) 19 C dX1_sumOf_18 rfl rfl (by decide) rfl ?_
  refine g_iinc (lv' := [(3, .int (iI 4)), (2, _), (0, _), (1, _)]) 22 C 1 dX1_sumOf_19 rfl rfl (by decide) rfl ?_
  refine g_goto 4 C dX1_sumOf_22 (by decide) ?_
  refine g_iload_n 5 C 0 dX1_sumOf_4 rfl rfl ?_
  refine g_iconst 6 C dX1_sumOf_5 rfl ?_
  refine g_icmp_ge 25 9 C dX1_sumOf_6 (by decide) rfl (by omega) (fun q => absurd q (by omega)) ?_
  intro _
  refine g_iload_n 10 C 1 dX1_sumOf_9 rfl rfl ?_
  refine g_aload_n 11 C 2 dX1_sumOf_10 rfl rfl ?_
  refine g_iload_n 12 C 3 dX1_sumOf_11 rfl rfl ?_
  refine g_iload_n 13 C 0 dX1_sumOf_12 rfl rfl ?_
  refine g_iconst 14 C dX1_sumOf_13 rfl ?_
  refine g_callVF 17 C [0, 1] dX1_sumOf_14 rfl (k_X1_heightAt E l  (by first | assumption | omega) (by first | assumption | omega) (by first | assumption | omega)) (cwV 3 C.2.2.2.2.1 gX1_sumOf_X1_heightAt rfl rfl rfl cdX1_heightAt ⟨Nat.le_of_ble_eq_true rfl, Nat.le_of_ble_eq_true rfl⟩) rfl rfl rfl rfl (Nat.le_of_ble_eq_true rfl) 0 1 rfl rfl rfl ⟨Nat.le_of_ble_eq_true rfl, Nat.le_of_ble_eq_true rfl⟩ ?_
  refine g_iadd 18 C dX1_sumOf_17 rfl ?_
  refine g_istore_n (lv' := [(2, _), (3, _), (0, _), (1, _)]) 19 C dX1_sumOf_18 rfl rfl (by decide) rfl ?_
  refine g_iinc (lv' := [(3, .int (iI 5)), (2, _), (0, _), (1, _)]) 22 C 1 dX1_sumOf_19 rfl rfl (by decide) rfl ?_
  refine g_goto 4 C dX1_sumOf_22 (by decide) ?_
  refine g_iload_n 5 C 0 dX1_sumOf_4 rfl rfl ?_
  refine g_iconst 6 C dX1_sumOf_5 rfl ?_
  refine g_icmp_ge 25 9 C dX1_sumOf_6 (by decide) rfl (by omega) ?_ (fun q => absurd q (by omega))
  intro _
  refine g_iload_n 26 C 1 dX1_sumOf_25 rfl rfl ?_
  exact g_iret C hr dX1_sumOf_26 ⟨g_ri (rfl), rfl⟩
end
section
set_option maxHeartbeats 4000000 in
set_option maxRecDepth 100000 in
theorem k_X1_bulges (E : gE) (l : Launch) {a_P a_hs a_se : Nat} {W h z : Int} {hs : Int → Int} (hz : 0 ≤ z ∧ z < 40) (hh : hB9 hs) : gFun E l yX1_bulges wsX1_bulges { frames := 1, cells := 0, slots := 0, locals := 24 } [.ref a_P, .int (iI z)] [(a_P, .inr (1, [.ref a_hs, .ref a_se, .int (iI W), .int (iI h)])), (a_hs, aI E 200 hs)] (.int (iI (cI (blI hs z) 1 0))) := by
  refine g_start (cc := cX1_bulges) (maxL := 6) (ret := (some .boolean)) (by decide) rfl (Nat.le_of_ble_eq_true rfl) ?_
  intro p_ e_ s_ m_ args_ below_ meth_ c_ A_ C hr hnm
  refine g_iconst 1 C dX1_bulges_0 rfl ?_
  refine g_istore_n (lv' := [(2, _), (0, _), (1, _)]) 2 C dX1_bulges_1 rfl rfl (by decide) rfl ?_
  refine g_iconst 3 C dX1_bulges_2 rfl ?_
  refine g_istore_n (lv' := [(3, _), (2, _), (0, _), (1, _)]) 4 C dX1_bulges_3 rfl rfl (by decide) rfl ?_
  refine g_iconst 5 C dX1_bulges_4 rfl ?_
  refine g_istore (lv' := [(4, _), (3, _), (2, _), (0, _), (1, _)]) 7 C dX1_bulges_5 rfl (by decide) rfl ?_
  refine g_loop (α := Int × Int × Int) (fun zz => [(a_P, .inr (1, [.ref a_hs, .ref a_se, .int (iI W), .int (iI h)])), (a_hs, aI E 200 hs)]) (fun zz => [(2, .int (iI zz.1)), (3, .int (iI zz.2.1)), (4, .int (iI zz.2.2)), (1, .int (iI z)), (0, .ref a_P)]) (fun zz => (0 ≤ zz.2.2 ∧ zz.2.2 ≤ 5) ∧ zz.1 = cnI (fun j => 0 < htI hs z j 0) zz.2.2 ∧ zz.2.1 = cnI (fun j => htI hs z j 0 < 0) zz.2.2) (fun zz => (5 - zz.2.2).toNat) (0, 0, 0) (by
            try dsimp only
            exact ⟨⟨by omega, by omega⟩, rfl, rfl⟩) [2, 1, 0, 4, 3] rfl rfl ?_
  rintro ⟨o, n, i⟩ hI ih7
  try dsimp only at hI ih7 ⊢
  obtain ⟨hi, rfl, rfl⟩ := hI
  refine g_iload 9 C 2 dX1_bulges_7 rfl rfl ?_
  refine g_iconst 10 C dX1_bulges_9 rfl ?_
  refine g_icmp_ge 55 13 C dX1_bulges_10 (by decide) rfl (by omega) ?_ ?_
  · intro h10
    obtain rfl : i = 5 := by omega
    refine g_iload_n 56 C 0 dX1_bulges_55 rfl rfl ?_
    refine g_iconst 57 C dX1_bulges_56 rfl ?_
    refine g_icmp_eq 65 60 C dX1_bulges_57 (by decide) rfl (by have := cnI_b (fun j => 0 < htI hs z j 0) hi.1; omega) ?_ ?_
    · intro h57
      refine g_iconst 66 C dX1_bulges_65 rfl ?_
      refine g_goto 70 C dX1_bulges_66 (by decide) ?_
      exact g_zret C hr dX1_bulges_70 (by first | rfl | decide | (split <;> rfl)) ⟨g_ri (by first | exact (cI_t (Or.inl ((cnI_f _ (by omega)).mp (by assumption)))).symm | exact (cI_t (Or.inr ((cnI_f _ (by omega)).mp (by assumption)))).symm | exact (cI_f (fun q => q.elim (fun q => absurd ((cnI_f _ (by omega)).mpr q) (by assumption)) (fun q => absurd ((cnI_f _ (by omega)).mpr q) (by assumption)))).symm), rfl⟩
    · intro h57
      refine g_iload_n 61 C 1 dX1_bulges_60 rfl rfl ?_
      refine g_iconst 62 C dX1_bulges_61 rfl ?_
      refine g_icmp_ne 69 65 C dX1_bulges_62 (by decide) rfl (by have := cnI_b (fun j => htI hs z j 0 < 0) hi.1; omega) ?_ ?_
      · intro h62
        refine g_iconst 70 C dX1_bulges_69 rfl ?_
        exact g_zret C hr dX1_bulges_70 (by first | rfl | decide | (split <;> rfl)) ⟨g_ri (by first | exact (cI_t (Or.inl ((cnI_f _ (by omega)).mp (by assumption)))).symm | exact (cI_t (Or.inr ((cnI_f _ (by omega)).mp (by assumption)))).symm | exact (cI_f (fun q => q.elim (fun q => absurd ((cnI_f _ (by omega)).mpr q) (by assumption)) (fun q => absurd ((cnI_f _ (by omega)).mpr q) (by assumption)))).symm), rfl⟩
      · intro h62
        refine g_iconst 66 C dX1_bulges_65 rfl ?_
        refine g_goto 70 C dX1_bulges_66 (by decide) ?_
        exact g_zret C hr dX1_bulges_70 (by first | rfl | decide | (split <;> rfl)) ⟨g_ri (by first | exact (cI_t (Or.inl ((cnI_f _ (by omega)).mp (by assumption)))).symm | exact (cI_t (Or.inr ((cnI_f _ (by omega)).mp (by assumption)))).symm | exact (cI_f (fun q => q.elim (fun q => absurd ((cnI_f _ (by omega)).mpr q) (by assumption)) (fun q => absurd ((cnI_f _ (by omega)).mpr q) (by assumption)))).symm), rfl⟩
  · intro h10
    refine g_aload_n 14 C 4 dX1_bulges_13 rfl rfl ?_
    refine g_iload_n 15 C 3 dX1_bulges_14 rfl rfl ?_
    refine g_iload 17 C 2 dX1_bulges_15 rfl rfl ?_
    refine g_iconst 18 C dX1_bulges_17 rfl ?_
    refine g_callVF 21 C [0, 1] dX1_bulges_18 rfl (k_X1_heightAt E l  (by first | assumption | omega) (by first | assumption | omega) (by first | assumption | omega)) (cwV 3 C.2.2.2.2.1 gX1_bulges_X1_heightAt rfl rfl rfl cdX1_heightAt ⟨Nat.le_of_ble_eq_true rfl, Nat.le_of_ble_eq_true rfl⟩) rfl rfl rfl rfl (Nat.le_of_ble_eq_true rfl) 0 1 rfl rfl rfl ⟨Nat.le_of_ble_eq_true rfl, Nat.le_of_ble_eq_true rfl⟩ ?_
    refine g_istore (lv' := [(5, _), (2, _), (3, _), (4, _), (1, _), (0, _)]) 23 C dX1_bulges_21 rfl (by decide) rfl ?_
    have e0 := htI_b hh z i 0
    refine g_iload_n 24 C 1 dX1_bulges_23 rfl rfl ?_
    refine g_iload 26 C 0 dX1_bulges_24 rfl rfl ?_
    refine g_if_le 33 29 C dX1_bulges_26 (by decide) rfl (by omega) ?_ ?_
    · intro h26
      refine g_iconst 34 C dX1_bulges_33 rfl ?_
      refine g_iadd 35 C dX1_bulges_34 rfl ?_
      refine g_istore_n (lv' := [(2, _), (5, _), (3, _), (4, _), (1, _), (0, _)]) 36 C dX1_bulges_35 rfl rfl (by decide) rfl ?_
      refine g_iload_n 37 C 2 dX1_bulges_36 rfl rfl ?_
      refine g_iload 39 C 1 dX1_bulges_37 rfl rfl ?_
      refine g_if_ge 46 42 C dX1_bulges_39 (by decide) rfl (by omega) ?_ ?_
      · intro h39
        refine g_iconst 47 C dX1_bulges_46 rfl ?_
        refine g_iadd 48 C dX1_bulges_47 rfl ?_
        refine g_istore_n (lv' := [(3, _), (2, _), (5, _), (4, _), (1, _), (0, _)]) 49 C dX1_bulges_48 rfl rfl (by decide) rfl ?_
        refine g_iinc (lv' := [(4, _), (3, _), (2, _), (5, _), (1, _), (0, _)]) 52 C 3 dX1_bulges_49 rfl rfl (by decide) rfl ?_
        refine g_goto 7 C dX1_bulges_52 (by decide) ?_
        exact g_w [2, 1, 0, 4, 5] rfl rfl (ih7 (_, _, _) (by
            try dsimp only
            exact ⟨by omega, by first | exact (cnI_st _ hi.1 (by omega)).symm | exact (Int.add_zero _).trans (cnI_sf _ hi.1 (by omega)).symm, by first | exact (cnI_st _ hi.1 (by omega)).symm | exact (Int.add_zero _).trans (cnI_sf _ hi.1 (by omega)).symm⟩) (by (try dsimp only); omega))
      · intro h39
        refine g_iconst 43 C dX1_bulges_42 rfl ?_
        refine g_goto 47 C dX1_bulges_43 (by decide) ?_
        refine g_iadd 48 C dX1_bulges_47 rfl ?_
        refine g_istore_n (lv' := [(3, _), (2, _), (5, _), (4, _), (1, _), (0, _)]) 49 C dX1_bulges_48 rfl rfl (by decide) rfl ?_
        refine g_iinc (lv' := [(4, _), (3, _), (2, _), (5, _), (1, _), (0, _)]) 52 C 3 dX1_bulges_49 rfl rfl (by decide) rfl ?_
        refine g_goto 7 C dX1_bulges_52 (by decide) ?_
        exact g_w [2, 1, 0, 4, 5] rfl rfl (ih7 (_, _, _) (by
            try dsimp only
            exact ⟨by omega, by first | exact (cnI_st _ hi.1 (by omega)).symm | exact (Int.add_zero _).trans (cnI_sf _ hi.1 (by omega)).symm, by first | exact (cnI_st _ hi.1 (by omega)).symm | exact (Int.add_zero _).trans (cnI_sf _ hi.1 (by omega)).symm⟩) (by (try dsimp only); omega))
    · intro h26
      refine g_iconst 30 C dX1_bulges_29 rfl ?_
      refine g_goto 34 C dX1_bulges_30 (by decide) ?_
      refine g_iadd 35 C dX1_bulges_34 rfl ?_
      refine g_istore_n (lv' := [(2, _), (5, _), (3, _), (4, _), (1, _), (0, _)]) 36 C dX1_bulges_35 rfl rfl (by decide) rfl ?_
      refine g_iload_n 37 C 2 dX1_bulges_36 rfl rfl ?_
      refine g_iload 39 C 1 dX1_bulges_37 rfl rfl ?_
      refine g_if_ge 46 42 C dX1_bulges_39 (by decide) rfl (by omega) ?_ ?_
      · intro h39
        refine g_iconst 47 C dX1_bulges_46 rfl ?_
        refine g_iadd 48 C dX1_bulges_47 rfl ?_
        refine g_istore_n (lv' := [(3, _), (2, _), (5, _), (4, _), (1, _), (0, _)]) 49 C dX1_bulges_48 rfl rfl (by decide) rfl ?_
        refine g_iinc (lv' := [(4, _), (3, _), (2, _), (5, _), (1, _), (0, _)]) 52 C 3 dX1_bulges_49 rfl rfl (by decide) rfl ?_
        refine g_goto 7 C dX1_bulges_52 (by decide) ?_
        exact g_w [2, 1, 0, 4, 5] rfl rfl (ih7 (_, _, _) (by
            try dsimp only
            exact ⟨by omega, by first | exact (cnI_st _ hi.1 (by omega)).symm | exact (Int.add_zero _).trans (cnI_sf _ hi.1 (by omega)).symm, by first | exact (cnI_st _ hi.1 (by omega)).symm | exact (Int.add_zero _).trans (cnI_sf _ hi.1 (by omega)).symm⟩) (by (try dsimp only); omega))
      · intro h39
        refine g_iconst 43 C dX1_bulges_42 rfl ?_
        refine g_goto 47 C dX1_bulges_43 (by decide) ?_
        refine g_iadd 48 C dX1_bulges_47 rfl ?_
        refine g_istore_n (lv' := [(3, _), (2, _), (5, _), (4, _), (1, _), (0, _)]) 49 C dX1_bulges_48 rfl rfl (by decide) rfl ?_
        refine g_iinc (lv' := [(4, _), (3, _), (2, _), (5, _), (1, _), (0, _)]) 52 C 3 dX1_bulges_49 rfl rfl (by decide) rfl ?_
        refine g_goto 7 C dX1_bulges_52 (by decide) ?_
        exact g_w [2, 1, 0, 4, 5] rfl rfl (ih7 (_, _, _) (by
            try dsimp only
            exact ⟨by omega, by first | exact (cnI_st _ hi.1 (by omega)).symm | exact (Int.add_zero _).trans (cnI_sf _ hi.1 (by omega)).symm, by first | exact (cnI_st _ hi.1 (by omega)).symm | exact (Int.add_zero _).trans (cnI_sf _ hi.1 (by omega)).symm⟩) (by (try dsimp only); omega))
set_option maxHeartbeats 4000000 in
set_option maxRecDepth 100000 in
theorem k_X1_differing (E : gE) (l : Launch) {a_P a_hs a_se : Nat} {W h z o w : Int} {hs : Int → Int} (hz : 0 ≤ z ∧ z < 40) (ho : 0 ≤ o ∧ o < 40) (hw : w = 0 ∨ w = 1) (hh : hB9 hs) : gFun E l yX1_differing wsX1_differing { frames := 1, cells := 0, slots := 0, locals := 24 } [.ref a_P, .int (iI z), .int (iI o), .int (iI w)] [(a_P, .inr (1, [.ref a_hs, .ref a_se, .int (iI W), .int (iI h)])), (a_hs, aI E 200 hs)] (.int (iI (dfI hs z o w))) := by
  refine g_start (cc := cX1_differing) (maxL := 6) (ret := (some .int)) (by decide) rfl (Nat.le_of_ble_eq_true rfl) ?_
  intro p_ e_ s_ m_ args_ below_ meth_ c_ A_ C hr hnm
  refine g_iconst 1 C dX1_differing_0 rfl ?_
  refine g_istore (lv' := [(4, _), (0, _), (1, _), (2, _), (3, _)]) 3 C dX1_differing_1 rfl (by decide) rfl ?_
  refine g_iconst 4 C dX1_differing_3 rfl ?_
  refine g_istore (lv' := [(5, _), (4, _), (0, _), (1, _), (2, _), (3, _)]) 6 C dX1_differing_4 rfl (by decide) rfl ?_
  refine g_loop (α := Int × Int) (fun zz => [(a_P, .inr (1, [.ref a_hs, .ref a_se, .int (iI W), .int (iI h)])), (a_hs, aI E 200 hs)]) (fun zz => [(4, .int (iI zz.1)), (5, .int (iI zz.2)), (3, .int (iI w)), (2, .int (iI o)), (1, .int (iI z)), (0, .ref a_P)]) (fun zz => (0 ≤ zz.2 ∧ zz.2 ≤ 5) ∧ zz.1 = cnI (fun j => htI hs z j 0 ≠ htI hs o j w) zz.2) (fun zz => (5 - zz.2).toNat) (0, 0) (by
            try dsimp only
            exact ⟨⟨by omega, by omega⟩, rfl⟩) [1, 0, 5, 4, 3, 2] rfl rfl ?_
  rintro ⟨n, i⟩ hI ih6
  try dsimp only at hI ih6 ⊢
  obtain ⟨hi, rfl⟩ := hI
  refine g_iload 8 C 1 dX1_differing_6 rfl rfl ?_
  refine g_iconst 9 C dX1_differing_8 rfl ?_
  refine g_icmp_ge 40 12 C dX1_differing_9 (by decide) rfl (by omega) ?_ ?_
  · intro h9
    refine g_iload 42 C 0 dX1_differing_40 rfl rfl ?_
    exact g_iret C hr dX1_differing_42 ⟨g_ri (by rw [show i = 5 by omega]; rfl), rfl⟩
  · intro h9
    refine g_aload_n 13 C 5 dX1_differing_12 rfl rfl ?_
    refine g_iload_n 14 C 4 dX1_differing_13 rfl rfl ?_
    refine g_iload 16 C 1 dX1_differing_14 rfl rfl ?_
    refine g_iconst 17 C dX1_differing_16 rfl ?_
    refine g_callVF 20 C [0, 1] dX1_differing_17 rfl (k_X1_heightAt E l  (by first | assumption | omega) (by first | assumption | omega) (by first | assumption | omega)) (cwV 3 C.2.2.2.2.1 gX1_differing_X1_heightAt rfl rfl rfl cdX1_heightAt ⟨Nat.le_of_ble_eq_true rfl, Nat.le_of_ble_eq_true rfl⟩) rfl rfl rfl rfl (Nat.le_of_ble_eq_true rfl) 0 1 rfl rfl rfl ⟨Nat.le_of_ble_eq_true rfl, Nat.le_of_ble_eq_true rfl⟩ ?_
    refine g_aload_n 21 C 5 dX1_differing_20 rfl rfl ?_
    refine g_iload_n 22 C 3 dX1_differing_21 rfl rfl ?_
    refine g_iload 24 C 1 dX1_differing_22 rfl rfl ?_
    refine g_iload_n 25 C 2 dX1_differing_24 rfl rfl ?_
    refine g_callVF 28 C [0, 1] dX1_differing_25 rfl (k_X1_heightAt E l  (by first | assumption | omega) (by first | assumption | omega) (by first | assumption | omega)) (cwV 3 C.2.2.2.2.1 gX1_differing_X1_heightAt rfl rfl rfl cdX1_heightAt ⟨Nat.le_of_ble_eq_true rfl, Nat.le_of_ble_eq_true rfl⟩) rfl rfl rfl rfl (Nat.le_of_ble_eq_true rfl) 0 1 rfl rfl rfl ⟨Nat.le_of_ble_eq_true rfl, Nat.le_of_ble_eq_true rfl⟩ ?_
    have e0 := htI_b hh z i 0
    have e1 := htI_b hh o i w
    refine g_icmp_eq 34 31 C dX1_differing_28 (by decide) rfl (by omega) ?_ ?_
    · intro h28
      refine g_iinc (lv' := [(5, _), (4, _), (3, _), (2, _), (1, _), (0, _)]) 37 C 1 dX1_differing_34 rfl rfl (by decide) rfl ?_
      refine g_goto 6 C dX1_differing_37 (by decide) ?_
      exact g_w [1, 0, 2, 3, 4, 5] rfl rfl (ih6 (_, _) (by
            try dsimp only
            exact ⟨by omega, by first | exact (cnI_st (fun j => htI hs z j 0 ≠ htI hs o j w) hi.1 (by assumption)).symm | exact (cnI_sf (fun j => htI hs z j 0 ≠ htI hs o j w) hi.1 (fun q => q (by assumption))).symm⟩) (by (try dsimp only); omega))
    · intro h28
      refine g_iinc (lv' := [(4, _), (5, _), (3, _), (2, _), (1, _), (0, _)]) 34 C 0 dX1_differing_31 rfl rfl (by decide) rfl ?_
      refine g_iinc (lv' := [(5, _), (4, _), (3, _), (2, _), (1, _), (0, _)]) 37 C 1 dX1_differing_34 rfl rfl (by decide) rfl ?_
      refine g_goto 6 C dX1_differing_37 (by decide) ?_
      exact g_w [1, 0, 2, 3, 4, 5] rfl rfl (ih6 (_, _) (by
            try dsimp only
            exact ⟨by omega, by first | exact (cnI_st (fun j => htI hs z j 0 ≠ htI hs o j w) hi.1 (by assumption)).symm | exact (cnI_sf (fun j => htI hs z j 0 ≠ htI hs o j w) hi.1 (fun q => q (by assumption))).symm⟩) (by (try dsimp only); omega))
theorem cdX1_bulges : yX1_bulges.cls = RX1 ∧ yX1_bulges.cls ≠ "java/lang/invoke/MethodHandle" ∧ yX1_bulges.cls ≠ "java/lang/invoke/VarHandle" ∧ (parseMethodDescriptor yX1_bulges.desc).map (fun d => d.parameters.length) = some 1 := by decide +kernel
theorem cdX1_differing : yX1_differing.cls = RX1 ∧ yX1_differing.cls ≠ "java/lang/invoke/MethodHandle" ∧ yX1_differing.cls ≠ "java/lang/invoke/VarHandle" ∧ (parseMethodDescriptor yX1_differing.desc).map (fun d => d.parameters.length) = some 3 := by decide +kernel
set_option maxHeartbeats 4000000 in
set_option maxRecDepth 100000 in
theorem k_X1_kindAt (E : gE) (l : Launch) {a_P a_hs a_se : Nat} {W h z : Int} {hs : Int → Int} (hB : 1 ≤ W ∧ W ≤ 5 ∧ 1 ≤ h ∧ h ≤ 5) (hz : 0 ≤ z ∧ z < nsd W h) (hh : hB9 hs) : gFun E l yX1_kindAt wsX1_kindAt { frames := 2, cells := 0, slots := 0, locals := 49 } [.ref a_P, .int (iI z)] [(a_P, .inr (1, [.ref a_hs, .ref a_se, .int (iI W), .int (iI h)])), (a_hs, aI E 200 hs)] (.int (iI (kdI hs (nsd W h) z))) := by
  refine g_start (cc := cX1_kindAt) (maxL := 3) (ret := (some .int)) (by decide) rfl (Nat.le_of_ble_eq_true rfl) ?_
  intro p_ e_ s_ m_ args_ below_ meth_ c_ A_ C hr hnm
  have hn := nsd_b hB
  refine g_aload_n 1 C 0 dX1_kindAt_0 rfl rfl ?_
  refine g_iload_n 2 C 1 dX1_kindAt_1 rfl rfl ?_
  refine g_callVF 5 C [0, 1] dX1_kindAt_2 rfl (k_X1_bulges E l  (by first | assumption | omega) (by first | assumption | omega)) (cwV 1 C.2.2.2.2.1 gX1_kindAt_X1_bulges rfl rfl rfl cdX1_bulges ⟨Nat.le_of_ble_eq_true rfl, Nat.le_of_ble_eq_true rfl⟩) rfl rfl rfl rfl (Nat.le_of_ble_eq_true rfl) 0 1 rfl rfl rfl ⟨Nat.le_of_ble_eq_true rfl, Nat.le_of_ble_eq_true rfl⟩ ?_
  refine g_ifb_ne 10 8 C dX1_kindAt_5 (by decide) rfl ?_ ?_
  · intro h5
    refine g_iconst 11 C dX1_kindAt_10 rfl ?_
    refine g_istore_n (lv' := [(2, _), (0, _), (1, _)]) 12 C dX1_kindAt_11 rfl rfl (by decide) rfl ?_
    refine g_loop (α := Int) (fun zz => [(a_P, .inr (1, [.ref a_hs, .ref a_se, .int (iI W), .int (iI h)])), (a_hs, aI E 200 hs)]) (fun zz => [(2, .int (iI zz)), (1, .int (iI z)), (0, .ref a_P)]) (fun zz => 0 ≤ zz ∧ zz ≤ nsd W h ∧ ∀ j, 0 ≤ j → j < zz → j ≠ z → ¬ (dfI hs z j 0 = 0 ∨ dfI hs z j 1 = 0)) (fun zz => (nsd W h - zz).toNat) (0) (by
            try dsimp only
            exact ⟨by omega, by omega, fun j h1 h2 => absurd h1 (by omega)⟩) [0, 2, 1] rfl rfl ?_
    rintro k hI ih12
    try dsimp only at hI ih12 ⊢
    obtain ⟨hk0, hkn, hkk⟩ := hI
    refine g_iload_n 13 C 0 dX1_kindAt_12 rfl rfl ?_
    refine g_aload_n 14 C 2 dX1_kindAt_13 rfl rfl ?_
    refine g_callVF 17 C [0] dX1_kindAt_14 rfl (k_X1_sides E l  ) (cwV 0 C.2.2.2.2.1 gX1_kindAt_X1_sides rfl rfl rfl cdX1_sides ⟨Nat.le_of_ble_eq_true rfl, Nat.le_of_ble_eq_true rfl⟩) rfl rfl rfl rfl (Nat.le_of_ble_eq_true rfl) 0 1 rfl rfl rfl ⟨Nat.le_of_ble_eq_true rfl, Nat.le_of_ble_eq_true rfl⟩ ?_
    refine g_icmp_ge 53 20 C dX1_kindAt_17 (by decide) rfl (by omega) ?_ ?_
    · intro h17
      refine g_iconst 54 C dX1_kindAt_53 rfl ?_
      exact g_iret C hr dX1_kindAt_54 ⟨g_ri (((cI_t (by assumption)).trans (cI_f (fun ⟨j, a1, a2, a3, a4⟩ => hkk j a1 (by omega) a3 a4))).symm), rfl⟩
    · intro h17
      refine g_iload_n 21 C 0 dX1_kindAt_20 rfl rfl ?_
      refine g_iload_n 22 C 1 dX1_kindAt_21 rfl rfl ?_
      refine g_icmp_eq 47 25 C dX1_kindAt_22 (by decide) rfl (by omega) ?_ ?_
      · intro h22
        refine g_iinc (lv' := [(2, _), (1, _), (0, _)]) 50 C 0 dX1_kindAt_47 rfl rfl (by decide) rfl ?_
        refine g_goto 12 C dX1_kindAt_50 (by decide) ?_
        exact g_w [0, 1, 2] rfl rfl (ih12 ((k + 1)) (by
            try dsimp only
            exact ⟨by omega, by omega, fun j h1 h2 h3 => by
            by_cases e : j = k
            · subst e; omega
            · exact hkk j h1 (by omega) h3⟩) (by (try dsimp only); omega))
      · intro h22
        refine g_aload_n 26 C 2 dX1_kindAt_25 rfl rfl ?_
        refine g_iload_n 27 C 1 dX1_kindAt_26 rfl rfl ?_
        refine g_iload_n 28 C 0 dX1_kindAt_27 rfl rfl ?_
        refine g_iconst 29 C dX1_kindAt_28 rfl ?_
        refine g_callVF 32 C [0, 1] dX1_kindAt_29 rfl (k_X1_differing E l  (by first | assumption | omega) (by first | assumption | omega) (by first | assumption | omega) (by first | assumption | omega)) (cwV 3 C.2.2.2.2.1 gX1_kindAt_X1_differing rfl rfl rfl cdX1_differing ⟨Nat.le_of_ble_eq_true rfl, Nat.le_of_ble_eq_true rfl⟩) rfl rfl rfl rfl (Nat.le_of_ble_eq_true rfl) 0 1 rfl rfl rfl ⟨Nat.le_of_ble_eq_true rfl, Nat.le_of_ble_eq_true rfl⟩ ?_
        refine g_if_eq 45 35 C dX1_kindAt_32 (by decide) rfl (by have := cnI_b (fun j => htI hs z j 0 ≠ htI hs k j 0) (i := 5) (by omega); unfold dfI; omega) ?_ ?_
        · intro h32
          refine g_iconst 46 C dX1_kindAt_45 rfl ?_
          exact g_iret C hr dX1_kindAt_46 ⟨g_ri (((cI_t (by assumption)).trans (cI_t ⟨k, hk0, by omega, by omega, by omega⟩)).symm), rfl⟩
        · intro h32
          refine g_aload_n 36 C 2 dX1_kindAt_35 rfl rfl ?_
          refine g_iload_n 37 C 1 dX1_kindAt_36 rfl rfl ?_
          refine g_iload_n 38 C 0 dX1_kindAt_37 rfl rfl ?_
          refine g_iconst 39 C dX1_kindAt_38 rfl ?_
          refine g_callVF 42 C [0, 1] dX1_kindAt_39 rfl (k_X1_differing E l  (by first | assumption | omega) (by first | assumption | omega) (by first | assumption | omega) (by first | assumption | omega)) (cwV 3 C.2.2.2.2.1 gX1_kindAt_X1_differing rfl rfl rfl cdX1_differing ⟨Nat.le_of_ble_eq_true rfl, Nat.le_of_ble_eq_true rfl⟩) rfl rfl rfl rfl (Nat.le_of_ble_eq_true rfl) 0 1 rfl rfl rfl ⟨Nat.le_of_ble_eq_true rfl, Nat.le_of_ble_eq_true rfl⟩ ?_
          refine g_if_ne 47 45 C dX1_kindAt_42 (by decide) rfl (by have := cnI_b (fun j => htI hs z j 0 ≠ htI hs k j 1) (i := 5) (by omega); unfold dfI; omega) ?_ ?_
          · intro h42
            refine g_iinc (lv' := [(2, _), (1, _), (0, _)]) 50 C 0 dX1_kindAt_47 rfl rfl (by decide) rfl ?_
            refine g_goto 12 C dX1_kindAt_50 (by decide) ?_
            exact g_w [0, 1, 2] rfl rfl (ih12 ((k + 1)) (by
            try dsimp only
            exact ⟨by omega, by omega, fun j h1 h2 h3 => by
            by_cases e : j = k
            · subst e; omega
            · exact hkk j h1 (by omega) h3⟩) (by (try dsimp only); omega))
          · intro h42
            refine g_iconst 46 C dX1_kindAt_45 rfl ?_
            exact g_iret C hr dX1_kindAt_46 ⟨g_ri (((cI_t (by assumption)).trans (cI_t ⟨k, hk0, by omega, by omega, by omega⟩)).symm), rfl⟩
  · intro h5
    refine g_iconst 9 C dX1_kindAt_8 rfl ?_
    exact g_iret C hr dX1_kindAt_9 ⟨g_ri ((cI_f (by assumption)).symm), rfl⟩
theorem cdX1_setHeight : yX1_setHeight.cls = RX1 ∧ yX1_setHeight.cls ≠ "java/lang/invoke/MethodHandle" ∧ yX1_setHeight.cls ≠ "java/lang/invoke/VarHandle" ∧ (parseMethodDescriptor yX1_setHeight.desc).map (fun d => d.parameters.length) = some 3 := by decide +kernel
set_option maxHeartbeats 4000000 in
set_option maxRecDepth 100000 in
theorem k_X1_giveShape (E : gE) (l : Launch) {a_P a_hs a_se : Nat} {W h z o w : Int} {hs : Int → Int} (hz : 0 ≤ z ∧ z < 40) (ho : 0 ≤ o ∧ o < 40) (hw : w = 0 ∨ w = 1) (hh : hB9 hs) (hzo : z ≠ o) : gUpd E l yX1_giveShape wsX1_giveShape { frames := 2, cells := 0, slots := 0, locals := 49 } [.ref a_P, .int (iI z), .int (iI o), .int (iI w)] [(a_P, .inr (1, [.ref a_hs, .ref a_se, .int (iI W), .int (iI h)])), (a_hs, aI E 200 hs)] (some (.int (iI (dfI hs z o w)))) [(a_P, .inr (1, [.ref a_hs, .ref a_se, .int (iI W), .int (iI h)])), (a_hs, aI E 200 (gvI hs z o w 5))] := by
  refine g_start (cc := cX1_giveShape) (maxL := 6) (ret := (some .int)) (by decide) rfl (Nat.le_of_ble_eq_true rfl) ?_
  intro p_ e_ s_ m_ args_ below_ meth_ c_ A_ C hr hnm
  refine g_aload_n 1 C 0 dX1_giveShape_0 rfl rfl ?_
  refine g_iload_n 2 C 1 dX1_giveShape_1 rfl rfl ?_
  refine g_iload_n 3 C 2 dX1_giveShape_2 rfl rfl ?_
  refine g_iload_n 4 C 3 dX1_giveShape_3 rfl rfl ?_
  refine g_callVF 7 C [0, 1] dX1_giveShape_4 rfl (k_X1_differing E l  (by first | assumption | omega) (by first | assumption | omega) (by first | assumption | omega) (by first | assumption | omega)) (cwV 3 C.2.2.2.2.1 gX1_giveShape_X1_differing rfl rfl rfl cdX1_differing ⟨Nat.le_of_ble_eq_true rfl, Nat.le_of_ble_eq_true rfl⟩) rfl rfl rfl rfl (Nat.le_of_ble_eq_true rfl) 0 1 rfl rfl rfl ⟨Nat.le_of_ble_eq_true rfl, Nat.le_of_ble_eq_true rfl⟩ ?_
  refine g_istore (lv' := [(4, _), (0, _), (1, _), (2, _), (3, _)]) 9 C dX1_giveShape_7 rfl (by decide) rfl ?_
  refine g_iconst 10 C dX1_giveShape_9 rfl ?_
  refine g_istore (lv' := [(5, _), (4, _), (0, _), (1, _), (2, _), (3, _)]) 12 C dX1_giveShape_10 rfl (by decide) rfl ?_
  refine g_loop (α := Int) (fun zz => [(a_P, .inr (1, [.ref a_hs, .ref a_se, .int (iI W), .int (iI h)])), (a_hs, aI E 200 (gvI hs z o w zz))]) (fun zz => [(5, .int (iI zz)), (4, .int (iI (dfI hs z o w))), (3, .int (iI w)), (2, .int (iI o)), (1, .int (iI z)), (0, .ref a_P)]) (fun zz => 0 ≤ zz ∧ zz ≤ 5) (fun zz => (5 - zz).toNat) (0) (by (try dsimp only); omega) [0, 1, 5, 4, 3, 2] (by rw [gvI_0]) rfl ?_
  rintro i hI ih12
  try dsimp only at hI ih12 ⊢
  obtain ⟨hi0, hi5⟩ := hI
  refine g_iload 14 C 0 dX1_giveShape_12 rfl rfl ?_
  refine g_iconst 15 C dX1_giveShape_14 rfl ?_
  refine g_icmp_ge 39 18 C dX1_giveShape_15 (by decide) rfl (by omega) ?_ ?_
  · intro h15
    refine g_iload 41 C 1 dX1_giveShape_39 rfl rfl ?_
    exact g_iret C hr dX1_giveShape_41 ⟨g_ri (rfl), by rw [show i = 5 by omega]⟩
  · intro h15
    refine g_aload_n 19 C 5 dX1_giveShape_18 rfl rfl ?_
    refine g_iload_n 20 C 4 dX1_giveShape_19 rfl rfl ?_
    refine g_iload 22 C 0 dX1_giveShape_20 rfl rfl ?_
    refine g_aload_n 23 C 5 dX1_giveShape_22 rfl rfl ?_
    refine g_iload_n 24 C 3 dX1_giveShape_23 rfl rfl ?_
    refine g_iload 26 C 0 dX1_giveShape_24 rfl rfl ?_
    refine g_iload_n 27 C 2 dX1_giveShape_26 rfl rfl ?_
    refine g_callVF 30 C [0, 1] dX1_giveShape_27 rfl (k_X1_heightAt E l  (by first | assumption | omega) (by first | assumption | omega) (by first | assumption | omega)) (cwV 3 C.2.2.2.2.1 gX1_giveShape_X1_heightAt rfl rfl rfl cdX1_heightAt ⟨Nat.le_of_ble_eq_true rfl, Nat.le_of_ble_eq_true rfl⟩) rfl rfl rfl rfl (Nat.le_of_ble_eq_true rfl) 0 1 rfl rfl rfl ⟨Nat.le_of_ble_eq_true rfl, Nat.le_of_ble_eq_true rfl⟩ ?_
    refine g_callVU (ws' := [(_, .inr (1, [_, _, _, _])), (_, aI _ _ _)]) 33 C [0, 1] dX1_giveShape_30 rfl (k_X1_setHeight E l  (by first | assumption | omega) (by first | assumption | omega)) (cwV 3 C.2.2.2.2.1 gX1_giveShape_X1_setHeight rfl rfl rfl cdX1_setHeight ⟨Nat.le_of_ble_eq_true rfl, Nat.le_of_ble_eq_true rfl⟩) rfl rfl rfl rfl (Nat.le_of_ble_eq_true rfl) 0 1 rfl rfl rfl ⟨Nat.le_of_ble_eq_true rfl, Nat.le_of_ble_eq_true rfl⟩ rfl rfl ?_
    refine g_iinc (lv' := [(5, _), (4, _), (3, _), (2, _), (1, _), (0, _)]) 36 C 0 dX1_giveShape_33 rfl rfl (by decide) rfl ?_
    refine g_goto 12 C dX1_giveShape_36 (by decide) ?_
    exact g_w [0, 1, 2, 3, 4, 5] (by (try dsimp only); rw [← gvI_s hzo hi0 (by omega)]) rfl (ih12 ((i + 1)) (by (try dsimp only); omega) (by (try dsimp only); omega))
theorem cdX1_farness : yX1_farness.cls = RX1 ∧ yX1_farness.cls ≠ "java/lang/invoke/MethodHandle" ∧ yX1_farness.cls ≠ "java/lang/invoke/VarHandle" ∧ (parseMethodDescriptor yX1_farness.desc).map (fun d => d.parameters.length) = some 4 := by decide +kernel
theorem cdX1_isFlat : yX1_isFlat.cls = RX1 ∧ yX1_isFlat.cls ≠ "java/lang/invoke/MethodHandle" ∧ yX1_isFlat.cls ≠ "java/lang/invoke/VarHandle" ∧ (parseMethodDescriptor yX1_isFlat.desc).map (fun d => d.parameters.length) = some 2 := by decide +kernel
set_option maxHeartbeats 4000000 in
set_option maxRecDepth 100000 in
theorem k_X1_strangersApart (E : gE) (l : Launch) {a_P a_hs a_se : Nat} {W h a b : Int} {hs se : Int → Int} (hB : 1 ≤ W ∧ W ≤ 5 ∧ 1 ≤ h ∧ h ≤ 5) (ha : 0 ≤ a ∧ a < W * h * 4) (hb : 0 ≤ b ∧ b < W * h * 4) (hse : ∀ p e : Int, 0 ≤ p ∧ p < W * h → 0 ≤ e ∧ e < 4 → se (p * 4 + e) = sdI W h p e) (hh : hB9 hs) : gFun E l yX1_strangersApart wsX1_strangersApart { frames := 3, cells := 0, slots := 0, locals := 74 } [.ref a_P, .int (iI a), .int (iI b)] [(a_P, .inr (1, [.ref a_hs, .ref a_se, .int (iI W), .int (iI h)])), (a_hs, aI E 200 hs), (a_se, aI E 100 se)] (.int (iI (saI W h hs a b))) := by
  refine g_start (cc := cX1_strangersApart) (maxL := 7) (ret := (some .int)) (by decide) rfl (Nat.le_of_ble_eq_true rfl) ?_
  intro p_ e_ s_ m_ args_ below_ meth_ c_ A_ C hr hnm
  have hn := nsd_b hB
  have ea := sdI_b (p := a / 4) (e := a % 4) hB (by omega) (by omega)
  have eb := sdI_b (p := b / 4) (e := b % 4) hB (by omega) (by omega)
  refine g_iload_n 1 C 1 dX1_strangersApart_0 rfl rfl ?_
  refine g_iconst 2 C dX1_strangersApart_1 rfl ?_
  refine g_idiv 3 C dX1_strangersApart_2 rfl (by omega) ?_
  refine g_istore_n (lv' := [(3, _), (0, _), (1, _), (2, _)]) 4 C dX1_strangersApart_3 rfl rfl (by decide) rfl ?_
  refine g_iload_n 5 C 2 dX1_strangersApart_4 rfl rfl ?_
  refine g_iconst 6 C dX1_strangersApart_5 rfl ?_
  refine g_irem 7 C dX1_strangersApart_6 rfl (by omega) ?_
  refine g_istore (lv' := [(4, _), (3, _), (0, _), (1, _), (2, _)]) 9 C dX1_strangersApart_7 rfl (by decide) rfl ?_
  refine g_iload_n 10 C 4 dX1_strangersApart_9 rfl rfl ?_
  refine g_iconst 11 C dX1_strangersApart_10 rfl ?_
  refine g_idiv 12 C dX1_strangersApart_11 rfl (by omega) ?_
  refine g_istore (lv' := [(5, _), (4, _), (3, _), (0, _), (1, _), (2, _)]) 14 C dX1_strangersApart_12 rfl (by decide) rfl ?_
  refine g_iload_n 15 C 5 dX1_strangersApart_14 rfl rfl ?_
  refine g_iconst 16 C dX1_strangersApart_15 rfl ?_
  refine g_irem 17 C dX1_strangersApart_16 rfl (by omega) ?_
  refine g_istore (lv' := [(6, _), (5, _), (4, _), (3, _), (0, _), (1, _), (2, _)]) 19 C dX1_strangersApart_17 rfl (by decide) rfl ?_
  refine g_iload_n 20 C 3 dX1_strangersApart_19 rfl rfl ?_
  refine g_iload 22 C 1 dX1_strangersApart_20 rfl rfl ?_
  refine g_icmp_eq 64 25 C dX1_strangersApart_22 (by decide) rfl (by omega) ?_ ?_
  · intro h22
    refine g_bipush 66 C dX1_strangersApart_64 rfl (by decide) ?_
    exact g_iret C hr dX1_strangersApart_66 ⟨g_ri ((if_pos (by omega)).symm), rfl⟩
  · intro h22
    refine g_aload_n 26 C 4 dX1_strangersApart_25 rfl rfl ?_
    refine g_iload_n 27 C 3 dX1_strangersApart_26 rfl rfl ?_
    refine g_iload 29 C 2 dX1_strangersApart_27 rfl rfl ?_
    refine g_callVF 32 C [0, 2] dX1_strangersApart_29 rfl (k_X1_isFlat E l  (by first | assumption | omega) (by first | assumption | omega) (by first | assumption | omega) (by first | assumption | omega)) (cwV 2 C.2.2.2.2.1 gX1_strangersApart_X1_isFlat rfl rfl rfl cdX1_isFlat ⟨Nat.le_of_ble_eq_true rfl, Nat.le_of_ble_eq_true rfl⟩) rfl rfl rfl rfl (Nat.le_of_ble_eq_true rfl) 0 1 rfl rfl rfl ⟨Nat.le_of_ble_eq_true rfl, Nat.le_of_ble_eq_true rfl⟩ ?_
    refine g_ifb_ne 64 35 C dX1_strangersApart_32 (by decide) rfl ?_ ?_
    · intro h32
      refine g_bipush 66 C dX1_strangersApart_64 rfl (by decide) ?_
      exact g_iret C hr dX1_strangersApart_66 ⟨g_ri ((if_pos (by omega)).symm), rfl⟩
    · intro h32
      refine g_aload_n 36 C 4 dX1_strangersApart_35 rfl rfl ?_
      refine g_iload 38 C 1 dX1_strangersApart_36 rfl rfl ?_
      refine g_iload 40 C 0 dX1_strangersApart_38 rfl rfl ?_
      refine g_callVF 43 C [0, 2] dX1_strangersApart_40 rfl (k_X1_isFlat E l  (by first | assumption | omega) (by first | assumption | omega) (by first | assumption | omega) (by first | assumption | omega)) (cwV 2 C.2.2.2.2.1 gX1_strangersApart_X1_isFlat rfl rfl rfl cdX1_isFlat ⟨Nat.le_of_ble_eq_true rfl, Nat.le_of_ble_eq_true rfl⟩) rfl rfl rfl rfl (Nat.le_of_ble_eq_true rfl) 0 1 rfl rfl rfl ⟨Nat.le_of_ble_eq_true rfl, Nat.le_of_ble_eq_true rfl⟩ ?_
      refine g_ifb_ne 64 46 C dX1_strangersApart_43 (by decide) rfl ?_ ?_
      · intro h43
        refine g_bipush 66 C dX1_strangersApart_64 rfl (by decide) ?_
        exact g_iret C hr dX1_strangersApart_66 ⟨g_ri ((if_pos (by omega)).symm), rfl⟩
      · intro h43
        refine g_aload_n 47 C 4 dX1_strangersApart_46 rfl rfl ?_
        refine g_iload_n 48 C 3 dX1_strangersApart_47 rfl rfl ?_
        refine g_iload 50 C 2 dX1_strangersApart_48 rfl rfl ?_
        refine g_callVF 53 C [0, 2] dX1_strangersApart_50 rfl (k_X1_sideAt E l  (by first | assumption | omega) (by first | assumption | omega) (by first | assumption | omega) (by first | assumption | omega)) (cwV 2 C.2.2.2.2.1 gX1_strangersApart_X1_sideAt rfl rfl rfl cdX1_sideAt ⟨Nat.le_of_ble_eq_true rfl, Nat.le_of_ble_eq_true rfl⟩) rfl rfl rfl rfl (Nat.le_of_ble_eq_true rfl) 0 1 rfl rfl rfl ⟨Nat.le_of_ble_eq_true rfl, Nat.le_of_ble_eq_true rfl⟩ ?_
        refine g_aload_n 54 C 4 dX1_strangersApart_53 rfl rfl ?_
        refine g_iload 56 C 1 dX1_strangersApart_54 rfl rfl ?_
        refine g_iload 58 C 0 dX1_strangersApart_56 rfl rfl ?_
        refine g_callVF 61 C [0, 2] dX1_strangersApart_58 rfl (k_X1_sideAt E l  (by first | assumption | omega) (by first | assumption | omega) (by first | assumption | omega) (by first | assumption | omega)) (cwV 2 C.2.2.2.2.1 gX1_strangersApart_X1_sideAt rfl rfl rfl cdX1_sideAt ⟨Nat.le_of_ble_eq_true rfl, Nat.le_of_ble_eq_true rfl⟩) rfl rfl rfl rfl (Nat.le_of_ble_eq_true rfl) 0 1 rfl rfl rfl ⟨Nat.le_of_ble_eq_true rfl, Nat.le_of_ble_eq_true rfl⟩ ?_
        refine g_icmp_ne 67 64 C dX1_strangersApart_61 (by decide) rfl (by omega) ?_ ?_
        · intro h61
          refine g_aload_n 68 C 4 dX1_strangersApart_67 rfl rfl ?_
          refine g_iload_n 69 C 3 dX1_strangersApart_68 rfl rfl ?_
          refine g_iload 71 C 2 dX1_strangersApart_69 rfl rfl ?_
          refine g_iload 73 C 1 dX1_strangersApart_71 rfl rfl ?_
          refine g_iload 75 C 0 dX1_strangersApart_73 rfl rfl ?_
          refine g_callVF 78 C [0, 1, 2] dX1_strangersApart_75 rfl (k_X1_farness E l  (by first | assumption | omega) (by first | assumption | omega) (by first | assumption | omega) (by first | assumption | omega) (by first | assumption | omega) (by first | assumption | omega) (by first | assumption | omega) (by first | assumption | omega) (by first | assumption | omega)) (cwV 4 C.2.2.2.2.1 gX1_strangersApart_X1_farness rfl rfl rfl cdX1_farness ⟨Nat.le_of_ble_eq_true rfl, Nat.le_of_ble_eq_true rfl⟩) rfl rfl rfl rfl (Nat.le_of_ble_eq_true rfl) 0 1 rfl rfl rfl ⟨Nat.le_of_ble_eq_true rfl, Nat.le_of_ble_eq_true rfl⟩ ?_
          exact g_iret C hr dX1_strangersApart_78 ⟨g_ri ((if_neg (by omega)).symm), rfl⟩
        · intro h61
          refine g_bipush 66 C dX1_strangersApart_64 rfl (by decide) ?_
          exact g_iret C hr dX1_strangersApart_66 ⟨g_ri ((if_pos (by omega)).symm), rfl⟩
theorem cdX1_strangersApart : yX1_strangersApart.cls = RX1 ∧ yX1_strangersApart.cls ≠ "java/lang/invoke/MethodHandle" ∧ yX1_strangersApart.cls ≠ "java/lang/invoke/VarHandle" ∧ (parseMethodDescriptor yX1_strangersApart.desc).map (fun d => d.parameters.length) = some 2 := by decide +kernel
set_option maxHeartbeats 4000000 in
set_option maxRecDepth 100000 in
theorem k_X1_leastFar (E : gE) (l : Launch) {a_P a_hs a_se : Nat} {W h : Int} {hs se : Int → Int} (hB : 1 ≤ W ∧ W ≤ 5 ∧ 1 ≤ h ∧ h ≤ 5) (hse : ∀ p e : Int, 0 ≤ p ∧ p < W * h → 0 ≤ e ∧ e < 4 → se (p * 4 + e) = sdI W h p e) (hh : hB9 hs) : gMet E l yX1_leastFar wsX1_leastFar { frames := 4, cells := 0, slots := 0, locals := 100 } 0 0 [.ref a_P] [(a_P, .inr (1, [.ref a_hs, .ref a_se, .int (iI W), .int (iI h)])), (a_hs, aI E 200 hs), (a_se, aI E 100 se)] (fun v w => ∃ r : Int, (v = some (.int (iI r)) ∧ lfP W h hs (fun x y => 0 ≤ x ∧ x < y ∧ y < W * h * 4) r) ∧ w = [(a_P, .inr (1, [.ref a_hs, .ref a_se, .int (iI W), .int (iI h)])), (a_hs, aI E 200 hs), (a_se, aI E 100 se)]) := by
  refine g_start (cc := cX1_leastFar) (maxL := 5) (ret := (some .int)) (by decide) rfl (Nat.le_of_ble_eq_true rfl) ?_
  intro p_ e_ s_ m_ args_ below_ meth_ c_ A_ C hr hnm
  have hn := nsd_b hB
  refine g_bipush 2 C dX1_leastFar_0 rfl (by decide) ?_
  refine g_istore_n (lv' := [(1, _), (0, _)]) 3 C dX1_leastFar_2 rfl rfl (by decide) rfl ?_
  refine g_iconst 4 C dX1_leastFar_3 rfl ?_
  refine g_istore_n (lv' := [(2, _), (1, _), (0, _)]) 5 C dX1_leastFar_4 rfl rfl (by decide) rfl ?_
  refine g_loop (α := Int × Int) (fun zz => [(a_P, .inr (1, [.ref a_hs, .ref a_se, .int (iI W), .int (iI h)])), (a_hs, aI E 200 hs), (a_se, aI E 100 se)]) (fun zz => [(1, .int (iI zz.1)), (2, .int (iI zz.2)), (0, .ref a_P)]) (fun zz => (0 ≤ zz.2 ∧ zz.2 ≤ W * h * 4) ∧ (-9 ≤ zz.1 ∧ zz.1 ≤ 90) ∧ lfP W h hs (fun x y => 0 ≤ x ∧ x < y ∧ y < W * h * 4 ∧ x < zz.2) zz.1) (fun zz => (W * h * 4 - zz.2).toNat) (-9, 0) (by
            try dsimp only
            exact ⟨by omega, by omega, lfP_0 (fun x y q => by omega)⟩) [1, 0, 2] rfl rfl ?_
  rintro ⟨r, a⟩ hI ih5
  try dsimp only at hI ih5 ⊢
  obtain ⟨ha, hr9, hL⟩ := hI
  refine g_iload_n 6 C 1 dX1_leastFar_5 rfl rfl ?_
  refine g_aload_n 7 C 2 dX1_leastFar_6 rfl rfl ?_
  refine g_callVF 10 C [0] dX1_leastFar_7 rfl (k_X1_pieces E l  ) (cwV 0 C.2.2.2.2.1 gX1_leastFar_X1_pieces rfl rfl rfl cdX1_pieces ⟨Nat.le_of_ble_eq_true rfl, Nat.le_of_ble_eq_true rfl⟩) rfl rfl rfl rfl (Nat.le_of_ble_eq_true rfl) 0 1 rfl rfl rfl ⟨Nat.le_of_ble_eq_true rfl, Nat.le_of_ble_eq_true rfl⟩ ?_
  refine g_iconst 11 C dX1_leastFar_10 rfl ?_
  refine g_imul 12 C dX1_leastFar_11 rfl ?_
  refine g_icmp_ge 71 15 C dX1_leastFar_12 (by decide) rfl (by omega) ?_ ?_
  · intro h12
    refine g_iload_n 72 C 0 dX1_leastFar_71 rfl rfl ?_
    exact g_iret C hr dX1_leastFar_72 ⟨_, ⟨rfl, lfP_c (fun x y => by omega) hL⟩, rfl⟩
  · intro h12
    refine g_iload_n 16 C 1 dX1_leastFar_15 rfl rfl ?_
    refine g_iconst 17 C dX1_leastFar_16 rfl ?_
    refine g_iadd 18 C dX1_leastFar_17 rfl ?_
    refine g_istore_n (lv' := [(3, _), (1, _), (2, _), (0, _)]) 19 C dX1_leastFar_18 rfl rfl (by decide) rfl ?_
    refine g_loop (α := Int × Int) (fun zz => [(a_P, .inr (1, [.ref a_hs, .ref a_se, .int (iI W), .int (iI h)])), (a_hs, aI E 200 hs), (a_se, aI E 100 se)]) (fun zz => [(3, .int (iI zz.2)), (1, .int (iI zz.1)), (2, .int (iI a)), (0, .ref a_P)]) (fun zz => (a < zz.2 ∧ zz.2 ≤ W * h * 4) ∧ (-9 ≤ zz.1 ∧ zz.1 ≤ 90) ∧ lfP W h hs (fun x y => 0 ≤ x ∧ x < y ∧ y < W * h * 4 ∧ (x < a ∨ (x = a ∧ y < zz.2))) zz.1) (fun zz => (W * h * 4 - zz.2).toNat) (r, (a + 1)) (by
            try dsimp only
            exact ⟨by omega, by omega, lfP_c (fun x y => by omega) hL⟩) [0, 1, 2, 3] rfl rfl ?_
    rintro ⟨r, b⟩ hI ih19
    try dsimp only at hI ih19 ⊢
    obtain ⟨hb, hr9, hM⟩ := hI
    refine g_iload_n 20 C 0 dX1_leastFar_19 rfl rfl ?_
    refine g_aload_n 21 C 3 dX1_leastFar_20 rfl rfl ?_
    refine g_callVF 24 C [0] dX1_leastFar_21 rfl (k_X1_pieces E l  ) (cwV 0 C.2.2.2.2.1 gX1_leastFar_X1_pieces rfl rfl rfl cdX1_pieces ⟨Nat.le_of_ble_eq_true rfl, Nat.le_of_ble_eq_true rfl⟩) rfl rfl rfl rfl (Nat.le_of_ble_eq_true rfl) 0 1 rfl rfl rfl ⟨Nat.le_of_ble_eq_true rfl, Nat.le_of_ble_eq_true rfl⟩ ?_
    refine g_iconst 25 C dX1_leastFar_24 rfl ?_
    refine g_imul 26 C dX1_leastFar_25 rfl ?_
    refine g_icmp_ge 65 29 C dX1_leastFar_26 (by decide) rfl (by omega) ?_ ?_
    · intro h26
      refine g_iinc (lv' := [(2, _), (3, _), (1, _), (0, _)]) 68 C 2 dX1_leastFar_65 rfl rfl (by decide) rfl ?_
      refine g_goto 5 C dX1_leastFar_68 (by decide) ?_
      exact g_w [2, 0, 3] rfl rfl (ih5 (r, (a + 1)) (by
            try dsimp only
            exact ⟨by omega, by omega, lfP_c (fun x y => by omega) hM⟩) (by (try dsimp only); omega))
    · intro h26
      refine g_aload_n 30 C 3 dX1_leastFar_29 rfl rfl ?_
      refine g_iload_n 31 C 2 dX1_leastFar_30 rfl rfl ?_
      refine g_iload_n 32 C 0 dX1_leastFar_31 rfl rfl ?_
      refine g_callVF 35 C [0, 1, 2] dX1_leastFar_32 rfl (k_X1_strangersApart E l  (by first | assumption | omega) (by first | assumption | omega) (by first | assumption | omega) (by first | assumption | omega) (by first | assumption | omega)) (cwV 2 C.2.2.2.2.1 gX1_leastFar_X1_strangersApart rfl rfl rfl cdX1_strangersApart ⟨Nat.le_of_ble_eq_true rfl, Nat.le_of_ble_eq_true rfl⟩) rfl rfl rfl rfl (Nat.le_of_ble_eq_true rfl) 0 1 rfl rfl rfl ⟨Nat.le_of_ble_eq_true rfl, Nat.le_of_ble_eq_true rfl⟩ ?_
      refine g_istore (lv' := [(4, _), (3, _), (1, _), (2, _), (0, _)]) 37 C dX1_leastFar_35 rfl (by decide) rfl ?_
      have e0 := saI_b (W := W) (h := h) hh a b
      refine g_iload 39 C 0 dX1_leastFar_37 rfl rfl ?_
      refine g_bipush 41 C dX1_leastFar_39 rfl (by decide) ?_
      refine g_icmp_eq 59 44 C dX1_leastFar_41 (by decide) rfl (by omega) ?_ ?_
      · intro h41
        refine g_iinc (lv' := [(3, _), (4, _), (1, _), (2, _), (0, _)]) 62 C 1 dX1_leastFar_59 rfl rfl (by decide) rfl ?_
        refine g_goto 19 C dX1_leastFar_62 (by decide) ?_
        first
        | exact g_w [0, 2, 3, 4] rfl rfl (ih19 (r, (b + 1)) (by
            try dsimp only
            exact ⟨by omega, by omega, by
            have q := lfP_s (D' := fun x y => 0 ≤ x ∧ x < y ∧ y < W * h * 4 ∧ (x < a ∨ (x = a ∧ y < b + 1))) (c := a) (d := b) hh hM (fun x y => by omega)
            first | rwa [if_pos (by omega)] at q | rwa [if_neg (by omega)] at q⟩) (by (try dsimp only); omega))
        | exact g_w [0, 2, 3, 4] rfl rfl (ih19 ((saI W h hs a b), (b + 1)) (by
            try dsimp only
            exact ⟨by omega, by omega, by
            have q := lfP_s (D' := fun x y => 0 ≤ x ∧ x < y ∧ y < W * h * 4 ∧ (x < a ∨ (x = a ∧ y < b + 1))) (c := a) (d := b) hh hM (fun x y => by omega)
            first | rwa [if_pos (by omega)] at q | rwa [if_neg (by omega)] at q⟩) (by (try dsimp only); omega))
      · intro h41
        refine g_iload_n 45 C 2 dX1_leastFar_44 rfl rfl ?_
        refine g_bipush 47 C dX1_leastFar_45 rfl (by decide) ?_
        refine g_icmp_eq 56 50 C dX1_leastFar_47 (by decide) rfl (by omega) ?_ ?_
        · intro h47
          refine g_iload 58 C 0 dX1_leastFar_56 rfl rfl ?_
          refine g_istore_n (lv' := [(1, _), (4, _), (3, _), (2, _), (0, _)]) 59 C dX1_leastFar_58 rfl rfl (by decide) rfl ?_
          refine g_iinc (lv' := [(3, _), (1, _), (4, _), (2, _), (0, _)]) 62 C 2 dX1_leastFar_59 rfl rfl (by decide) rfl ?_
          refine g_goto 19 C dX1_leastFar_62 (by decide) ?_
          first
          | exact g_w [0, 1, 3, 4] rfl rfl (ih19 (r, (b + 1)) (by
            try dsimp only
            exact ⟨by omega, by omega, by
            have q := lfP_s (D' := fun x y => 0 ≤ x ∧ x < y ∧ y < W * h * 4 ∧ (x < a ∨ (x = a ∧ y < b + 1))) (c := a) (d := b) hh hM (fun x y => by omega)
            first | rwa [if_pos (by omega)] at q | rwa [if_neg (by omega)] at q⟩) (by (try dsimp only); omega))
          | exact g_w [0, 1, 3, 4] rfl rfl (ih19 ((saI W h hs a b), (b + 1)) (by
            try dsimp only
            exact ⟨by omega, by omega, by
            have q := lfP_s (D' := fun x y => 0 ≤ x ∧ x < y ∧ y < W * h * 4 ∧ (x < a ∨ (x = a ∧ y < b + 1))) (c := a) (d := b) hh hM (fun x y => by omega)
            first | rwa [if_pos (by omega)] at q | rwa [if_neg (by omega)] at q⟩) (by (try dsimp only); omega))
        · intro h47
          refine g_iload 52 C 0 dX1_leastFar_50 rfl rfl ?_
          refine g_iload_n 53 C 2 dX1_leastFar_52 rfl rfl ?_
          refine g_icmp_ge 59 56 C dX1_leastFar_53 (by decide) rfl (by omega) ?_ ?_
          · intro h53
            refine g_iinc (lv' := [(3, _), (4, _), (1, _), (2, _), (0, _)]) 62 C 1 dX1_leastFar_59 rfl rfl (by decide) rfl ?_
            refine g_goto 19 C dX1_leastFar_62 (by decide) ?_
            first
            | exact g_w [0, 2, 3, 4] rfl rfl (ih19 (r, (b + 1)) (by
            try dsimp only
            exact ⟨by omega, by omega, by
            have q := lfP_s (D' := fun x y => 0 ≤ x ∧ x < y ∧ y < W * h * 4 ∧ (x < a ∨ (x = a ∧ y < b + 1))) (c := a) (d := b) hh hM (fun x y => by omega)
            first | rwa [if_pos (by omega)] at q | rwa [if_neg (by omega)] at q⟩) (by (try dsimp only); omega))
            | exact g_w [0, 2, 3, 4] rfl rfl (ih19 ((saI W h hs a b), (b + 1)) (by
            try dsimp only
            exact ⟨by omega, by omega, by
            have q := lfP_s (D' := fun x y => 0 ≤ x ∧ x < y ∧ y < W * h * 4 ∧ (x < a ∨ (x = a ∧ y < b + 1))) (c := a) (d := b) hh hM (fun x y => by omega)
            first | rwa [if_pos (by omega)] at q | rwa [if_neg (by omega)] at q⟩) (by (try dsimp only); omega))
          · intro h53
            refine g_iload 58 C 0 dX1_leastFar_56 rfl rfl ?_
            refine g_istore_n (lv' := [(1, _), (4, _), (3, _), (2, _), (0, _)]) 59 C dX1_leastFar_58 rfl rfl (by decide) rfl ?_
            refine g_iinc (lv' := [(3, _), (1, _), (4, _), (2, _), (0, _)]) 62 C 2 dX1_leastFar_59 rfl rfl (by decide) rfl ?_
            refine g_goto 19 C dX1_leastFar_62 (by decide) ?_
            first
            | exact g_w [0, 1, 3, 4] rfl rfl (ih19 (r, (b + 1)) (by
            try dsimp only
            exact ⟨by omega, by omega, by
            have q := lfP_s (D' := fun x y => 0 ≤ x ∧ x < y ∧ y < W * h * 4 ∧ (x < a ∨ (x = a ∧ y < b + 1))) (c := a) (d := b) hh hM (fun x y => by omega)
            first | rwa [if_pos (by omega)] at q | rwa [if_neg (by omega)] at q⟩) (by (try dsimp only); omega))
            | exact g_w [0, 1, 3, 4] rfl rfl (ih19 ((saI W h hs a b), (b + 1)) (by
            try dsimp only
            exact ⟨by omega, by omega, by
            have q := lfP_s (D' := fun x y => 0 ≤ x ∧ x < y ∧ y < W * h * 4 ∧ (x < a ∨ (x = a ∧ y < b + 1))) (c := a) (d := b) hh hM (fun x y => by omega)
            first | rwa [if_pos (by omega)] at q | rwa [if_neg (by omega)] at q⟩) (by (try dsimp only); omega))
end
section
set_option maxHeartbeats 4000000 in
set_option maxRecDepth 100000 in
theorem k_X1_pairsWithin (E : gE) (l : Launch) {a_P a_hs a_se : Nat} {W h d : Int} {hs se : Int → Int} (hB : 1 ≤ W ∧ W ≤ 5 ∧ 1 ≤ h ∧ h ≤ 5) (hse : ∀ p e : Int, 0 ≤ p ∧ p < W * h → 0 ≤ e ∧ e < 4 → se (p * 4 + e) = sdI W h p e) (hh : hB9 hs) (hd : -2147483648 ≤ d ∧ d < 2147483648) : gFun E l yX1_pairsWithin wsX1_pairsWithin { frames := 4, cells := 0, slots := 0, locals := 100 } [.ref a_P, .int (iI d)] [(a_P, .inr (1, [.ref a_hs, .ref a_se, .int (iI W), .int (iI h)])), (a_hs, aI E 200 hs), (a_se, aI E 100 se)] (.int (iI (pwI W h hs d))) := by
  refine g_start (cc := cX1_pairsWithin) (maxL := 6) (ret := (some .int)) (by decide) rfl (Nat.le_of_ble_eq_true rfl) ?_
  intro p_ e_ s_ m_ args_ below_ meth_ c_ A_ C hr hnm
  have hn := nsd_b hB
  refine g_iconst 1 C dX1_pairsWithin_0 rfl ?_
  refine g_istore_n (lv' := [(2, _), (0, _), (1, _)]) 2 C dX1_pairsWithin_1 rfl rfl (by decide) rfl ?_
  refine g_iconst 3 C dX1_pairsWithin_2 rfl ?_
  refine g_istore_n (lv' := [(3, _), (2, _), (0, _), (1, _)]) 4 C dX1_pairsWithin_3 rfl rfl (by decide) rfl ?_
  refine g_loop (α := Int × Int) (fun zz => [(a_P, .inr (1, [.ref a_hs, .ref a_se, .int (iI W), .int (iI h)])), (a_hs, aI E 200 hs), (a_se, aI E 100 se)]) (fun zz => [(2, .int (iI zz.1)), (3, .int (iI zz.2)), (1, .int (iI d)), (0, .ref a_P)]) (fun zz => (0 ≤ zz.2 ∧ zz.2 ≤ W * h * 4) ∧ zz.1 = suI (pwR W h hs d) zz.2) (fun zz => (W * h * 4 - zz.2).toNat) (0, 0) (by
            try dsimp only
            exact ⟨by omega, rfl⟩) [1, 0, 3, 2] rfl rfl ?_
  rintro ⟨n, a⟩ hI ih4
  try dsimp only at hI ih4 ⊢
  obtain ⟨ha, rfl⟩ := hI
  refine g_iload_n 5 C 1 dX1_pairsWithin_4 rfl rfl ?_
  refine g_aload_n 6 C 3 dX1_pairsWithin_5 rfl rfl ?_
  refine g_callVF 9 C [0] dX1_pairsWithin_6 rfl (k_X1_pieces E l  ) (cwV 0 C.2.2.2.2.1 gX1_pairsWithin_X1_pieces rfl rfl rfl cdX1_pieces ⟨Nat.le_of_ble_eq_true rfl, Nat.le_of_ble_eq_true rfl⟩) rfl rfl rfl rfl (Nat.le_of_ble_eq_true rfl) 0 1 rfl rfl rfl ⟨Nat.le_of_ble_eq_true rfl, Nat.le_of_ble_eq_true rfl⟩ ?_
  refine g_iconst 10 C dX1_pairsWithin_9 rfl ?_
  refine g_imul 11 C dX1_pairsWithin_10 rfl ?_
  refine g_icmp_ge 67 14 C dX1_pairsWithin_11 (by decide) rfl (by omega) ?_ ?_
  · intro h11
    refine g_iload_n 68 C 0 dX1_pairsWithin_67 rfl rfl ?_
    exact g_iret C hr dX1_pairsWithin_68 ⟨g_ri (by rw [show a = W * h * 4 by omega]; rfl), rfl⟩
  · intro h11
    refine g_iload_n 15 C 1 dX1_pairsWithin_14 rfl rfl ?_
    refine g_iconst 16 C dX1_pairsWithin_15 rfl ?_
    refine g_iadd 17 C dX1_pairsWithin_16 rfl ?_
    refine g_istore (lv' := [(4, _), (2, _), (3, _), (1, _), (0, _)]) 19 C dX1_pairsWithin_17 rfl (by decide) rfl ?_
    refine g_loop (α := Int × Int) (fun zz => [(a_P, .inr (1, [.ref a_hs, .ref a_se, .int (iI W), .int (iI h)])), (a_hs, aI E 200 hs), (a_se, aI E 100 se)]) (fun zz => [(4, .int (iI zz.2)), (2, .int (iI zz.1)), (3, .int (iI a)), (1, .int (iI d)), (0, .ref a_P)]) (fun zz => (a < zz.2 ∧ zz.2 ≤ W * h * 4) ∧ zz.1 = suI (pwR W h hs d) a + cnI (pwP W h hs d a) zz.2) (fun zz => (W * h * 4 - zz.2).toNat) ((suI (pwR W h hs d) a), (a + 1)) (by
            try dsimp only
            exact ⟨by omega, by rw [(cnI_z (pwP W h hs d a) (i := a + 1) (by omega)).mpr (fun j h1 h2 q => absurd q.1 (by omega)), Int.add_zero]⟩) [0, 1, 2, 3, 4] rfl rfl ?_
    rintro ⟨n, b⟩ hI ih19
    try dsimp only at hI ih19 ⊢
    obtain ⟨hb, rfl⟩ := hI
    refine g_iload 21 C 0 dX1_pairsWithin_19 rfl rfl ?_
    refine g_aload_n 22 C 4 dX1_pairsWithin_21 rfl rfl ?_
    refine g_callVF 25 C [0] dX1_pairsWithin_22 rfl (k_X1_pieces E l  ) (cwV 0 C.2.2.2.2.1 gX1_pairsWithin_X1_pieces rfl rfl rfl cdX1_pieces ⟨Nat.le_of_ble_eq_true rfl, Nat.le_of_ble_eq_true rfl⟩) rfl rfl rfl rfl (Nat.le_of_ble_eq_true rfl) 0 1 rfl rfl rfl ⟨Nat.le_of_ble_eq_true rfl, Nat.le_of_ble_eq_true rfl⟩ ?_
    refine g_iconst 26 C dX1_pairsWithin_25 rfl ?_
    refine g_imul 27 C dX1_pairsWithin_26 rfl ?_
    refine g_icmp_ge 61 30 C dX1_pairsWithin_27 (by decide) rfl (by omega) ?_ ?_
    · intro h27
      refine g_iinc (lv' := [(3, _), (4, _), (2, _), (1, _), (0, _)]) 64 C 2 dX1_pairsWithin_61 rfl rfl (by decide) rfl ?_
      refine g_goto 4 C dX1_pairsWithin_64 (by decide) ?_
      exact g_w [2, 0, 3, 4] rfl rfl (ih4 ((suI (pwR W h hs d) a + cnI (pwP W h hs d a) b), (a + 1)) (by
            try dsimp only
            exact ⟨by omega, by rw [suI_s _ ha.1]; unfold pwR; rw [show W * h * 4 = b by omega]⟩) (by (try dsimp only); omega))
    · intro h27
      refine g_aload_n 31 C 4 dX1_pairsWithin_30 rfl rfl ?_
      refine g_iload_n 32 C 2 dX1_pairsWithin_31 rfl rfl ?_
      refine g_iload 34 C 0 dX1_pairsWithin_32 rfl rfl ?_
      refine g_callVF 37 C [0, 1, 2] dX1_pairsWithin_34 rfl (k_X1_strangersApart E l  (by first | assumption | omega) (by first | assumption | omega) (by first | assumption | omega) (by first | assumption | omega) (by first | assumption | omega)) (cwV 2 C.2.2.2.2.1 gX1_pairsWithin_X1_strangersApart rfl rfl rfl cdX1_strangersApart ⟨Nat.le_of_ble_eq_true rfl, Nat.le_of_ble_eq_true rfl⟩) rfl rfl rfl rfl (Nat.le_of_ble_eq_true rfl) 0 1 rfl rfl rfl ⟨Nat.le_of_ble_eq_true rfl, Nat.le_of_ble_eq_true rfl⟩ ?_
      refine g_istore (lv' := [(5, _), (4, _), (2, _), (3, _), (1, _), (0, _)]) 39 C dX1_pairsWithin_37 rfl (by decide) rfl ?_
      have e0 := saI_b (W := W) (h := h) hh a b
      refine g_iload 41 C 0 dX1_pairsWithin_39 rfl rfl ?_
      refine g_bipush 43 C dX1_pairsWithin_41 rfl (by decide) ?_
      refine g_icmp_eq 55 46 C dX1_pairsWithin_43 (by decide) rfl (by omega) ?_ ?_
      · intro h43
        refine g_iinc (lv' := [(4, _), (5, _), (2, _), (3, _), (1, _), (0, _)]) 58 C 1 dX1_pairsWithin_55 rfl rfl (by decide) rfl ?_
        refine g_goto 19 C dX1_pairsWithin_58 (by decide) ?_
        first
        | exact g_w [0, 2, 3, 4, 5] rfl rfl (ih19 ((suI (pwR W h hs d) a + cnI (pwP W h hs d a) b), (b + 1)) (by
            try dsimp only
            exact ⟨by omega, by first | rw [cnI_st (pwP W h hs d a) (i := b) (by omega) ⟨by omega, by omega, by omega⟩]; omega | rw [cnI_sf (pwP W h hs d a) (i := b) (by omega) (fun q => by have := q.2.1; have := q.2.2; omega)]⟩) (by (try dsimp only); omega))
        | exact g_w [0, 2, 3, 4, 5] rfl rfl (ih19 ((suI (pwR W h hs d) a + cnI (pwP W h hs d a) b + 1), (b + 1)) (by
            try dsimp only
            exact ⟨by omega, by first | rw [cnI_st (pwP W h hs d a) (i := b) (by omega) ⟨by omega, by omega, by omega⟩]; omega | rw [cnI_sf (pwP W h hs d a) (i := b) (by omega) (fun q => by have := q.2.1; have := q.2.2; omega)]⟩) (by (try dsimp only); omega))
      · intro h43
        refine g_iload 48 C 0 dX1_pairsWithin_46 rfl rfl ?_
        refine g_iload_n 49 C 4 dX1_pairsWithin_48 rfl rfl ?_
        refine g_icmp_gt 55 52 C dX1_pairsWithin_49 (by decide) rfl (by omega) ?_ ?_
        · intro h49
          refine g_iinc (lv' := [(4, _), (5, _), (2, _), (3, _), (1, _), (0, _)]) 58 C 1 dX1_pairsWithin_55 rfl rfl (by decide) rfl ?_
          refine g_goto 19 C dX1_pairsWithin_58 (by decide) ?_
          first
          | exact g_w [0, 2, 3, 4, 5] rfl rfl (ih19 ((suI (pwR W h hs d) a + cnI (pwP W h hs d a) b), (b + 1)) (by
            try dsimp only
            exact ⟨by omega, by first | rw [cnI_st (pwP W h hs d a) (i := b) (by omega) ⟨by omega, by omega, by omega⟩]; omega | rw [cnI_sf (pwP W h hs d a) (i := b) (by omega) (fun q => by have := q.2.1; have := q.2.2; omega)]⟩) (by (try dsimp only); omega))
          | exact g_w [0, 2, 3, 4, 5] rfl rfl (ih19 ((suI (pwR W h hs d) a + cnI (pwP W h hs d a) b + 1), (b + 1)) (by
            try dsimp only
            exact ⟨by omega, by first | rw [cnI_st (pwP W h hs d a) (i := b) (by omega) ⟨by omega, by omega, by omega⟩]; omega | rw [cnI_sf (pwP W h hs d a) (i := b) (by omega) (fun q => by have := q.2.1; have := q.2.2; omega)]⟩) (by (try dsimp only); omega))
        · intro h49
          refine g_iinc (lv' := [(2, _), (5, _), (4, _), (3, _), (1, _), (0, _)]) 55 C 2 dX1_pairsWithin_52 rfl rfl (by decide) rfl ?_
          refine g_iinc (lv' := [(4, _), (2, _), (5, _), (3, _), (1, _), (0, _)]) 58 C 2 dX1_pairsWithin_55 rfl rfl (by decide) rfl ?_
          refine g_goto 19 C dX1_pairsWithin_58 (by decide) ?_
          first
          | exact g_w [0, 1, 3, 4, 5] rfl rfl (ih19 ((suI (pwR W h hs d) a + cnI (pwP W h hs d a) b), (b + 1)) (by
            try dsimp only
            exact ⟨by omega, by first | rw [cnI_st (pwP W h hs d a) (i := b) (by omega) ⟨by omega, by omega, by omega⟩]; omega | rw [cnI_sf (pwP W h hs d a) (i := b) (by omega) (fun q => by have := q.2.1; have := q.2.2; omega)]⟩) (by (try dsimp only); omega))
          | exact g_w [0, 1, 3, 4, 5] rfl rfl (ih19 ((suI (pwR W h hs d) a + cnI (pwP W h hs d a) b + 1), (b + 1)) (by
            try dsimp only
            exact ⟨by omega, by first | rw [cnI_st (pwP W h hs d a) (i := b) (by omega) ⟨by omega, by omega, by omega⟩]; omega | rw [cnI_sf (pwP W h hs d a) (i := b) (by omega) (fun q => by have := q.2.1; have := q.2.2; omega)]⟩) (by (try dsimp only); omega))
theorem lX1_layEdges_15 : Cond.fieldLink RX1 15 (TX1 1).1 (TX1 1).2.1 (TX1 1).2.2.1 ∈ wsX1_layEdges := by decide +kernel
theorem lX1_layEdges_22 : Cond.fieldLink RX1 22 (TX1 2).1 (TX1 2).2.1 (TX1 2).2.2.1 ∈ wsX1_layEdges := by decide +kernel
theorem lX1_layEdges_26 : Cond.fieldLink RX1 26 (TX1 3).1 (TX1 3).2.1 (TX1 3).2.2.1 ∈ wsX1_layEdges := by decide +kernel
theorem iX1_layEdges_X1 : ∀ w ∈ u_ws RX1 TX1 4, w ∈ wsX1_layEdges := by decide +kernel
set_option maxHeartbeats 4000000 in
set_option maxRecDepth 100000 in
theorem k_X1_layEdges (E : gE) (l : Launch) {a_P a_hs a_se : Nat} {W h x y : Int} {se : Int → Int} (hB : 1 ≤ W ∧ W ≤ 5 ∧ 1 ≤ h ∧ h ≤ 5) (hx : 0 ≤ x ∧ x < W) (hy : 0 ≤ y ∧ y < h) : gUpd E l yX1_layEdges wsX1_layEdges { frames := 0, cells := 0, slots := 0, locals := 0 } [.ref a_P, .int (iI x), .int (iI y)] [(a_P, .inr (1, [.ref a_hs, .ref a_se, .int (iI W), .int (iI h)])), (a_se, aI E 100 se)] none [(a_P, .inr (1, [.ref a_hs, .ref a_se, .int (iI W), .int (iI h)])), (a_se, aI E 100 (leI W h se x y))] := by
  refine g_start (cc := cX1_layEdges) (maxL := 6) (ret := none) (by decide) rfl (Nat.le_of_ble_eq_true rfl) ?_
  intro p_ e_ s_ m_ args_ below_ meth_ c_ A_ C hr hnm
  have hn := nsd_b hB
  have hi := idx_b hB hx hy
  refine g_aload_n 1 C 0 dX1_layEdges_0 rfl rfl ?_
  refine g_get 4 C 0 2 1 iX1_layEdges_X1 lX1_layEdges_22 dX1_layEdges_1 rfl rfl rfl (by decide) rfl ?_
  refine g_iload_n 5 C 2 dX1_layEdges_4 rfl rfl ?_
  refine g_imul 6 C dX1_layEdges_5 rfl ?_
  refine g_iload_n 7 C 1 dX1_layEdges_6 rfl rfl ?_
  refine g_iadd 8 C dX1_layEdges_7 rfl ?_
  refine g_iconst 9 C dX1_layEdges_8 rfl ?_
  refine g_imul 10 C dX1_layEdges_9 rfl ?_
  refine g_istore_n (lv' := [(3, _), (0, _), (1, _), (2, _)]) 11 C dX1_layEdges_10 rfl rfl (by decide) rfl ?_
  refine g_aload_n 12 C 1 dX1_layEdges_11 rfl rfl ?_
  refine g_get 15 C 0 2 1 iX1_layEdges_X1 lX1_layEdges_22 dX1_layEdges_12 rfl rfl rfl (by decide) rfl ?_
  refine g_iconst 16 C dX1_layEdges_15 rfl ?_
  refine g_isub 17 C dX1_layEdges_16 rfl ?_
  refine g_iload_n 18 C 3 dX1_layEdges_17 rfl rfl ?_
  refine g_imul 19 C dX1_layEdges_18 rfl ?_
  refine g_iload_n 20 C 2 dX1_layEdges_19 rfl rfl ?_
  refine g_iadd 21 C dX1_layEdges_20 rfl ?_
  refine g_istore (lv' := [(4, _), (3, _), (0, _), (1, _), (2, _)]) 23 C dX1_layEdges_21 rfl (by decide) rfl ?_
  refine g_aload_n 24 C 2 dX1_layEdges_23 rfl rfl ?_
  refine g_get 27 C 0 2 1 iX1_layEdges_X1 lX1_layEdges_22 dX1_layEdges_24 rfl rfl rfl (by decide) rfl ?_
  refine g_iconst 28 C dX1_layEdges_27 rfl ?_
  refine g_isub 29 C dX1_layEdges_28 rfl ?_
  refine g_aload_n 30 C 2 dX1_layEdges_29 rfl rfl ?_
  refine g_get 33 C 0 3 1 iX1_layEdges_X1 lX1_layEdges_26 dX1_layEdges_30 rfl rfl rfl (by decide) rfl ?_
  refine g_imul 34 C dX1_layEdges_33 rfl ?_
  refine g_aload_n 35 C 2 dX1_layEdges_34 rfl rfl ?_
  refine g_get 38 C 0 2 1 iX1_layEdges_X1 lX1_layEdges_22 dX1_layEdges_35 rfl rfl rfl (by decide) rfl ?_
  refine g_iload_n 39 C 4 dX1_layEdges_38 rfl rfl ?_
  refine g_imul 40 C dX1_layEdges_39 rfl ?_
  refine g_iadd 41 C dX1_layEdges_40 rfl ?_
  refine g_iload_n 42 C 3 dX1_layEdges_41 rfl rfl ?_
  refine g_iadd 43 C dX1_layEdges_42 rfl ?_
  refine g_istore (lv' := [(5, _), (4, _), (3, _), (0, _), (1, _), (2, _)]) 45 C dX1_layEdges_43 rfl (by decide) rfl ?_
  refine g_aload_n 46 C 3 dX1_layEdges_45 rfl rfl ?_
  refine g_get 49 C 0 1 1 iX1_layEdges_X1 lX1_layEdges_15 dX1_layEdges_46 rfl rfl rfl (by decide) rfl ?_
  refine g_iload_n 50 C 2 dX1_layEdges_49 rfl rfl ?_
  refine g_iconst 51 C dX1_layEdges_50 rfl ?_
  refine g_iadd 52 C dX1_layEdges_51 rfl ?_
  refine g_iload_n 53 C 5 dX1_layEdges_52 rfl rfl ?_
  refine g_joinv 68 1 (if y = 0 then -9 else (W - 1) * h + W * y + x - W) ?_ ?_
  · skip
    refine g_iastore (ws' := [(_, .inr (1, [_, _, _, _])), (_, aI _ _ _)]) 69 C 1 dX1_layEdges_68 rfl rfl (by omega) rfl ?_
    refine g_aload_n 70 C 3 dX1_layEdges_69 rfl rfl ?_
    refine g_get 73 C 0 1 1 iX1_layEdges_X1 lX1_layEdges_15 dX1_layEdges_70 rfl rfl rfl (by decide) rfl ?_
    refine g_iload_n 74 C 2 dX1_layEdges_73 rfl rfl ?_
    refine g_iconst 75 C dX1_layEdges_74 rfl ?_
    refine g_iadd 76 C dX1_layEdges_75 rfl ?_
    refine g_iload_n 77 C 4 dX1_layEdges_76 rfl rfl ?_
    refine g_aload_n 78 C 3 dX1_layEdges_77 rfl rfl ?_
    refine g_get 81 C 0 2 1 iX1_layEdges_X1 lX1_layEdges_22 dX1_layEdges_78 rfl rfl rfl (by decide) rfl ?_
    refine g_iconst 82 C dX1_layEdges_81 rfl ?_
    refine g_isub 83 C dX1_layEdges_82 rfl ?_
    refine g_joinv 93 2 (if x = W - 1 then -9 else (W - 1) * y + x) ?_ ?_
    · skip
      refine g_iastore (ws' := [(_, .inr (1, [_, _, _, _])), (_, aI _ _ _)]) 94 C 1 dX1_layEdges_93 rfl rfl (by omega) rfl ?_
      refine g_aload_n 95 C 3 dX1_layEdges_94 rfl rfl ?_
      refine g_get 98 C 0 1 1 iX1_layEdges_X1 lX1_layEdges_15 dX1_layEdges_95 rfl rfl rfl (by decide) rfl ?_
      refine g_iload_n 99 C 2 dX1_layEdges_98 rfl rfl ?_
      refine g_iconst 100 C dX1_layEdges_99 rfl ?_
      refine g_iadd 101 C dX1_layEdges_100 rfl ?_
      refine g_iload_n 102 C 5 dX1_layEdges_101 rfl rfl ?_
      refine g_aload_n 103 C 3 dX1_layEdges_102 rfl rfl ?_
      refine g_get 106 C 0 3 1 iX1_layEdges_X1 lX1_layEdges_26 dX1_layEdges_103 rfl rfl rfl (by decide) rfl ?_
      refine g_iconst 107 C dX1_layEdges_106 rfl ?_
      refine g_isub 108 C dX1_layEdges_107 rfl ?_
      refine g_joinv 118 2 (if y = h - 1 then -9 else (W - 1) * h + W * y + x) ?_ ?_
      · skip
        refine g_iastore (ws' := [(_, .inr (1, [_, _, _, _])), (_, aI _ _ _)]) 119 C 1 dX1_layEdges_118 rfl rfl (by omega) rfl ?_
        refine g_aload_n 120 C 3 dX1_layEdges_119 rfl rfl ?_
        refine g_get 123 C 0 1 1 iX1_layEdges_X1 lX1_layEdges_15 dX1_layEdges_120 rfl rfl rfl (by decide) rfl ?_
        refine g_iload_n 124 C 2 dX1_layEdges_123 rfl rfl ?_
        refine g_iconst 125 C dX1_layEdges_124 rfl ?_
        refine g_iadd 126 C dX1_layEdges_125 rfl ?_
        refine g_iload_n 127 C 4 dX1_layEdges_126 rfl rfl ?_
        refine g_joinv 139 1 (if x = 0 then -9 else (W - 1) * y + x - 1) ?_ ?_
        · skip
          refine g_iastore (ws' := [(_, .inr (1, [_, _, _, _])), (_, aI _ _ _)]) 140 C 1 dX1_layEdges_139 rfl rfl (by omega) rfl ?_
          exact g_vret C hr dX1_layEdges_140 ⟨rfl, rfl⟩
        · intro kj
          refine g_if_ne 135 130 C dX1_layEdges_127 (by decide) rfl (by omega) ?_ ?_
          · intro h127
            refine g_iload 137 C 1 dX1_layEdges_135 rfl rfl ?_
            refine g_iconst 138 C dX1_layEdges_137 rfl ?_
            refine g_isub 139 C dX1_layEdges_138 rfl ?_
            exact kj _ (by first | rfl | omega | exact (if_pos (by omega)).symm | exact (if_neg (by omega)).symm)
          · intro h127
            refine g_bipush 132 C dX1_layEdges_130 rfl (by decide) ?_
            refine g_goto 139 C dX1_layEdges_132 (by decide) ?_
            exact kj _ (by first | rfl | omega | exact (if_pos (by omega)).symm | exact (if_neg (by omega)).symm)
      · intro kj
        refine g_icmp_ne 116 111 C dX1_layEdges_108 (by decide) rfl (by omega) ?_ ?_
        · intro h108
          refine g_iload 118 C 0 dX1_layEdges_116 rfl rfl ?_
          exact kj _ (by first | rfl | omega | exact (if_pos (by omega)).symm | exact (if_neg (by omega)).symm)
        · intro h108
          refine g_bipush 113 C dX1_layEdges_111 rfl (by decide) ?_
          refine g_goto 118 C dX1_layEdges_113 (by decide) ?_
          exact kj _ (by first | rfl | omega | exact (if_pos (by omega)).symm | exact (if_neg (by omega)).symm)
    · intro kj
      refine g_icmp_ne 91 86 C dX1_layEdges_83 (by decide) rfl (by omega) ?_ ?_
      · intro h83
        refine g_iload 93 C 1 dX1_layEdges_91 rfl rfl ?_
        exact kj _ (by first | rfl | omega | exact (if_pos (by omega)).symm | exact (if_neg (by omega)).symm)
      · intro h83
        refine g_bipush 88 C dX1_layEdges_86 rfl (by decide) ?_
        refine g_goto 93 C dX1_layEdges_88 (by decide) ?_
        exact kj _ (by first | rfl | omega | exact (if_pos (by omega)).symm | exact (if_neg (by omega)).symm)
  · intro kj
    refine g_if_ne 61 56 C dX1_layEdges_53 (by decide) rfl (by omega) ?_ ?_
    · intro h53
      refine g_iload 63 C 0 dX1_layEdges_61 rfl rfl ?_
      refine g_aload_n 64 C 3 dX1_layEdges_63 rfl rfl ?_
      refine g_get 67 C 0 2 1 iX1_layEdges_X1 lX1_layEdges_22 dX1_layEdges_64 rfl rfl rfl (by decide) rfl ?_
      refine g_isub 68 C dX1_layEdges_67 rfl ?_
      exact kj _ (by first | rfl | omega | exact (if_pos (by omega)).symm | exact (if_neg (by omega)).symm)
    · intro h53
      refine g_bipush 58 C dX1_layEdges_56 rfl (by decide) ?_
      refine g_goto 68 C dX1_layEdges_58 (by decide) ?_
      exact kj _ (by first | rfl | omega | exact (if_pos (by omega)).symm | exact (if_neg (by omega)).symm)
theorem cdX1_layEdges : yX1_layEdges.cls = RX1 ∧ yX1_layEdges.cls ≠ "java/lang/invoke/MethodHandle" ∧ yX1_layEdges.cls ≠ "java/lang/invoke/VarHandle" ∧ (parseMethodDescriptor yX1_layEdges.desc).map (fun d => d.parameters.length) = some 2 := by decide +kernel
theorem lX1_cutAnew_22 : Cond.fieldLink RX1 22 (TX1 2).1 (TX1 2).2.1 (TX1 2).2.2.1 ∈ wsX1_cutAnew := by decide +kernel
theorem lX1_cutAnew_26 : Cond.fieldLink RX1 26 (TX1 3).1 (TX1 3).2.1 (TX1 3).2.2.1 ∈ wsX1_cutAnew := by decide +kernel
theorem lX1_cutAnew_9 : Cond.fieldLink RX1 9 (TX1 0).1 (TX1 0).2.1 (TX1 0).2.2.1 ∈ wsX1_cutAnew := by decide +kernel
theorem iX1_cutAnew_X1 : ∀ w ∈ u_ws RX1 TX1 4, w ∈ wsX1_cutAnew := by decide +kernel
set_option maxHeartbeats 4000000 in
set_option maxRecDepth 100000 in
theorem k_X1_cutAnew (E : gE) (l : Launch) {a_P a_hs a_se : Nat} {W h W0 h0 : Int} {hs se : Int → Int} (hB : 1 ≤ W ∧ W ≤ 5 ∧ 1 ≤ h ∧ h ≤ 5) : gMet E l yX1_cutAnew wsX1_cutAnew { frames := 1, cells := 0, slots := 0, locals := 25 } 0 0 [.ref a_P, .int (iI W), .int (iI h)] [(a_P, .inr (1, [.ref a_hs, .ref a_se, .int (iI W0), .int (iI h0)])), (a_hs, aI E 200 hs), (a_se, aI E 100 se)] (fun v w => ∃ f : Int → Int, (v = none ∧ ∀ p e : Int, 0 ≤ p ∧ p < W * h → 0 ≤ e ∧ e < 4 → f (p * 4 + e) = sdI W h p e) ∧ w = [(a_P, .inr (1, [.ref a_hs, .ref a_se, .int (iI W), .int (iI h)])), (a_hs, aI E 200 (zrI hs 200)), (a_se, aI E 100 f)]) := by
  refine g_start (cc := cX1_cutAnew) (maxL := 5) (ret := none) (by decide) rfl (Nat.le_of_ble_eq_true rfl) ?_
  intro p_ e_ s_ m_ args_ below_ meth_ c_ A_ C hr hnm
  have hn := nsd_b hB
  refine g_aload_n 1 C 0 dX1_cutAnew_0 rfl rfl ?_
  refine g_iload_n 2 C 1 dX1_cutAnew_1 rfl rfl ?_
  refine g_put (ws' := [(_, .inr (1, [_, _, _, _])), (_, aI _ _ _), (_, aI _ _ _)]) 5 C 0 2 1 tyX1 tyX1_ok nmX1 iX1_cutAnew_X1 lX1_cutAnew_22 dX1_cutAnew_2 rfl rfl rfl (by decide) rfl rfl rfl (Nat.le_of_ble_eq_true rfl) rfl ?_
  refine g_aload_n 6 C 0 dX1_cutAnew_5 rfl rfl ?_
  refine g_iload_n 7 C 2 dX1_cutAnew_6 rfl rfl ?_
  refine g_put (ws' := [(_, .inr (1, [_, _, _, _])), (_, aI _ _ _), (_, aI _ _ _)]) 10 C 0 3 1 tyX1 tyX1_ok nmX1 iX1_cutAnew_X1 lX1_cutAnew_26 dX1_cutAnew_7 rfl rfl rfl (by decide) rfl rfl rfl (Nat.le_of_ble_eq_true rfl) rfl ?_
  refine g_iconst 11 C dX1_cutAnew_10 rfl ?_
  refine g_istore_n (lv' := [(3, _), (0, _), (1, _), (2, _)]) 12 C dX1_cutAnew_11 rfl rfl (by decide) rfl ?_
  refine g_loop (α := Int) (fun zz => [(a_P, .inr (1, [.ref a_hs, .ref a_se, .int (iI W), .int (iI h)])), (a_hs, aI E 200 (zrI hs zz)), (a_se, aI E 100 se)]) (fun zz => [(3, .int (iI zz)), (2, .int (iI h)), (1, .int (iI W)), (0, .ref a_P)]) (fun zz => 0 ≤ zz ∧ zz ≤ 200) (fun zz => (200 - zz).toNat) (0) (by (try dsimp only); omega) [0, 3, 2, 1] (by rw [zrI_0]) rfl ?_
  rintro k hI ih12
  try dsimp only at hI ih12 ⊢
  obtain ⟨hk0, hk2⟩ := hI
  refine g_iload_n 13 C 0 dX1_cutAnew_12 rfl rfl ?_
  refine g_aload_n 14 C 3 dX1_cutAnew_13 rfl rfl ?_
  refine g_get 17 C 0 0 1 iX1_cutAnew_X1 lX1_cutAnew_9 dX1_cutAnew_14 rfl rfl rfl (by decide) rfl ?_
  refine g_alenI 18 C 1 dX1_cutAnew_17 rfl rfl ?_
  refine g_icmp_ge 34 21 C dX1_cutAnew_18 (by decide) rfl (by omega) ?_ ?_
  · intro h18
    refine g_iconst 35 C dX1_cutAnew_34 rfl ?_
    refine g_istore_n (lv' := [(3, _), (2, _), (1, _), (0, _)]) 36 C dX1_cutAnew_35 rfl rfl (by decide) rfl ?_
    refine g_loop (α := (Int → Int) × Int) (fun zz => [(a_P, .inr (1, [.ref a_hs, .ref a_se, .int (iI W), .int (iI h)])), (a_hs, aI E 200 (zrI hs 200)), (a_se, aI E 100 zz.1)]) (fun zz => [(3, .int (iI zz.2)), (2, .int (iI h)), (1, .int (iI W)), (0, .ref a_P)]) (fun zz => (0 ≤ zz.2 ∧ zz.2 ≤ h) ∧ ∀ p e : Int, 0 ≤ p ∧ p < W * zz.2 → 0 ≤ e ∧ e < 4 → zz.1 (p * 4 + e) = sdI W h p e) (fun zz => (h - zz.2).toNat) (se, 0) (by
            try dsimp only
            exact ⟨by omega, fun p e q => absurd q (by omega)⟩) [0, 1, 2, 3] (by rw [show k = 200 by omega]) rfl ?_
    rintro ⟨f, y⟩ hI ih36
    try dsimp only at hI ih36 ⊢
    obtain ⟨hy, hf⟩ := hI
    refine g_iload_n 37 C 0 dX1_cutAnew_36 rfl rfl ?_
    refine g_aload_n 38 C 3 dX1_cutAnew_37 rfl rfl ?_
    refine g_get 41 C 0 3 1 iX1_cutAnew_X1 lX1_cutAnew_26 dX1_cutAnew_38 rfl rfl rfl (by decide) rfl ?_
    refine g_icmp_ge 75 44 C dX1_cutAnew_41 (by decide) rfl (by omega) ?_ ?_
    · intro h41
      exact g_vret C hr dX1_cutAnew_75 ⟨_, ⟨rfl, fun p e q => hf p e (by rw [show y = h by omega]; exact q)⟩, rfl⟩
    · intro h41
      refine g_iconst 45 C dX1_cutAnew_44 rfl ?_
      refine g_istore (lv' := [(4, _), (3, _), (2, _), (1, _), (0, _)]) 47 C dX1_cutAnew_45 rfl (by decide) rfl ?_
      refine g_loop (α := (Int → Int) × Int) (fun zz => [(a_P, .inr (1, [.ref a_hs, .ref a_se, .int (iI W), .int (iI h)])), (a_hs, aI E 200 (zrI hs 200)), (a_se, aI E 100 zz.1)]) (fun zz => [(4, .int (iI zz.2)), (3, .int (iI y)), (2, .int (iI h)), (1, .int (iI W)), (0, .ref a_P)]) (fun zz => (0 ≤ zz.2 ∧ zz.2 ≤ W) ∧ ∀ p e : Int, 0 ≤ p ∧ p < W * y + zz.2 → 0 ≤ e ∧ e < 4 → zz.1 (p * 4 + e) = sdI W h p e) (fun zz => (W - zz.2).toNat) (f, 0) (by
            try dsimp only
            exact ⟨by omega, fun p e q => hf p e (by omega)⟩) [0, 1, 2, 3, 4] rfl rfl ?_
      rintro ⟨f, x⟩ hI ih47
      try dsimp only at hI ih47 ⊢
      obtain ⟨hx, hg⟩ := hI
      refine g_iload 49 C 0 dX1_cutAnew_47 rfl rfl ?_
      refine g_aload_n 50 C 4 dX1_cutAnew_49 rfl rfl ?_
      refine g_get 53 C 0 2 1 iX1_cutAnew_X1 lX1_cutAnew_22 dX1_cutAnew_50 rfl rfl rfl (by decide) rfl ?_
      refine g_icmp_ge 69 56 C dX1_cutAnew_53 (by decide) rfl (by omega) ?_ ?_
      · intro h53
        refine g_iinc (lv' := [(3, _), (4, _), (2, _), (1, _), (0, _)]) 72 C 1 dX1_cutAnew_69 rfl rfl (by decide) rfl ?_
        refine g_goto 36 C dX1_cutAnew_72 (by decide) ?_
        exact g_w [0, 2, 3, 4] rfl rfl (ih36 (f, (y + 1)) (by
            try dsimp only
            exact ⟨by omega, fun p e q => hg p e (by rw [show x = W by omega]; rw [Int.mul_add, Int.mul_one] at q; exact q)⟩) (by (try dsimp only); omega))
      · intro h53
        refine g_aload_n 57 C 4 dX1_cutAnew_56 rfl rfl ?_
        refine g_iload 59 C 0 dX1_cutAnew_57 rfl rfl ?_
        refine g_iload_n 60 C 1 dX1_cutAnew_59 rfl rfl ?_
        refine g_callVU (ws' := [(_, .inr (1, [_, _, _, _])), (_, aI _ _ _), (_, aI _ _ _)]) 63 C [0, 2] dX1_cutAnew_60 rfl (k_X1_layEdges E l  (by first | assumption | omega) (by first | assumption | omega) (by first | assumption | omega)) (cwV 2 C.2.2.2.2.1 gX1_cutAnew_X1_layEdges rfl rfl rfl cdX1_layEdges ⟨Nat.le_of_ble_eq_true rfl, Nat.le_of_ble_eq_true rfl⟩) rfl rfl rfl rfl (Nat.le_of_ble_eq_true rfl) 0 1 rfl rfl rfl ⟨Nat.le_of_ble_eq_true rfl, Nat.le_of_ble_eq_true rfl⟩ rfl rfl ?_
        refine g_iinc (lv' := [(4, _), (3, _), (2, _), (1, _), (0, _)]) 66 C 0 dX1_cutAnew_63 rfl rfl (by decide) rfl ?_
        refine g_goto 47 C dX1_cutAnew_66 (by decide) ?_
        exact g_w [0, 1, 2, 3, 4] rfl rfl (ih47 ((leI W h f x y), (x + 1)) (by
            try dsimp only
            exact ⟨by omega, leI_s hB (by omega) (by omega) hg⟩) (by (try dsimp only); omega))
  · intro h18
    refine g_aload_n 22 C 3 dX1_cutAnew_21 rfl rfl ?_
    refine g_get 25 C 0 0 1 iX1_cutAnew_X1 lX1_cutAnew_9 dX1_cutAnew_22 rfl rfl rfl (by decide) rfl ?_
    refine g_iload_n 26 C 0 dX1_cutAnew_25 rfl rfl ?_
    refine g_iconst 27 C dX1_cutAnew_26 rfl ?_
    refine g_iastore (ws' := [(_, .inr (1, [_, _, _, _])), (_, aI _ _ _), (_, aI _ _ _)]) 28 C 1 dX1_cutAnew_27 rfl rfl (by omega) rfl ?_
    refine g_iinc (lv' := [(3, _), (2, _), (1, _), (0, _)]) 31 C 0 dX1_cutAnew_28 rfl rfl (by decide) rfl ?_
    refine g_goto 12 C dX1_cutAnew_31 (by decide) ?_
    exact g_w [0, 1, 2, 3] (by (try dsimp only); rw [← zrI_s hs hk0]) rfl (ih12 ((k + 1)) (by (try dsimp only); omega) (by (try dsimp only); omega))
end
section
theorem lX0_begin_7 : Cond.fieldLink RX0 7 (TX0 0).1 (TX0 0).2.1 (TX0 0).2.2.1 ∈ wsX0_begin := by decide +kernel
theorem iX0_begin_X0 : ∀ w ∈ u_ws RX0 TX0 1, w ∈ wsX0_begin := by decide +kernel
set_option maxHeartbeats 4000000 in
set_option maxRecDepth 100000 in
theorem k_X0_begin (E : gE) (l : Launch) {a_D : Nat} {now sd : Int64}  : gUpd E l yX0_begin wsX0_begin { frames := 0, cells := 0, slots := 0, locals := 0 } [.ref a_D, .long sd] [(a_D, .inr (0, [.long now]))] none [(a_D, .inr (0, [.long sd]))] := by
  refine g_start (cc := cX0_begin) (maxL := 3) (ret := none) (by decide) rfl (Nat.le_of_ble_eq_true rfl) ?_
  intro p_ e_ s_ m_ args_ below_ meth_ c_ A_ C hr hnm
  refine g_aload_n 1 C 0 dX0_begin_0 rfl rfl ?_
  refine g_lload_n 2 C 1 dX0_begin_1 rfl rfl ?_
  refine g_put (ws' := [(_, .inr (0, [_]))]) 5 C 0 0 0 tyX0 tyX0_ok nmX0 iX0_begin_X0 lX0_begin_7 dX0_begin_2 rfl rfl rfl (by decide) rfl rfl rfl (Nat.le_of_ble_eq_true rfl) rfl ?_
  exact g_vret C hr dX0_begin_5 ⟨rfl, rfl⟩
theorem lX0_below_7 : Cond.fieldLink RX0 7 (TX0 0).1 (TX0 0).2.1 (TX0 0).2.2.1 ∈ wsX0_below := by decide +kernel
theorem lX0_below_13 : Cond.constantLong RX0 13 (6364136223846793005) ∈ wsX0_below := by decide +kernel
theorem lX0_below_15 : Cond.constantLong RX0 15 (1442695040888963407) ∈ wsX0_below := by decide +kernel
theorem lX0_below_17 : Cond.constantLong RX0 17 (2147483647) ∈ wsX0_below := by decide +kernel
theorem lX0_below_19 : Cond.constantLong RX0 19 (4096) ∈ wsX0_below := by decide +kernel
theorem iX0_below_X0 : ∀ w ∈ u_ws RX0 TX0 1, w ∈ wsX0_below := by decide +kernel
set_option maxHeartbeats 4000000 in
set_option maxRecDepth 100000 in
theorem k_X0_below (E : gE) (l : Launch) {a_D : Nat} {now : Int64} {n : Int} (hn : 1 ≤ n ∧ n < 2147483648) : gUpd E l yX0_below wsX0_below { frames := 0, cells := 0, slots := 0, locals := 0 } [.ref a_D, .int (iI n)] [(a_D, .inr (0, [.long now]))] (some (.int (iI (dvI (dnI now) n)))) [(a_D, .inr (0, [.long (dnI now)]))] := by
  refine g_start (cc := cX0_below) (maxL := 2) (ret := (some .int)) (by decide) rfl (Nat.le_of_ble_eq_true rfl) ?_
  intro p_ e_ s_ m_ args_ below_ meth_ c_ A_ C hr hnm
  refine g_aload_n 1 C 0 dX0_below_0 rfl rfl ?_
  refine g_aload_n 2 C 0 dX0_below_1 rfl rfl ?_
  refine g_get 5 C 0 0 0 iX0_below_X0 lX0_below_7 dX0_below_2 rfl rfl rfl (by decide) rfl ?_
  refine g_ldc2 8 C (6364136223846793005) dX0_below_5 rfl lX0_below_13 (by decide) ?_
  refine g_lmul_r 9 C dX0_below_8 rfl ?_
  refine g_ldc2 12 C (1442695040888963407) dX0_below_9 rfl lX0_below_15 (by decide) ?_
  refine g_ladd_r 13 C dX0_below_12 rfl ?_
  refine g_put (ws' := [(_, .inr (0, [_]))]) 16 C 0 0 0 tyX0 tyX0_ok nmX0 iX0_below_X0 lX0_below_7 dX0_below_13 rfl rfl rfl (by decide) rfl rfl rfl (Nat.le_of_ble_eq_true rfl) rfl ?_
  refine g_iload_n 17 C 1 dX0_below_16 rfl rfl ?_
  refine g_iconst 18 C dX0_below_17 rfl ?_
  refine g_icmp_ge 25 21 C dX0_below_18 (by decide) rfl (by omega) ?_ (fun h18 => absurd h18 (by omega))
  intro h18
  refine g_aload_n 26 C 0 dX0_below_25 rfl rfl ?_
  refine g_get 29 C 0 0 0 iX0_below_X0 lX0_below_7 dX0_below_26 rfl rfl rfl (by decide) rfl ?_
  refine g_ldc2 32 C (2147483647) dX0_below_29 rfl lX0_below_17 (by decide) ?_
  refine g_land_r 33 C dX0_below_32 rfl ?_
  refine g_ldc2 36 C (4096) dX0_below_33 rfl lX0_below_19 (by decide) ?_
  refine g_ldiv_r 37 C dX0_below_36 rfl (by decide) ?_
  refine g_iload_n 38 C 1 dX0_below_37 rfl rfl ?_
  refine g_i2l 39 C dX0_below_38 rfl (by omega) ?_
  refine g_lrem_r 40 C dX0_below_39 rfl (fun q => by have := (lI_inj (a := n) (b := 0) (by omega) (by omega) (by omega) (by omega)).mp q; omega) ?_
  refine g_l2i_r 41 C dX0_below_40 rfl ?_
  exact g_iret C hr dX0_below_41 ⟨congrArg some (congrArg Value.int (iI_of _).symm), rfl⟩
theorem lX2_size_18 : Cond.fieldLink RX2 18 (TX2 2).1 (TX2 2).2.1 (TX2 2).2.2.1 ∈ wsX2_size := by decide +kernel
theorem iX2_size_X2 : ∀ w ∈ u_ws RX2 TX2 3, w ∈ wsX2_size := by decide +kernel
set_option maxHeartbeats 4000000 in
set_option maxRecDepth 100000 in
theorem k_X2_size (E : gE) (l : Launch) {a_L a_pc a_tn : Nat} {n : Int}  : gFun E l yX2_size wsX2_size { frames := 0, cells := 0, slots := 0, locals := 0 } [.ref a_L] [(a_L, .inr (2, [.ref a_pc, .ref a_tn, .int (iI n)]))] (.int (iI n)) := by
  refine g_start (cc := cX2_size) (maxL := 1) (ret := (some .int)) (by decide) rfl (Nat.le_of_ble_eq_true rfl) ?_
  intro p_ e_ s_ m_ args_ below_ meth_ c_ A_ C hr hnm
  refine g_aload_n 1 C 0 dX2_size_0 rfl rfl ?_
  refine g_get 4 C 0 2 2 iX2_size_X2 lX2_size_18 dX2_size_1 rfl rfl rfl (by decide) rfl ?_
  exact g_iret C hr dX2_size_4 ⟨g_ri (by first | rfl | omega | exact (if_pos (by omega)).symm | exact (if_neg (by omega)).symm), rfl⟩
theorem lX2_isFull_18 : Cond.fieldLink RX2 18 (TX2 2).1 (TX2 2).2.1 (TX2 2).2.2.1 ∈ wsX2_isFull := by decide +kernel
theorem iX2_isFull_X2 : ∀ w ∈ u_ws RX2 TX2 3, w ∈ wsX2_isFull := by decide +kernel
set_option maxHeartbeats 4000000 in
set_option maxRecDepth 100000 in
theorem k_X2_isFull (E : gE) (l : Launch) {a_L a_pc a_tn : Nat} {n : Int} (hn : 0 ≤ n ∧ n ≤ 25) : gFun E l yX2_isFull wsX2_isFull { frames := 0, cells := 0, slots := 0, locals := 0 } [.ref a_L] [(a_L, .inr (2, [.ref a_pc, .ref a_tn, .int (iI n)]))] (.int (iI (if 25 ≤ n then 1 else 0))) := by
  refine g_start (cc := cX2_isFull) (maxL := 1) (ret := (some .boolean)) (by decide) rfl (Nat.le_of_ble_eq_true rfl) ?_
  intro p_ e_ s_ m_ args_ below_ meth_ c_ A_ C hr hnm
  refine g_aload_n 1 C 0 dX2_isFull_0 rfl rfl ?_
  refine g_get 4 C 0 2 2 iX2_isFull_X2 lX2_isFull_18 dX2_isFull_1 rfl rfl rfl (by decide) rfl ?_
  refine g_bipush 6 C dX2_isFull_4 rfl (by decide) ?_
  refine g_icmp_lt 13 9 C dX2_isFull_6 (by decide) rfl (by omega) ?_ ?_
  · intro h6
    refine g_iconst 14 C dX2_isFull_13 rfl ?_
    exact g_zret C hr dX2_isFull_14 (by first | rfl | decide | (split <;> rfl)) ⟨g_ri (by first | rfl | omega | exact (if_pos (by omega)).symm | exact (if_neg (by omega)).symm), rfl⟩
  · intro h6
    refine g_iconst 10 C dX2_isFull_9 rfl ?_
    refine g_goto 14 C dX2_isFull_10 (by decide) ?_
    exact g_zret C hr dX2_isFull_14 (by first | rfl | decide | (split <;> rfl)) ⟨g_ri (by first | rfl | omega | exact (if_pos (by omega)).symm | exact (if_neg (by omega)).symm), rfl⟩
theorem lX2_hasPlace_18 : Cond.fieldLink RX2 18 (TX2 2).1 (TX2 2).2.1 (TX2 2).2.2.1 ∈ wsX2_hasPlace := by decide +kernel
theorem iX2_hasPlace_X2 : ∀ w ∈ u_ws RX2 TX2 3, w ∈ wsX2_hasPlace := by decide +kernel
set_option maxHeartbeats 4000000 in
set_option maxRecDepth 100000 in
theorem k_X2_hasPlace (E : gE) (l : Launch) {a_L a_pc a_tn : Nat} {n i : Int} (hn : 0 ≤ n ∧ n ≤ 25) (hi : -2147483648 ≤ i ∧ i < 2147483648) : gFun E l yX2_hasPlace wsX2_hasPlace { frames := 0, cells := 0, slots := 0, locals := 0 } [.ref a_L, .int (iI i)] [(a_L, .inr (2, [.ref a_pc, .ref a_tn, .int (iI n)]))] (.int (iI (if 0 ≤ i ∧ i < n then 1 else 0))) := by
  refine g_start (cc := cX2_hasPlace) (maxL := 2) (ret := (some .boolean)) (by decide) rfl (Nat.le_of_ble_eq_true rfl) ?_
  intro p_ e_ s_ m_ args_ below_ meth_ c_ A_ C hr hnm
  refine g_iload_n 1 C 1 dX2_hasPlace_0 rfl rfl ?_
  refine g_if_lt 16 4 C dX2_hasPlace_1 (by decide) rfl (by omega) ?_ ?_
  · intro h1
    refine g_iconst 17 C dX2_hasPlace_16 rfl ?_
    exact g_zret C hr dX2_hasPlace_17 (by first | rfl | decide | (split <;> rfl)) ⟨g_ri (by first | rfl | omega | exact (if_pos (by omega)).symm | exact (if_neg (by omega)).symm), rfl⟩
  · intro h1
    refine g_iload_n 5 C 1 dX2_hasPlace_4 rfl rfl ?_
    refine g_aload_n 6 C 0 dX2_hasPlace_5 rfl rfl ?_
    refine g_get 9 C 0 2 2 iX2_hasPlace_X2 lX2_hasPlace_18 dX2_hasPlace_6 rfl rfl rfl (by decide) rfl ?_
    refine g_icmp_ge 16 12 C dX2_hasPlace_9 (by decide) rfl (by omega) ?_ ?_
    · intro h9
      refine g_iconst 17 C dX2_hasPlace_16 rfl ?_
      exact g_zret C hr dX2_hasPlace_17 (by first | rfl | decide | (split <;> rfl)) ⟨g_ri (by first | rfl | omega | exact (if_pos (by omega)).symm | exact (if_neg (by omega)).symm), rfl⟩
    · intro h9
      refine g_iconst 13 C dX2_hasPlace_12 rfl ?_
      refine g_goto 17 C dX2_hasPlace_13 (by decide) ?_
      exact g_zret C hr dX2_hasPlace_17 (by first | rfl | decide | (split <;> rfl)) ⟨g_ri (by first | rfl | omega | exact (if_pos (by omega)).symm | exact (if_neg (by omega)).symm), rfl⟩
theorem cdX2_hasPlace : yX2_hasPlace.cls = RX2 ∧ yX2_hasPlace.cls ≠ "java/lang/invoke/MethodHandle" ∧ yX2_hasPlace.cls ≠ "java/lang/invoke/VarHandle" ∧ (parseMethodDescriptor yX2_hasPlace.desc).map (fun d => d.parameters.length) = some 1 := by decide +kernel
theorem lX2_pieceAt_9 : Cond.fieldLink RX2 9 (TX2 0).1 (TX2 0).2.1 (TX2 0).2.2.1 ∈ wsX2_pieceAt := by decide +kernel
theorem iX2_pieceAt_X2 : ∀ w ∈ u_ws RX2 TX2 3, w ∈ wsX2_pieceAt := by decide +kernel
set_option maxHeartbeats 4000000 in
set_option maxRecDepth 100000 in
theorem k_X2_pieceAt (E : gE) (l : Launch) {a_L a_pc a_tn : Nat} {n i : Int} {pc : Int → Int} (hn : 0 ≤ n ∧ n ≤ 25) (hi : 0 ≤ i ∧ i < n) : gFun E l yX2_pieceAt wsX2_pieceAt { frames := 1, cells := 0, slots := 0, locals := 21 } [.ref a_L, .int (iI i)] [(a_L, .inr (2, [.ref a_pc, .ref a_tn, .int (iI n)])), (a_pc, aI E 25 pc)] (.int (iI (pc i))) := by
  refine g_start (cc := cX2_pieceAt) (maxL := 2) (ret := (some .int)) (by decide) rfl (Nat.le_of_ble_eq_true rfl) ?_
  intro p_ e_ s_ m_ args_ below_ meth_ c_ A_ C hr hnm
  refine g_aload_n 1 C 0 dX2_pieceAt_0 rfl rfl ?_
  refine g_iload_n 2 C 1 dX2_pieceAt_1 rfl rfl ?_
  refine g_callVF 5 C [0] dX2_pieceAt_2 rfl (k_X2_hasPlace E l  (by first | assumption | omega) (by first | assumption | omega)) (cwV 1 C.2.2.2.2.1 gX2_pieceAt_X2_hasPlace rfl rfl rfl cdX2_hasPlace ⟨Nat.le_of_ble_eq_true rfl, Nat.le_of_ble_eq_true rfl⟩) rfl rfl rfl rfl (Nat.le_of_ble_eq_true rfl) 0 2 rfl rfl rfl ⟨Nat.le_of_ble_eq_true rfl, Nat.le_of_ble_eq_true rfl⟩ ?_
  refine g_ifb_eq 17 8 C dX2_pieceAt_5 (by decide) rfl (fun h5 => absurd h5 (by omega)) ?_
  intro h5
  refine g_aload_n 9 C 0 dX2_pieceAt_8 rfl rfl ?_
  refine g_get 12 C 0 0 2 iX2_pieceAt_X2 lX2_pieceAt_9 dX2_pieceAt_9 rfl rfl rfl (by decide) rfl ?_
  refine g_iload_n 13 C 1 dX2_pieceAt_12 rfl rfl ?_
  refine g_iaload 14 C 1 dX2_pieceAt_13 rfl rfl (by omega) ?_
  refine g_goto 19 C dX2_pieceAt_14 (by decide) ?_
  exact g_iret C hr dX2_pieceAt_19 ⟨g_ri (by first | rfl | omega | exact (if_pos (by omega)).symm | exact (if_neg (by omega)).symm), rfl⟩
theorem lX2_turnAt_15 : Cond.fieldLink RX2 15 (TX2 1).1 (TX2 1).2.1 (TX2 1).2.2.1 ∈ wsX2_turnAt := by decide +kernel
theorem iX2_turnAt_X2 : ∀ w ∈ u_ws RX2 TX2 3, w ∈ wsX2_turnAt := by decide +kernel
set_option maxHeartbeats 4000000 in
set_option maxRecDepth 100000 in
theorem k_X2_turnAt (E : gE) (l : Launch) {a_L a_pc a_tn : Nat} {n i : Int} {tn : Int → Int} (hn : 0 ≤ n ∧ n ≤ 25) (hi : 0 ≤ i ∧ i < n) : gFun E l yX2_turnAt wsX2_turnAt { frames := 1, cells := 0, slots := 0, locals := 21 } [.ref a_L, .int (iI i)] [(a_L, .inr (2, [.ref a_pc, .ref a_tn, .int (iI n)])), (a_tn, aI E 25 tn)] (.int (iI (tn i))) := by
  refine g_start (cc := cX2_turnAt) (maxL := 2) (ret := (some .int)) (by decide) rfl (Nat.le_of_ble_eq_true rfl) ?_
  intro p_ e_ s_ m_ args_ below_ meth_ c_ A_ C hr hnm
  refine g_aload_n 1 C 0 dX2_turnAt_0 rfl rfl ?_
  refine g_iload_n 2 C 1 dX2_turnAt_1 rfl rfl ?_
  refine g_callVF 5 C [0] dX2_turnAt_2 rfl (k_X2_hasPlace E l  (by first | assumption | omega) (by first | assumption | omega)) (cwV 1 C.2.2.2.2.1 gX2_turnAt_X2_hasPlace rfl rfl rfl cdX2_hasPlace ⟨Nat.le_of_ble_eq_true rfl, Nat.le_of_ble_eq_true rfl⟩) rfl rfl rfl rfl (Nat.le_of_ble_eq_true rfl) 0 2 rfl rfl rfl ⟨Nat.le_of_ble_eq_true rfl, Nat.le_of_ble_eq_true rfl⟩ ?_
  refine g_ifb_eq 17 8 C dX2_turnAt_5 (by decide) rfl (fun h5 => absurd h5 (by omega)) ?_
  intro h5
  refine g_aload_n 9 C 0 dX2_turnAt_8 rfl rfl ?_
  refine g_get 12 C 0 1 2 iX2_turnAt_X2 lX2_turnAt_15 dX2_turnAt_9 rfl rfl rfl (by decide) rfl ?_
  refine g_iload_n 13 C 1 dX2_turnAt_12 rfl rfl ?_
  refine g_iaload 14 C 1 dX2_turnAt_13 rfl rfl (by omega) ?_
  refine g_goto 18 C dX2_turnAt_14 (by decide) ?_
  exact g_iret C hr dX2_turnAt_18 ⟨g_ri (by first | rfl | omega | exact (if_pos (by omega)).symm | exact (if_neg (by omega)).symm), rfl⟩
theorem lX2_clearAll_18 : Cond.fieldLink RX2 18 (TX2 2).1 (TX2 2).2.1 (TX2 2).2.2.1 ∈ wsX2_clearAll := by decide +kernel
theorem iX2_clearAll_X2 : ∀ w ∈ u_ws RX2 TX2 3, w ∈ wsX2_clearAll := by decide +kernel
set_option maxHeartbeats 4000000 in
set_option maxRecDepth 100000 in
theorem k_X2_clearAll (E : gE) (l : Launch) {a_L a_pc a_tn : Nat} {n : Int}  : gUpd E l yX2_clearAll wsX2_clearAll { frames := 0, cells := 0, slots := 0, locals := 0 } [.ref a_L] [(a_L, .inr (2, [.ref a_pc, .ref a_tn, .int (iI n)]))] none [(a_L, .inr (2, [.ref a_pc, .ref a_tn, .int (iI 0)]))] := by
  refine g_start (cc := cX2_clearAll) (maxL := 1) (ret := none) (by decide) rfl (Nat.le_of_ble_eq_true rfl) ?_
  intro p_ e_ s_ m_ args_ below_ meth_ c_ A_ C hr hnm
  refine g_aload_n 1 C 0 dX2_clearAll_0 rfl rfl ?_
  refine g_iconst 2 C dX2_clearAll_1 rfl ?_
  refine g_put (ws' := [(_, .inr (2, [_, _, _]))]) 5 C 0 2 2 tyX2 tyX2_ok nmX2 iX2_clearAll_X2 lX2_clearAll_18 dX2_clearAll_2 rfl rfl rfl (by decide) rfl rfl rfl (Nat.le_of_ble_eq_true rfl) rfl ?_
  exact g_vret C hr dX2_clearAll_5 ⟨rfl, rfl⟩
theorem cdX2_isFull : yX2_isFull.cls = RX2 ∧ yX2_isFull.cls ≠ "java/lang/invoke/MethodHandle" ∧ yX2_isFull.cls ≠ "java/lang/invoke/VarHandle" ∧ (parseMethodDescriptor yX2_isFull.desc).map (fun d => d.parameters.length) = some 0 := by decide +kernel
theorem lX2_append_15 : Cond.fieldLink RX2 15 (TX2 1).1 (TX2 1).2.1 (TX2 1).2.2.1 ∈ wsX2_append := by decide +kernel
theorem lX2_append_18 : Cond.fieldLink RX2 18 (TX2 2).1 (TX2 2).2.1 (TX2 2).2.2.1 ∈ wsX2_append := by decide +kernel
theorem lX2_append_9 : Cond.fieldLink RX2 9 (TX2 0).1 (TX2 0).2.1 (TX2 0).2.2.1 ∈ wsX2_append := by decide +kernel
theorem iX2_append_X2 : ∀ w ∈ u_ws RX2 TX2 3, w ∈ wsX2_append := by decide +kernel
set_option maxHeartbeats 4000000 in
set_option maxRecDepth 100000 in
theorem k_X2_append (E : gE) (l : Launch) {a_L a_pc a_tn : Nat} {n p t : Int} {pc tn : Int → Int} (hn : 0 ≤ n ∧ n < 25) : gUpd E l yX2_append wsX2_append { frames := 1, cells := 0, slots := 0, locals := 20 } [.ref a_L, .int (iI p), .int (iI t)] [(a_L, .inr (2, [.ref a_pc, .ref a_tn, .int (iI n)])), (a_pc, aI E 25 pc), (a_tn, aI E 25 tn)] none [(a_L, .inr (2, [.ref a_pc, .ref a_tn, .int (iI (n + 1))])), (a_pc, aI E 25 (uI pc n p)), (a_tn, aI E 25 (uI tn n t))] := by
  refine g_start (cc := cX2_append) (maxL := 3) (ret := none) (by decide) rfl (Nat.le_of_ble_eq_true rfl) ?_
  intro p_ e_ s_ m_ args_ below_ meth_ c_ A_ C hr hnm
  refine g_aload_n 1 C 0 dX2_append_0 rfl rfl ?_
  refine g_callVF 4 C [0] dX2_append_1 rfl (k_X2_isFull E l  (by first | assumption | omega)) (cwV 0 C.2.2.2.2.1 gX2_append_X2_isFull rfl rfl rfl cdX2_isFull ⟨Nat.le_of_ble_eq_true rfl, Nat.le_of_ble_eq_true rfl⟩) rfl rfl rfl rfl (Nat.le_of_ble_eq_true rfl) 0 2 rfl rfl rfl ⟨Nat.le_of_ble_eq_true rfl, Nat.le_of_ble_eq_true rfl⟩ ?_
  refine g_ifb_ne 37 7 C dX2_append_4 (by decide) rfl (fun h4 => absurd h4 (by omega)) ?_
  intro h4
  refine g_aload_n 8 C 0 dX2_append_7 rfl rfl ?_
  refine g_get 11 C 0 0 2 iX2_append_X2 lX2_append_9 dX2_append_8 rfl rfl rfl (by decide) rfl ?_
  refine g_aload_n 12 C 0 dX2_append_11 rfl rfl ?_
  refine g_get 15 C 0 2 2 iX2_append_X2 lX2_append_18 dX2_append_12 rfl rfl rfl (by decide) rfl ?_
  refine g_iload_n 16 C 1 dX2_append_15 rfl rfl ?_
  refine g_iastore (ws' := [(_, .inr (2, [_, _, _])), (_, aI _ _ _), (_, aI _ _ _)]) 17 C 1 dX2_append_16 rfl rfl (by omega) rfl ?_
  refine g_aload_n 18 C 0 dX2_append_17 rfl rfl ?_
  refine g_get 21 C 0 1 2 iX2_append_X2 lX2_append_15 dX2_append_18 rfl rfl rfl (by decide) rfl ?_
  refine g_aload_n 22 C 0 dX2_append_21 rfl rfl ?_
  refine g_get 25 C 0 2 2 iX2_append_X2 lX2_append_18 dX2_append_22 rfl rfl rfl (by decide) rfl ?_
  refine g_iload_n 26 C 2 dX2_append_25 rfl rfl ?_
  refine g_iastore (ws' := [(_, .inr (2, [_, _, _])), (_, aI _ _ _), (_, aI _ _ _)]) 27 C 2 dX2_append_26 rfl rfl (by omega) rfl ?_
  refine g_aload_n 28 C 0 dX2_append_27 rfl rfl ?_
  refine g_dup 29 C dX2_append_28 rfl rfl ?_
  refine g_get 32 C 0 2 2 iX2_append_X2 lX2_append_18 dX2_append_29 rfl rfl rfl (by decide) rfl ?_
  refine g_iconst 33 C dX2_append_32 rfl ?_
  refine g_iadd 34 C dX2_append_33 rfl ?_
  refine g_put (ws' := [(_, .inr (2, [_, _, _])), (_, aI _ _ _), (_, aI _ _ _)]) 37 C 0 2 2 tyX2 tyX2_ok nmX2 iX2_append_X2 lX2_append_18 dX2_append_34 rfl rfl rfl (by decide) rfl rfl rfl (Nat.le_of_ble_eq_true rfl) rfl ?_
  exact g_vret C hr dX2_append_37 ⟨rfl, rfl⟩
theorem lX2_setTurn_15 : Cond.fieldLink RX2 15 (TX2 1).1 (TX2 1).2.1 (TX2 1).2.2.1 ∈ wsX2_setTurn := by decide +kernel
theorem iX2_setTurn_X2 : ∀ w ∈ u_ws RX2 TX2 3, w ∈ wsX2_setTurn := by decide +kernel
set_option maxHeartbeats 4000000 in
set_option maxRecDepth 100000 in
theorem k_X2_setTurn (E : gE) (l : Launch) {a_L a_pc a_tn : Nat} {n i t : Int} {tn : Int → Int} (hn : 0 ≤ n ∧ n ≤ 25) (hi : 0 ≤ i ∧ i < n) : gUpd E l yX2_setTurn wsX2_setTurn { frames := 1, cells := 0, slots := 0, locals := 21 } [.ref a_L, .int (iI i), .int (iI t)] [(a_L, .inr (2, [.ref a_pc, .ref a_tn, .int (iI n)])), (a_tn, aI E 25 tn)] none [(a_L, .inr (2, [.ref a_pc, .ref a_tn, .int (iI n)])), (a_tn, aI E 25 (uI tn i t))] := by
  refine g_start (cc := cX2_setTurn) (maxL := 3) (ret := none) (by decide) rfl (Nat.le_of_ble_eq_true rfl) ?_
  intro p_ e_ s_ m_ args_ below_ meth_ c_ A_ C hr hnm
  refine g_aload_n 1 C 0 dX2_setTurn_0 rfl rfl ?_
  refine g_iload_n 2 C 1 dX2_setTurn_1 rfl rfl ?_
  refine g_callVF 5 C [0] dX2_setTurn_2 rfl (k_X2_hasPlace E l  (by first | assumption | omega) (by first | assumption | omega)) (cwV 1 C.2.2.2.2.1 gX2_setTurn_X2_hasPlace rfl rfl rfl cdX2_hasPlace ⟨Nat.le_of_ble_eq_true rfl, Nat.le_of_ble_eq_true rfl⟩) rfl rfl rfl rfl (Nat.le_of_ble_eq_true rfl) 0 2 rfl rfl rfl ⟨Nat.le_of_ble_eq_true rfl, Nat.le_of_ble_eq_true rfl⟩ ?_
  refine g_ifb_eq 15 8 C dX2_setTurn_5 (by decide) rfl (fun h5 => absurd h5 (by omega)) ?_
  intro h5
  refine g_aload_n 9 C 0 dX2_setTurn_8 rfl rfl ?_
  refine g_get 12 C 0 1 2 iX2_setTurn_X2 lX2_setTurn_15 dX2_setTurn_9 rfl rfl rfl (by decide) rfl ?_
  refine g_iload_n 13 C 1 dX2_setTurn_12 rfl rfl ?_
  refine g_iload_n 14 C 2 dX2_setTurn_13 rfl rfl ?_
  refine g_iastore (ws' := [(_, .inr (2, [_, _, _])), (_, aI _ _ _)]) 15 C 1 dX2_setTurn_14 rfl rfl (by omega) rfl ?_
  exact g_vret C hr dX2_setTurn_15 ⟨rfl, rfl⟩
theorem lX2_swapPieces_9 : Cond.fieldLink RX2 9 (TX2 0).1 (TX2 0).2.1 (TX2 0).2.2.1 ∈ wsX2_swapPieces := by decide +kernel
theorem iX2_swapPieces_X2 : ∀ w ∈ u_ws RX2 TX2 3, w ∈ wsX2_swapPieces := by decide +kernel
set_option maxHeartbeats 4000000 in
set_option maxRecDepth 100000 in
theorem k_X2_swapPieces (E : gE) (l : Launch) {a_L a_pc a_tn : Nat} {n i j : Int} {pc : Int → Int} (hn : 0 ≤ n ∧ n ≤ 25) (hi : 0 ≤ i ∧ i < n) (hj : 0 ≤ j ∧ j < n) : gUpd E l yX2_swapPieces wsX2_swapPieces { frames := 1, cells := 0, slots := 0, locals := 21 } [.ref a_L, .int (iI i), .int (iI j)] [(a_L, .inr (2, [.ref a_pc, .ref a_tn, .int (iI n)])), (a_pc, aI E 25 pc)] none [(a_L, .inr (2, [.ref a_pc, .ref a_tn, .int (iI n)])), (a_pc, aI E 25 (uI (uI pc i (pc j)) j (pc i)))] := by
  refine g_start (cc := cX2_swapPieces) (maxL := 4) (ret := none) (by decide) rfl (Nat.le_of_ble_eq_true rfl) ?_
  intro p_ e_ s_ m_ args_ below_ meth_ c_ A_ C hr hnm
  refine g_aload_n 1 C 0 dX2_swapPieces_0 rfl rfl ?_
  refine g_iload_n 2 C 1 dX2_swapPieces_1 rfl rfl ?_
  refine g_callVF 5 C [0] dX2_swapPieces_2 rfl (k_X2_hasPlace E l  (by first | assumption | omega) (by first | assumption | omega)) (cwV 1 C.2.2.2.2.1 gX2_swapPieces_X2_hasPlace rfl rfl rfl cdX2_hasPlace ⟨Nat.le_of_ble_eq_true rfl, Nat.le_of_ble_eq_true rfl⟩) rfl rfl rfl rfl (Nat.le_of_ble_eq_true rfl) 0 2 rfl rfl rfl ⟨Nat.le_of_ble_eq_true rfl, Nat.le_of_ble_eq_true rfl⟩ ?_
  refine g_ifb_eq 42 8 C dX2_swapPieces_5 (by decide) rfl (fun h5 => absurd h5 (by omega)) ?_
  intro h5
  refine g_aload_n 9 C 0 dX2_swapPieces_8 rfl rfl ?_
  refine g_iload_n 10 C 2 dX2_swapPieces_9 rfl rfl ?_
  refine g_callVF 13 C [0] dX2_swapPieces_10 rfl (k_X2_hasPlace E l  (by first | assumption | omega) (by first | assumption | omega)) (cwV 1 C.2.2.2.2.1 gX2_swapPieces_X2_hasPlace rfl rfl rfl cdX2_hasPlace ⟨Nat.le_of_ble_eq_true rfl, Nat.le_of_ble_eq_true rfl⟩) rfl rfl rfl rfl (Nat.le_of_ble_eq_true rfl) 0 2 rfl rfl rfl ⟨Nat.le_of_ble_eq_true rfl, Nat.le_of_ble_eq_true rfl⟩ ?_
  refine g_ifb_eq 42 16 C dX2_swapPieces_13 (by decide) rfl (fun h13 => absurd h13 (by omega)) ?_
  intro h13
  refine g_aload_n 17 C 0 dX2_swapPieces_16 rfl rfl ?_
  refine g_get 20 C 0 0 2 iX2_swapPieces_X2 lX2_swapPieces_9 dX2_swapPieces_17 rfl rfl rfl (by decide) rfl ?_
  refine g_iload_n 21 C 1 dX2_swapPieces_20 rfl rfl ?_
  refine g_iaload 22 C 1 dX2_swapPieces_21 rfl rfl (by omega) ?_
  refine g_istore_n (lv' := [(3, _), (0, _), (1, _), (2, _)]) 23 C dX2_swapPieces_22 rfl rfl (by decide) rfl ?_
  refine g_aload_n 24 C 1 dX2_swapPieces_23 rfl rfl ?_
  refine g_get 27 C 0 0 2 iX2_swapPieces_X2 lX2_swapPieces_9 dX2_swapPieces_24 rfl rfl rfl (by decide) rfl ?_
  refine g_iload_n 28 C 2 dX2_swapPieces_27 rfl rfl ?_
  refine g_aload_n 29 C 1 dX2_swapPieces_28 rfl rfl ?_
  refine g_get 32 C 0 0 2 iX2_swapPieces_X2 lX2_swapPieces_9 dX2_swapPieces_29 rfl rfl rfl (by decide) rfl ?_
  refine g_iload_n 33 C 3 dX2_swapPieces_32 rfl rfl ?_
  refine g_iaload 34 C 1 dX2_swapPieces_33 rfl rfl (by omega) ?_
  refine g_iastore (ws' := [(_, .inr (2, [_, _, _])), (_, aI _ _ _)]) 35 C 1 dX2_swapPieces_34 rfl rfl (by omega) rfl ?_
  refine g_aload_n 36 C 1 dX2_swapPieces_35 rfl rfl ?_
  refine g_get 39 C 0 0 2 iX2_swapPieces_X2 lX2_swapPieces_9 dX2_swapPieces_36 rfl rfl rfl (by decide) rfl ?_
  refine g_iload_n 40 C 3 dX2_swapPieces_39 rfl rfl ?_
  refine g_iload_n 41 C 0 dX2_swapPieces_40 rfl rfl ?_
  refine g_iastore (ws' := [(_, .inr (2, [_, _, _])), (_, aI _ _ _)]) 42 C 1 dX2_swapPieces_41 rfl rfl (by omega) rfl ?_
  exact g_vret C hr dX2_swapPieces_42 ⟨rfl, rfl⟩
theorem lX2_removeAt_15 : Cond.fieldLink RX2 15 (TX2 1).1 (TX2 1).2.1 (TX2 1).2.2.1 ∈ wsX2_removeAt := by decide +kernel
theorem lX2_removeAt_18 : Cond.fieldLink RX2 18 (TX2 2).1 (TX2 2).2.1 (TX2 2).2.2.1 ∈ wsX2_removeAt := by decide +kernel
theorem lX2_removeAt_9 : Cond.fieldLink RX2 9 (TX2 0).1 (TX2 0).2.1 (TX2 0).2.2.1 ∈ wsX2_removeAt := by decide +kernel
theorem iX2_removeAt_X2 : ∀ w ∈ u_ws RX2 TX2 3, w ∈ wsX2_removeAt := by decide +kernel
set_option maxHeartbeats 4000000 in
set_option maxRecDepth 100000 in
theorem k_X2_removeAt (E : gE) (l : Launch) {a_L a_pc a_tn : Nat} {n i : Int} {pc tn : Int → Int} (hn : 0 ≤ n ∧ n ≤ 25) (hi : 0 ≤ i ∧ i < n) : gUpd E l yX2_removeAt wsX2_removeAt { frames := 1, cells := 0, slots := 0, locals := 21 } [.ref a_L, .int (iI i)] [(a_L, .inr (2, [.ref a_pc, .ref a_tn, .int (iI n)])), (a_pc, aI E 25 pc), (a_tn, aI E 25 tn)] none [(a_L, .inr (2, [.ref a_pc, .ref a_tn, .int (iI (n - 1))])), (a_pc, aI E 25 (rmI pc i n)), (a_tn, aI E 25 (rmI tn i n))] := by
  refine g_start (cc := cX2_removeAt) (maxL := 3) (ret := none) (by decide) rfl (Nat.le_of_ble_eq_true rfl) ?_
  intro p_ e_ s_ m_ args_ below_ meth_ c_ A_ C hr hnm
  refine g_aload_n 1 C 0 dX2_removeAt_0 rfl rfl ?_
  refine g_iload_n 2 C 1 dX2_removeAt_1 rfl rfl ?_
  refine g_callVF 5 C [0] dX2_removeAt_2 rfl (k_X2_hasPlace E l  (by first | assumption | omega) (by first | assumption | omega)) (cwV 1 C.2.2.2.2.1 gX2_removeAt_X2_hasPlace rfl rfl rfl cdX2_hasPlace ⟨Nat.le_of_ble_eq_true rfl, Nat.le_of_ble_eq_true rfl⟩) rfl rfl rfl rfl (Nat.le_of_ble_eq_true rfl) 0 2 rfl rfl rfl ⟨Nat.le_of_ble_eq_true rfl, Nat.le_of_ble_eq_true rfl⟩ ?_
  refine g_ifb_eq 64 8 C dX2_removeAt_5 (by decide) rfl (fun h5 => absurd h5 (by omega)) ?_
  intro h5
  refine g_iload_n 9 C 1 dX2_removeAt_8 rfl rfl ?_
  refine g_iconst 10 C dX2_removeAt_9 rfl ?_
  refine g_iadd 11 C dX2_removeAt_10 rfl ?_
  refine g_istore_n (lv' := [(2, _), (0, _), (1, _)]) 12 C dX2_removeAt_11 rfl rfl (by decide) rfl ?_
  refine g_loop (α := Int) (fun zz => [(a_L, .inr (2, [.ref a_pc, .ref a_tn, .int (iI n)])), (a_pc, aI E 25 (rmI pc i zz)), (a_tn, aI E 25 (rmI tn i zz))]) (fun zz => [(2, .int (iI zz)), (1, .int (iI i)), (0, .ref a_L)]) (fun zz => i < zz ∧ zz ≤ n) (fun zz => (n - zz).toNat) ((i + 1)) (by (try dsimp only); omega) [0, 2, 1] (by rw [rmI_0, rmI_0]) rfl ?_
  rintro k hI ih12
  try dsimp only at hI ih12 ⊢
  obtain ⟨hk0, hkn⟩ := hI
  refine g_iload_n 13 C 0 dX2_removeAt_12 rfl rfl ?_
  refine g_aload_n 14 C 2 dX2_removeAt_13 rfl rfl ?_
  refine g_get 17 C 0 2 2 iX2_removeAt_X2 lX2_removeAt_18 dX2_removeAt_14 rfl rfl rfl (by decide) rfl ?_
  refine g_icmp_ge 54 20 C dX2_removeAt_17 (by decide) rfl (by omega) ?_ ?_
  · intro h17
    refine g_aload_n 55 C 2 dX2_removeAt_54 rfl rfl ?_
    refine g_dup 56 C dX2_removeAt_55 rfl rfl ?_
    refine g_get 59 C 0 2 2 iX2_removeAt_X2 lX2_removeAt_18 dX2_removeAt_56 rfl rfl rfl (by decide) rfl ?_
    refine g_iconst 60 C dX2_removeAt_59 rfl ?_
    refine g_isub 61 C dX2_removeAt_60 rfl ?_
    refine g_put (ws' := [(_, .inr (2, [_, _, _])), (_, aI _ _ _), (_, aI _ _ _)]) 64 C 0 2 2 tyX2 tyX2_ok nmX2 iX2_removeAt_X2 lX2_removeAt_18 dX2_removeAt_61 rfl rfl rfl (by decide) rfl rfl rfl (Nat.le_of_ble_eq_true rfl) rfl ?_
    exact g_vret C hr dX2_removeAt_64 ⟨rfl, by rw [show k = n by omega]⟩
  · intro h17
    refine g_aload_n 21 C 2 dX2_removeAt_20 rfl rfl ?_
    refine g_get 24 C 0 0 2 iX2_removeAt_X2 lX2_removeAt_9 dX2_removeAt_21 rfl rfl rfl (by decide) rfl ?_
    refine g_iload_n 25 C 0 dX2_removeAt_24 rfl rfl ?_
    refine g_iconst 26 C dX2_removeAt_25 rfl ?_
    refine g_isub 27 C dX2_removeAt_26 rfl ?_
    refine g_aload_n 28 C 2 dX2_removeAt_27 rfl rfl ?_
    refine g_get 31 C 0 0 2 iX2_removeAt_X2 lX2_removeAt_9 dX2_removeAt_28 rfl rfl rfl (by decide) rfl ?_
    refine g_iload_n 32 C 0 dX2_removeAt_31 rfl rfl ?_
    refine g_iaload 33 C 1 dX2_removeAt_32 rfl rfl (by omega) ?_
    refine g_iastore (ws' := [(_, .inr (2, [_, _, _])), (_, aI _ _ _), (_, aI _ _ _)]) 34 C 1 dX2_removeAt_33 rfl rfl (by omega) rfl ?_
    refine g_aload_n 35 C 2 dX2_removeAt_34 rfl rfl ?_
    refine g_get 38 C 0 1 2 iX2_removeAt_X2 lX2_removeAt_15 dX2_removeAt_35 rfl rfl rfl (by decide) rfl ?_
    refine g_iload_n 39 C 0 dX2_removeAt_38 rfl rfl ?_
    refine g_iconst 40 C dX2_removeAt_39 rfl ?_
    refine g_isub 41 C dX2_removeAt_40 rfl ?_
    refine g_aload_n 42 C 2 dX2_removeAt_41 rfl rfl ?_
    refine g_get 45 C 0 1 2 iX2_removeAt_X2 lX2_removeAt_15 dX2_removeAt_42 rfl rfl rfl (by decide) rfl ?_
    refine g_iload_n 46 C 0 dX2_removeAt_45 rfl rfl ?_
    refine g_iaload 47 C 2 dX2_removeAt_46 rfl rfl (by omega) ?_
    refine g_iastore (ws' := [(_, .inr (2, [_, _, _])), (_, aI _ _ _), (_, aI _ _ _)]) 48 C 2 dX2_removeAt_47 rfl rfl (by omega) rfl ?_
    refine g_iinc (lv' := [(2, _), (1, _), (0, _)]) 51 C 0 dX2_removeAt_48 rfl rfl (by decide) rfl ?_
    refine g_goto 12 C dX2_removeAt_51 (by decide) ?_
    exact g_w [0, 1, 2] (by (try dsimp only); rw [rmI_s pc hk0, rmI_s tn hk0]) rfl (ih12 ((k + 1)) (by (try dsimp only); omega) (by (try dsimp only); omega))
theorem lX2_timesOf_18 : Cond.fieldLink RX2 18 (TX2 2).1 (TX2 2).2.1 (TX2 2).2.2.1 ∈ wsX2_timesOf := by decide +kernel
theorem lX2_timesOf_9 : Cond.fieldLink RX2 9 (TX2 0).1 (TX2 0).2.1 (TX2 0).2.2.1 ∈ wsX2_timesOf := by decide +kernel
theorem iX2_timesOf_X2 : ∀ w ∈ u_ws RX2 TX2 3, w ∈ wsX2_timesOf := by decide +kernel
set_option maxHeartbeats 4000000 in
set_option maxRecDepth 100000 in
theorem k_X2_timesOf (E : gE) (l : Launch) {a_L a_pc a_tn : Nat} {n p : Int} {pc : Int → Int} (hn : 0 ≤ n ∧ n ≤ 25) (hpn : ∀ j : Int, 0 ≤ j ∧ j < n → 0 ≤ pc j ∧ pc j < 25) (hp : -2147483648 ≤ p ∧ p < 2147483648) : gFun E l yX2_timesOf wsX2_timesOf { frames := 0, cells := 0, slots := 0, locals := 0 } [.ref a_L, .int (iI p)] [(a_L, .inr (2, [.ref a_pc, .ref a_tn, .int (iI n)])), (a_pc, aI E 25 pc)] (.int (iI (cnI (fun j => pc j = p) n))) := by
  refine g_start (cc := cX2_timesOf) (maxL := 4) (ret := (some .int)) (by decide) rfl (Nat.le_of_ble_eq_true rfl) ?_
  intro p_ e_ s_ m_ args_ below_ meth_ c_ A_ C hr hnm
  refine g_iconst 1 C dX2_timesOf_0 rfl ?_
  refine g_istore_n (lv' := [(2, _), (0, _), (1, _)]) 2 C dX2_timesOf_1 rfl rfl (by decide) rfl ?_
  refine g_iconst 3 C dX2_timesOf_2 rfl ?_
  refine g_istore_n (lv' := [(3, _), (2, _), (0, _), (1, _)]) 4 C dX2_timesOf_3 rfl rfl (by decide) rfl ?_
  refine g_loop (α := Int × Int) (fun zz => [(a_L, .inr (2, [.ref a_pc, .ref a_tn, .int (iI n)])), (a_pc, aI E 25 pc)]) (fun zz => [(2, .int (iI zz.1)), (3, .int (iI zz.2)), (1, .int (iI p)), (0, .ref a_L)]) (fun zz => (0 ≤ zz.2 ∧ zz.2 ≤ n) ∧ zz.1 = cnI (fun j => pc j = p) zz.2) (fun zz => (n - zz.2).toNat) (0, 0) (by
            try dsimp only
            exact ⟨by omega, rfl⟩) [1, 0, 3, 2] rfl rfl ?_
  rintro ⟨c, k⟩ hI ih4
  try dsimp only at hI ih4 ⊢
  obtain ⟨hk, rfl⟩ := hI
  refine g_iload_n 5 C 1 dX2_timesOf_4 rfl rfl ?_
  refine g_aload_n 6 C 3 dX2_timesOf_5 rfl rfl ?_
  refine g_get 9 C 0 2 2 iX2_timesOf_X2 lX2_timesOf_18 dX2_timesOf_6 rfl rfl rfl (by decide) rfl ?_
  refine g_icmp_ge 31 12 C dX2_timesOf_9 (by decide) rfl (by omega) ?_ ?_
  · intro h9
    refine g_iload_n 32 C 0 dX2_timesOf_31 rfl rfl ?_
    exact g_iret C hr dX2_timesOf_32 ⟨g_ri (by rw [show k = n by omega]), rfl⟩
  · intro h9
    refine g_aload_n 13 C 3 dX2_timesOf_12 rfl rfl ?_
    refine g_get 16 C 0 0 2 iX2_timesOf_X2 lX2_timesOf_9 dX2_timesOf_13 rfl rfl rfl (by decide) rfl ?_
    refine g_iload_n 17 C 1 dX2_timesOf_16 rfl rfl ?_
    refine g_iaload 18 C 1 dX2_timesOf_17 rfl rfl (by omega) ?_
    have e0 := hpn k (by omega)
    refine g_iload_n 19 C 2 dX2_timesOf_18 rfl rfl ?_
    refine g_icmp_ne 25 22 C dX2_timesOf_19 (by decide) rfl (by omega) ?_ ?_
    · intro h19
      refine g_iinc (lv' := [(3, _), (2, _), (1, _), (0, _)]) 28 C 1 dX2_timesOf_25 rfl rfl (by decide) rfl ?_
      refine g_goto 4 C dX2_timesOf_28 (by decide) ?_
      first
      | exact g_w [1, 0, 2, 3] rfl rfl (ih4 ((cnI (fun j => pc j = p) k + 1), (k + 1)) (by
            try dsimp only
            exact ⟨by omega, by first | exact (cnI_st (fun j => pc j = p) hk.1 (by assumption)).symm | exact (cnI_sf (fun j => pc j = p) hk.1 (by assumption)).symm⟩) (by (try dsimp only); omega))
      | exact g_w [1, 0, 2, 3] rfl rfl (ih4 ((cnI (fun j => pc j = p) k), (k + 1)) (by
            try dsimp only
            exact ⟨by omega, by first | exact (cnI_st (fun j => pc j = p) hk.1 (by assumption)).symm | exact (cnI_sf (fun j => pc j = p) hk.1 (by assumption)).symm⟩) (by (try dsimp only); omega))
    · intro h19
      refine g_iinc (lv' := [(2, _), (3, _), (1, _), (0, _)]) 25 C 0 dX2_timesOf_22 rfl rfl (by decide) rfl ?_
      refine g_iinc (lv' := [(3, _), (2, _), (1, _), (0, _)]) 28 C 1 dX2_timesOf_25 rfl rfl (by decide) rfl ?_
      refine g_goto 4 C dX2_timesOf_28 (by decide) ?_
      first
      | exact g_w [1, 0, 2, 3] rfl rfl (ih4 ((cnI (fun j => pc j = p) k + 1), (k + 1)) (by
            try dsimp only
            exact ⟨by omega, by first | exact (cnI_st (fun j => pc j = p) hk.1 (by assumption)).symm | exact (cnI_sf (fun j => pc j = p) hk.1 (by assumption)).symm⟩) (by (try dsimp only); omega))
      | exact g_w [1, 0, 2, 3] rfl rfl (ih4 ((cnI (fun j => pc j = p) k), (k + 1)) (by
            try dsimp only
            exact ⟨by omega, by first | exact (cnI_st (fun j => pc j = p) hk.1 (by assumption)).symm | exact (cnI_sf (fun j => pc j = p) hk.1 (by assumption)).symm⟩) (by (try dsimp only); omega))
theorem lX4_isThere_15 : Cond.fieldLink RX4 15 (TX4 1).1 (TX4 1).2.1 (TX4 1).2.2.1 ∈ wsX4_isThere := by decide +kernel
theorem iX4_isThere_X4 : ∀ w ∈ u_ws RX4 TX4 4, w ∈ wsX4_isThere := by decide +kernel
set_option maxHeartbeats 4000000 in
set_option maxRecDepth 100000 in
theorem k_X4_isThere (E : gE) (l : Launch) {a_S a_ce : Nat} {th ln sz : Int} (hth : th = 0 ∨ th = 1) : gFun E l yX4_isThere wsX4_isThere { frames := 0, cells := 0, slots := 0, locals := 0 } [.ref a_S] [(a_S, .inr (4, [.ref a_ce, .int (iI th), .int (iI ln), .int (iI sz)]))] (.int (iI th)) := by
  refine g_start (cc := cX4_isThere) (maxL := 1) (ret := (some .boolean)) (by decide) rfl (Nat.le_of_ble_eq_true rfl) ?_
  intro p_ e_ s_ m_ args_ below_ meth_ c_ A_ C hr hnm
  refine g_aload_n 1 C 0 dX4_isThere_0 rfl rfl ?_
  refine g_get 4 C 0 1 4 iX4_isThere_X4 lX4_isThere_15 dX4_isThere_1 rfl rfl rfl (by decide) rfl ?_
  exact g_zret C hr dX4_isThere_4 (by rcases hth with rfl | rfl <;> rfl) ⟨g_ri (by first | rfl | omega | exact (if_pos (by omega)).symm | exact (if_neg (by omega)).symm), rfl⟩
theorem lX4_laneHeld_19 : Cond.fieldLink RX4 19 (TX4 2).1 (TX4 2).2.1 (TX4 2).2.2.1 ∈ wsX4_laneHeld := by decide +kernel
theorem iX4_laneHeld_X4 : ∀ w ∈ u_ws RX4 TX4 4, w ∈ wsX4_laneHeld := by decide +kernel
set_option maxHeartbeats 4000000 in
set_option maxRecDepth 100000 in
theorem k_X4_laneHeld (E : gE) (l : Launch) {a_S a_ce : Nat} {th ln sz : Int}  : gFun E l yX4_laneHeld wsX4_laneHeld { frames := 0, cells := 0, slots := 0, locals := 0 } [.ref a_S] [(a_S, .inr (4, [.ref a_ce, .int (iI th), .int (iI ln), .int (iI sz)]))] (.int (iI ln)) := by
  refine g_start (cc := cX4_laneHeld) (maxL := 1) (ret := (some .int)) (by decide) rfl (Nat.le_of_ble_eq_true rfl) ?_
  intro p_ e_ s_ m_ args_ below_ meth_ c_ A_ C hr hnm
  refine g_aload_n 1 C 0 dX4_laneHeld_0 rfl rfl ?_
  refine g_get 4 C 0 2 4 iX4_laneHeld_X4 lX4_laneHeld_19 dX4_laneHeld_1 rfl rfl rfl (by decide) rfl ?_
  exact g_iret C hr dX4_laneHeld_4 ⟨g_ri (by first | rfl | omega | exact (if_pos (by omega)).symm | exact (if_neg (by omega)).symm), rfl⟩
theorem lX4_isOfOther_15 : Cond.fieldLink RX4 15 (TX4 1).1 (TX4 1).2.1 (TX4 1).2.2.1 ∈ wsX4_isOfOther := by decide +kernel
theorem lX4_isOfOther_19 : Cond.fieldLink RX4 19 (TX4 2).1 (TX4 2).2.1 (TX4 2).2.2.1 ∈ wsX4_isOfOther := by decide +kernel
theorem iX4_isOfOther_X4 : ∀ w ∈ u_ws RX4 TX4 4, w ∈ wsX4_isOfOther := by decide +kernel
set_option maxHeartbeats 4000000 in
set_option maxRecDepth 100000 in
theorem k_X4_isOfOther (E : gE) (l : Launch) {a_S a_ce : Nat} {th ln sz w : Int} (hth : th = 0 ∨ th = 1) (hln : 0 ≤ ln ∧ ln ≤ 2) (hw : -2147483648 ≤ w ∧ w < 2147483648) : gFun E l yX4_isOfOther wsX4_isOfOther { frames := 0, cells := 0, slots := 0, locals := 0 } [.ref a_S, .int (iI w)] [(a_S, .inr (4, [.ref a_ce, .int (iI th), .int (iI ln), .int (iI sz)]))] (.int (iI (if th = 1 ∧ ln ≠ w then 1 else 0))) := by
  refine g_start (cc := cX4_isOfOther) (maxL := 2) (ret := (some .boolean)) (by decide) rfl (Nat.le_of_ble_eq_true rfl) ?_
  intro p_ e_ s_ m_ args_ below_ meth_ c_ A_ C hr hnm
  refine g_aload_n 1 C 0 dX4_isOfOther_0 rfl rfl ?_
  refine g_get 4 C 0 1 4 iX4_isOfOther_X4 lX4_isOfOther_15 dX4_isOfOther_1 rfl rfl rfl (by decide) rfl ?_
  refine g_if_eq 19 7 C dX4_isOfOther_4 (by decide) rfl (by omega) ?_ ?_
  · intro h4
    refine g_iconst 20 C dX4_isOfOther_19 rfl ?_
    exact g_zret C hr dX4_isOfOther_20 (by first | rfl | decide | (split <;> rfl)) ⟨g_ri (by first | rfl | omega | exact (if_pos (by omega)).symm | exact (if_neg (by omega)).symm), rfl⟩
  · intro h4
    refine g_aload_n 8 C 0 dX4_isOfOther_7 rfl rfl ?_
    refine g_get 11 C 0 2 4 iX4_isOfOther_X4 lX4_isOfOther_19 dX4_isOfOther_8 rfl rfl rfl (by decide) rfl ?_
    refine g_iload_n 12 C 1 dX4_isOfOther_11 rfl rfl ?_
    refine g_icmp_eq 19 15 C dX4_isOfOther_12 (by decide) rfl (by omega) ?_ ?_
    · intro h12
      refine g_iconst 20 C dX4_isOfOther_19 rfl ?_
      exact g_zret C hr dX4_isOfOther_20 (by first | rfl | decide | (split <;> rfl)) ⟨g_ri (by first | rfl | omega | exact (if_pos (by omega)).symm | exact (if_neg (by omega)).symm), rfl⟩
    · intro h12
      refine g_iconst 16 C dX4_isOfOther_15 rfl ?_
      refine g_goto 20 C dX4_isOfOther_16 (by decide) ?_
      exact g_zret C hr dX4_isOfOther_20 (by first | rfl | decide | (split <;> rfl)) ⟨g_ri (by first | rfl | omega | exact (if_pos (by omega)).symm | exact (if_neg (by omega)).symm), rfl⟩
theorem lX4_holds_32 : Cond.fieldLink RX4 32 (TX4 3).1 (TX4 3).2.1 (TX4 3).2.2.1 ∈ wsX4_holds := by decide +kernel
theorem iX4_holds_X4 : ∀ w ∈ u_ws RX4 TX4 4, w ∈ wsX4_holds := by decide +kernel
set_option maxHeartbeats 4000000 in
set_option maxRecDepth 100000 in
theorem k_X4_holds (E : gE) (l : Launch) {a_S a_ce : Nat} {th ln sz i n : Int} (hsz : 0 ≤ sz ∧ sz ≤ 50) (hi : -2147483648 ≤ i ∧ i < 2147483648) (hn : -1099511627776 ≤ n ∧ n < 1099511627776) : gFun E l yX4_holds wsX4_holds { frames := 0, cells := 0, slots := 0, locals := 0 } [.ref a_S, .int (iI i), .long (lI n)] [(a_S, .inr (4, [.ref a_ce, .int (iI th), .int (iI ln), .int (iI sz)]))] (.int (iI (if 0 ≤ i ∧ 0 ≤ n ∧ i + n ≤ sz then 1 else 0))) := by
  refine g_start (cc := cX4_holds) (maxL := 4) (ret := (some .boolean)) (by decide) rfl (Nat.le_of_ble_eq_true rfl) ?_
  intro p_ e_ s_ m_ args_ below_ meth_ c_ A_ C hr hnm
  refine g_iload_n 1 C 1 dX4_holds_0 rfl rfl ?_
  refine g_if_lt 27 4 C dX4_holds_1 (by decide) rfl (by omega) ?_ ?_
  · intro h1
    refine g_iconst 28 C dX4_holds_27 rfl ?_
    exact g_zret C hr dX4_holds_28 (by first | rfl | decide | (split <;> rfl)) ⟨g_ri (by first | rfl | omega | exact (if_pos (by omega)).symm | exact (if_neg (by omega)).symm), rfl⟩
  · intro h1
    refine g_lload_n 5 C 2 dX4_holds_4 rfl rfl ?_
    refine g_lconst 6 C 0 dX4_holds_5 rfl (by decide) ?_
    refine g_lc_lt 7 27 10 C dX4_holds_6 rfl dX4_holds_7 (by decide) rfl (by omega) ?_ ?_
    · intro h6
      refine g_iconst 28 C dX4_holds_27 rfl ?_
      exact g_zret C hr dX4_holds_28 (by first | rfl | decide | (split <;> rfl)) ⟨g_ri (by first | rfl | omega | exact (if_pos (by omega)).symm | exact (if_neg (by omega)).symm), rfl⟩
    · intro h6
      refine g_iload_n 11 C 1 dX4_holds_10 rfl rfl ?_
      refine g_i2l 12 C dX4_holds_11 rfl (by omega) ?_
      refine g_lload_n 13 C 2 dX4_holds_12 rfl rfl ?_
      refine g_ladd 14 C dX4_holds_13 rfl ?_
      refine g_aload_n 15 C 0 dX4_holds_14 rfl rfl ?_
      refine g_get 18 C 0 3 4 iX4_holds_X4 lX4_holds_32 dX4_holds_15 rfl rfl rfl (by decide) rfl ?_
      refine g_i2l 19 C dX4_holds_18 rfl (by omega) ?_
      refine g_lc_gt 20 27 23 C dX4_holds_19 rfl dX4_holds_20 (by decide) rfl (by omega) ?_ ?_
      · intro h19
        refine g_iconst 28 C dX4_holds_27 rfl ?_
        exact g_zret C hr dX4_holds_28 (by first | rfl | decide | (split <;> rfl)) ⟨g_ri (by first | rfl | omega | exact (if_pos (by omega)).symm | exact (if_neg (by omega)).symm), rfl⟩
      · intro h19
        refine g_iconst 24 C dX4_holds_23 rfl ?_
        refine g_goto 28 C dX4_holds_24 (by decide) ?_
        exact g_zret C hr dX4_holds_28 (by first | rfl | decide | (split <;> rfl)) ⟨g_ri (by first | rfl | omega | exact (if_pos (by omega)).symm | exact (if_neg (by omega)).symm), rfl⟩
theorem cdX4_holds : yX4_holds.cls = RX4 ∧ yX4_holds.cls ≠ "java/lang/invoke/MethodHandle" ∧ yX4_holds.cls ≠ "java/lang/invoke/VarHandle" ∧ (parseMethodDescriptor yX4_holds.desc).map (fun d => d.parameters.length) = some 2 := by decide +kernel
theorem lX4_read_9 : Cond.fieldLink RX4 9 (TX4 0).1 (TX4 0).2.1 (TX4 0).2.2.1 ∈ wsX4_read := by decide +kernel
theorem iX4_read_X4 : ∀ w ∈ u_ws RX4 TX4 4, w ∈ wsX4_read := by decide +kernel
set_option maxHeartbeats 4000000 in
set_option maxRecDepth 100000 in
theorem k_X4_read (E : gE) (l : Launch) {a_S a_ce : Nat} {th ln sz i : Int} {ce : Int → Int} (hsz : 0 ≤ sz ∧ sz ≤ 50) (hi : 0 ≤ i ∧ i < sz) : gFun E l yX4_read wsX4_read { frames := 1, cells := 0, slots := 0, locals := 23 } [.ref a_S, .int (iI i)] [(a_S, .inr (4, [.ref a_ce, .int (iI th), .int (iI ln), .int (iI sz)])), (a_ce, aI E 50 ce)] (.int (iI (ce i))) := by
  refine g_start (cc := cX4_read) (maxL := 2) (ret := (some .int)) (by decide) rfl (Nat.le_of_ble_eq_true rfl) ?_
  intro p_ e_ s_ m_ args_ below_ meth_ c_ A_ C hr hnm
  refine g_aload_n 1 C 0 dX4_read_0 rfl rfl ?_
  refine g_iload_n 2 C 1 dX4_read_1 rfl rfl ?_
  refine g_lconst 3 C 1 dX4_read_2 rfl (by decide) ?_
  refine g_callVF 6 C [0] dX4_read_3 rfl (k_X4_holds E l  (by first | assumption | omega) (by first | assumption | omega) (by first | assumption | omega)) (cwV 2 C.2.2.2.2.1 gX4_read_X4_holds rfl rfl rfl cdX4_holds ⟨Nat.le_of_ble_eq_true rfl, Nat.le_of_ble_eq_true rfl⟩) rfl rfl rfl rfl (Nat.le_of_ble_eq_true rfl) 0 4 rfl rfl rfl ⟨Nat.le_of_ble_eq_true rfl, Nat.le_of_ble_eq_true rfl⟩ ?_
  refine g_ifb_eq 18 9 C dX4_read_6 (by decide) rfl (fun h6 => absurd h6 (by omega)) ?_
  intro h6
  refine g_aload_n 10 C 0 dX4_read_9 rfl rfl ?_
  refine g_get 13 C 0 0 4 iX4_read_X4 lX4_read_9 dX4_read_10 rfl rfl rfl (by decide) rfl ?_
  refine g_iload_n 14 C 1 dX4_read_13 rfl rfl ?_
  refine g_iaload 15 C 1 dX4_read_14 rfl rfl (by omega) ?_
  refine g_goto 19 C dX4_read_15 (by decide) ?_
  exact g_iret C hr dX4_read_19 ⟨g_ri (by first | rfl | omega | exact (if_pos (by omega)).symm | exact (if_neg (by omega)).symm), rfl⟩
theorem lX4_cutToLane_19 : Cond.fieldLink RX4 19 (TX4 2).1 (TX4 2).2.1 (TX4 2).2.2.1 ∈ wsX4_cutToLane := by decide +kernel
theorem iX4_cutToLane_X4 : ∀ w ∈ u_ws RX4 TX4 4, w ∈ wsX4_cutToLane := by decide +kernel
set_option maxHeartbeats 4000000 in
set_option maxRecDepth 100000 in
theorem k_X4_cutToLane (E : gE) (l : Launch) {a_S a_ce : Nat} {th ln sz v : Int} (hln : 0 ≤ ln ∧ ln ≤ 2) : gFun E l yX4_cutToLane wsX4_cutToLane { frames := 0, cells := 0, slots := 0, locals := 0 } [.ref a_S, .int (iI v)] [(a_S, .inr (4, [.ref a_ce, .int (iI th), .int (iI ln), .int (iI sz)]))] (.int (iI (cuI ln v))) := by
  refine g_start (cc := cX4_cutToLane) (maxL := 2) (ret := (some .int)) (by decide) rfl (Nat.le_of_ble_eq_true rfl) ?_
  intro p_ e_ s_ m_ args_ below_ meth_ c_ A_ C hr hnm
  refine g_aload_n 1 C 0 dX4_cutToLane_0 rfl rfl ?_
  refine g_get 4 C 0 2 4 iX4_cutToLane_X4 lX4_cutToLane_19 dX4_cutToLane_1 rfl rfl rfl (by decide) rfl ?_
  refine g_lsw2 32 35 38 C dX4_cutToLane_4 (by decide) (by omega) (by decide) (by decide) (by decide) ?_ ?_ ?_
  · intro hs4_a
    refine g_iload_n 33 C 1 dX4_cutToLane_32 rfl rfl ?_
    refine g_i2b 34 C dX4_cutToLane_33 rfl ?_
    exact g_iret C hr dX4_cutToLane_34 ⟨congrArg some (congrArg Value.int (cuI_0 (by omega)).symm), rfl⟩
  · intro hs4_b
    refine g_iload_n 36 C 1 dX4_cutToLane_35 rfl rfl ?_
    refine g_i2s 37 C dX4_cutToLane_36 rfl ?_
    exact g_iret C hr dX4_cutToLane_37 ⟨congrArg some (congrArg Value.int (cuI_1 (by omega)).symm), rfl⟩
  · intro hs4_d
    refine g_iload_n 39 C 1 dX4_cutToLane_38 rfl rfl ?_
    exact g_iret C hr dX4_cutToLane_39 ⟨g_ri ((cuI_2 (by omega)).symm), rfl⟩
theorem cdX4_cutToLane : yX4_cutToLane.cls = RX4 ∧ yX4_cutToLane.cls ≠ "java/lang/invoke/MethodHandle" ∧ yX4_cutToLane.cls ≠ "java/lang/invoke/VarHandle" ∧ (parseMethodDescriptor yX4_cutToLane.desc).map (fun d => d.parameters.length) = some 1 := by decide +kernel
theorem lX4_write_9 : Cond.fieldLink RX4 9 (TX4 0).1 (TX4 0).2.1 (TX4 0).2.2.1 ∈ wsX4_write := by decide +kernel
theorem iX4_write_X4 : ∀ w ∈ u_ws RX4 TX4 4, w ∈ wsX4_write := by decide +kernel
set_option maxHeartbeats 4000000 in
set_option maxRecDepth 100000 in
theorem k_X4_write (E : gE) (l : Launch) {a_S a_ce : Nat} {th ln sz i v : Int} {ce : Int → Int} (hsz : 0 ≤ sz ∧ sz ≤ 50) (hi : 0 ≤ i ∧ i < sz) (hln : 0 ≤ ln ∧ ln ≤ 2) : gUpd E l yX4_write wsX4_write { frames := 1, cells := 0, slots := 0, locals := 23 } [.ref a_S, .int (iI i), .int (iI v)] [(a_S, .inr (4, [.ref a_ce, .int (iI th), .int (iI ln), .int (iI sz)])), (a_ce, aI E 50 ce)] none [(a_S, .inr (4, [.ref a_ce, .int (iI th), .int (iI ln), .int (iI sz)])), (a_ce, aI E 50 (uI ce i (cuI ln v)))] := by
  refine g_start (cc := cX4_write) (maxL := 3) (ret := none) (by decide) rfl (Nat.le_of_ble_eq_true rfl) ?_
  intro p_ e_ s_ m_ args_ below_ meth_ c_ A_ C hr hnm
  refine g_aload_n 1 C 0 dX4_write_0 rfl rfl ?_
  refine g_iload_n 2 C 1 dX4_write_1 rfl rfl ?_
  refine g_lconst 3 C 1 dX4_write_2 rfl (by decide) ?_
  refine g_callVF 6 C [0] dX4_write_3 rfl (k_X4_holds E l  (by first | assumption | omega) (by first | assumption | omega) (by first | assumption | omega)) (cwV 2 C.2.2.2.2.1 gX4_write_X4_holds rfl rfl rfl cdX4_holds ⟨Nat.le_of_ble_eq_true rfl, Nat.le_of_ble_eq_true rfl⟩) rfl rfl rfl rfl (Nat.le_of_ble_eq_true rfl) 0 4 rfl rfl rfl ⟨Nat.le_of_ble_eq_true rfl, Nat.le_of_ble_eq_true rfl⟩ ?_
  refine g_ifb_eq 20 9 C dX4_write_6 (by decide) rfl (fun h6 => absurd h6 (by omega)) ?_
  intro h6
  refine g_aload_n 10 C 0 dX4_write_9 rfl rfl ?_
  refine g_get 13 C 0 0 4 iX4_write_X4 lX4_write_9 dX4_write_10 rfl rfl rfl (by decide) rfl ?_
  refine g_iload_n 14 C 1 dX4_write_13 rfl rfl ?_
  refine g_aload_n 15 C 0 dX4_write_14 rfl rfl ?_
  refine g_iload_n 16 C 2 dX4_write_15 rfl rfl ?_
  refine g_callVF 19 C [0] dX4_write_16 rfl (k_X4_cutToLane E l  (by first | assumption | omega)) (cwV 1 C.2.2.2.2.1 gX4_write_X4_cutToLane rfl rfl rfl cdX4_cutToLane ⟨Nat.le_of_ble_eq_true rfl, Nat.le_of_ble_eq_true rfl⟩) rfl rfl rfl rfl (Nat.le_of_ble_eq_true rfl) 0 4 rfl rfl rfl ⟨Nat.le_of_ble_eq_true rfl, Nat.le_of_ble_eq_true rfl⟩ ?_
  refine g_iastore (ws' := [(_, .inr (4, [_, _, _, _])), (_, aI _ _ _)]) 20 C 1 dX4_write_19 rfl rfl (by omega) rfl ?_
  exact g_vret C hr dX4_write_20 ⟨rfl, rfl⟩
theorem lX4_drop_15 : Cond.fieldLink RX4 15 (TX4 1).1 (TX4 1).2.1 (TX4 1).2.2.1 ∈ wsX4_drop := by decide +kernel
theorem lX4_drop_32 : Cond.fieldLink RX4 32 (TX4 3).1 (TX4 3).2.1 (TX4 3).2.2.1 ∈ wsX4_drop := by decide +kernel
theorem iX4_drop_X4 : ∀ w ∈ u_ws RX4 TX4 4, w ∈ wsX4_drop := by decide +kernel
set_option maxHeartbeats 4000000 in
set_option maxRecDepth 100000 in
theorem k_X4_drop (E : gE) (l : Launch) {a_S a_ce : Nat} {th ln sz : Int}  : gUpd E l yX4_drop wsX4_drop { frames := 0, cells := 0, slots := 0, locals := 0 } [.ref a_S] [(a_S, .inr (4, [.ref a_ce, .int (iI th), .int (iI ln), .int (iI sz)]))] none [(a_S, .inr (4, [.ref a_ce, .int (iI 0), .int (iI ln), .int (iI 0)]))] := by
  refine g_start (cc := cX4_drop) (maxL := 1) (ret := none) (by decide) rfl (Nat.le_of_ble_eq_true rfl) ?_
  intro p_ e_ s_ m_ args_ below_ meth_ c_ A_ C hr hnm
  refine g_aload_n 1 C 0 dX4_drop_0 rfl rfl ?_
  refine g_iconst 2 C dX4_drop_1 rfl ?_
  refine g_put (ws' := [(_, .inr (4, [_, _, _, _]))]) 5 C 0 1 4 tyX4 tyX4_ok nmX4 iX4_drop_X4 lX4_drop_15 dX4_drop_2 rfl rfl rfl (by decide) rfl (by decide) rfl (Nat.le_of_ble_eq_true rfl) rfl ?_
  refine g_aload_n 6 C 0 dX4_drop_5 rfl rfl ?_
  refine g_iconst 7 C dX4_drop_6 rfl ?_
  refine g_put (ws' := [(_, .inr (4, [_, _, _, _]))]) 10 C 0 3 4 tyX4 tyX4_ok nmX4 iX4_drop_X4 lX4_drop_32 dX4_drop_7 rfl rfl rfl (by decide) rfl rfl rfl (Nat.le_of_ble_eq_true rfl) rfl ?_
  exact g_vret C hr dX4_drop_10 ⟨rfl, rfl⟩
theorem lX4_renew_15 : Cond.fieldLink RX4 15 (TX4 1).1 (TX4 1).2.1 (TX4 1).2.2.1 ∈ wsX4_renew := by decide +kernel
theorem lX4_renew_19 : Cond.fieldLink RX4 19 (TX4 2).1 (TX4 2).2.1 (TX4 2).2.2.1 ∈ wsX4_renew := by decide +kernel
theorem lX4_renew_32 : Cond.fieldLink RX4 32 (TX4 3).1 (TX4 3).2.1 (TX4 3).2.2.1 ∈ wsX4_renew := by decide +kernel
theorem lX4_renew_9 : Cond.fieldLink RX4 9 (TX4 0).1 (TX4 0).2.1 (TX4 0).2.2.1 ∈ wsX4_renew := by decide +kernel
theorem lX4_renew_23 : ∀ w ∈ ([Cond.methodLink RX4 23 Lib.Math.max.name, Cond.static Lib.Math.max.name, Cond.initialized "java/lang/Math", Cond.code Lib.Math.max.name Lib.Math.max.code 2 (some .int)] : List Cond), w ∈ wsX4_renew := by decide +kernel
theorem lX4_renew_29 : ∀ w ∈ ([Cond.methodLink RX4 29 Lib.Math.min.name, Cond.static Lib.Math.min.name, Cond.initialized "java/lang/Math", Cond.code Lib.Math.min.name Lib.Math.min.code 2 (some .int)] : List Cond), w ∈ wsX4_renew := by decide +kernel
theorem iX4_renew_X4 : ∀ w ∈ u_ws RX4 TX4 4, w ∈ wsX4_renew := by decide +kernel
set_option maxHeartbeats 4000000 in
set_option maxRecDepth 100000 in
theorem k_X4_renew (E : gE) (l : Launch) {a_S a_ce : Nat} {th ln sz w n : Int} {ce : Int → Int} (hn : 0 ≤ n ∧ n ≤ 50) : gUpd E l yX4_renew wsX4_renew { frames := 1, cells := 0, slots := 0, locals := 30 } [.ref a_S, .int (iI w), .int (iI n)] [(a_S, .inr (4, [.ref a_ce, .int (iI th), .int (iI ln), .int (iI sz)])), (a_ce, aI E 50 ce)] none [(a_S, .inr (4, [.ref a_ce, .int (iI 1), .int (iI w), .int (iI n)])), (a_ce, aI E 50 (zrI ce 50))] := by
  refine g_start (cc := cX4_renew) (maxL := 4) (ret := none) (by decide) rfl (Nat.le_of_ble_eq_true rfl) ?_
  intro p_ e_ s_ m_ args_ below_ meth_ c_ A_ C hr hnm
  refine g_aload_n 1 C 0 dX4_renew_0 rfl rfl ?_
  refine g_iconst 2 C dX4_renew_1 rfl ?_
  refine g_put (ws' := [(_, .inr (4, [_, _, _, _])), (_, aI _ _ _)]) 5 C 0 1 4 tyX4 tyX4_ok nmX4 iX4_renew_X4 lX4_renew_15 dX4_renew_2 rfl rfl rfl (by decide) rfl (by decide) rfl (Nat.le_of_ble_eq_true rfl) rfl ?_
  refine g_aload_n 6 C 0 dX4_renew_5 rfl rfl ?_
  refine g_iload_n 7 C 1 dX4_renew_6 rfl rfl ?_
  refine g_put (ws' := [(_, .inr (4, [_, _, _, _])), (_, aI _ _ _)]) 10 C 0 2 4 tyX4 tyX4_ok nmX4 iX4_renew_X4 lX4_renew_19 dX4_renew_7 rfl rfl rfl (by decide) rfl rfl rfl (Nat.le_of_ble_eq_true rfl) rfl ?_
  refine g_aload_n 11 C 0 dX4_renew_10 rfl rfl ?_
  refine g_iconst 12 C dX4_renew_11 rfl ?_
  refine g_iload_n 13 C 2 dX4_renew_12 rfl rfl ?_
  refine g_mmax 16 C n dX4_renew_13 rfl lX4_renew_23 (Nat.le_of_ble_eq_true rfl) (Nat.le_of_ble_eq_true rfl) (Nat.le_of_ble_eq_true rfl) (Nat.le_of_ble_eq_true rfl) (by omega) (by split <;> omega) ?_
  refine g_bipush 18 C dX4_renew_16 rfl (by decide) ?_
  refine g_mmin 21 C n dX4_renew_18 rfl lX4_renew_29 (Nat.le_of_ble_eq_true rfl) (Nat.le_of_ble_eq_true rfl) (Nat.le_of_ble_eq_true rfl) (Nat.le_of_ble_eq_true rfl) (by omega) (by split <;> omega) ?_
  refine g_put (ws' := [(_, .inr (4, [_, _, _, _])), (_, aI _ _ _)]) 24 C 0 3 4 tyX4 tyX4_ok nmX4 iX4_renew_X4 lX4_renew_32 dX4_renew_21 rfl rfl rfl (by decide) rfl rfl rfl (Nat.le_of_ble_eq_true rfl) rfl ?_
  refine g_iconst 25 C dX4_renew_24 rfl ?_
  refine g_istore_n (lv' := [(3, _), (0, _), (1, _), (2, _)]) 26 C dX4_renew_25 rfl rfl (by decide) rfl ?_
  refine g_loop (α := Int) (fun zz => [(a_S, .inr (4, [.ref a_ce, .int (iI 1), .int (iI w), .int (iI n)])), (a_ce, aI E 50 (zrI ce zz))]) (fun zz => [(3, .int (iI zz)), (2, .int (iI n)), (1, .int (iI w)), (0, .ref a_S)]) (fun zz => 0 ≤ zz ∧ zz ≤ 50) (fun zz => (50 - zz).toNat) (0) (by (try dsimp only); omega) [0, 3, 2, 1] (by rw [zrI_0]) rfl ?_
  rintro k hI ih26
  try dsimp only at hI ih26 ⊢
  obtain ⟨hk0, hkn⟩ := hI
  refine g_iload_n 27 C 0 dX4_renew_26 rfl rfl ?_
  refine g_bipush 29 C dX4_renew_27 rfl (by decide) ?_
  refine g_icmp_ge 45 32 C dX4_renew_29 (by decide) rfl (by omega) ?_ ?_
  · intro h29
    exact g_vret C hr dX4_renew_45 ⟨rfl, by rw [show k = 50 by omega]⟩
  · intro h29
    refine g_aload_n 33 C 3 dX4_renew_32 rfl rfl ?_
    refine g_get 36 C 0 0 4 iX4_renew_X4 lX4_renew_9 dX4_renew_33 rfl rfl rfl (by decide) rfl ?_
    refine g_iload_n 37 C 0 dX4_renew_36 rfl rfl ?_
    refine g_iconst 38 C dX4_renew_37 rfl ?_
    refine g_iastore (ws' := [(_, .inr (4, [_, _, _, _])), (_, aI _ _ _)]) 39 C 1 dX4_renew_38 rfl rfl (by omega) rfl ?_
    refine g_iinc (lv' := [(3, _), (2, _), (1, _), (0, _)]) 42 C 0 dX4_renew_39 rfl rfl (by decide) rfl ?_
    refine g_goto 26 C dX4_renew_42 (by decide) ?_
    exact g_w [0, 1, 2, 3] (by (try dsimp only); rw [← zrI_s ce hk0]) rfl (ih26 ((k + 1)) (by (try dsimp only); omega) (by (try dsimp only); omega))
theorem lX4_writeFrom_43 : ∀ w ∈ ([Cond.methodLink RX4 43 arraycopyName, Cond.native arraycopyName, Cond.static arraycopyName, Cond.initialized "java/lang/System"] : List Cond), w ∈ wsX4_writeFrom := by decide +kernel
theorem lX4_writeFrom_9 : Cond.fieldLink RX4 9 (TX4 0).1 (TX4 0).2.1 (TX4 0).2.2.1 ∈ wsX4_writeFrom := by decide +kernel
theorem iX4_writeFrom_X4 : ∀ w ∈ u_ws RX4 TX4 4, w ∈ wsX4_writeFrom := by decide +kernel
set_option maxHeartbeats 4000000 in
set_option maxRecDepth 100000 in
theorem k_X4_writeFrom (E : gE) (l : Launch) {a_S a_T a_ce a_cf : Nat} {th ln sz th2 ln2 sz2 i j n : Int} {ce cf : Int → Int} (hsz : 0 ≤ sz ∧ sz ≤ 50) (hsz2 : 0 ≤ sz2 ∧ sz2 ≤ 50) (hi : 0 ≤ i ∧ i + n ≤ sz2) (hj : 0 ≤ j ∧ j + n ≤ sz) (hn : 0 ≤ n) : gUpd E l yX4_writeFrom wsX4_writeFrom { frames := 1, cells := 0, slots := 0, locals := 60 } [.ref a_S, .ref a_T, .int (iI i), .int (iI j), .int (iI n)] [(a_S, .inr (4, [.ref a_ce, .int (iI th), .int (iI ln), .int (iI sz)])), (a_ce, aI E 50 ce), (a_T, .inr (4, [.ref a_cf, .int (iI th2), .int (iI ln2), .int (iI sz2)])), (a_cf, aI E 50 cf)] none [(a_S, .inr (4, [.ref a_ce, .int (iI th), .int (iI ln), .int (iI sz)])), (a_ce, aI E 50 (cpI cf ce i j n)), (a_T, .inr (4, [.ref a_cf, .int (iI th2), .int (iI ln2), .int (iI sz2)])), (a_cf, aI E 50 cf)] := by
  refine g_start (cc := cX4_writeFrom) (maxL := 5) (ret := none) (by decide) rfl (Nat.le_of_ble_eq_true rfl) ?_
  intro p_ e_ s_ m_ args_ below_ meth_ c_ A_ C hr hnm
  refine g_aload_n 1 C 1 dX4_writeFrom_0 rfl rfl ?_
  refine g_iload_n 2 C 2 dX4_writeFrom_1 rfl rfl ?_
  refine g_iload 4 C 4 dX4_writeFrom_2 rfl rfl ?_
  refine g_i2l 5 C dX4_writeFrom_4 rfl (by omega) ?_
  refine g_callVF 8 C [2] dX4_writeFrom_5 rfl (k_X4_holds E l  (by first | assumption | omega) (by first | assumption | omega) (by first | assumption | omega)) (cwV 2 C.2.2.2.2.1 gX4_writeFrom_X4_holds rfl rfl rfl cdX4_holds ⟨Nat.le_of_ble_eq_true rfl, Nat.le_of_ble_eq_true rfl⟩) rfl rfl rfl rfl (Nat.le_of_ble_eq_true rfl) 2 4 rfl rfl rfl ⟨Nat.le_of_ble_eq_true rfl, Nat.le_of_ble_eq_true rfl⟩ ?_
  refine g_ifb_eq 37 11 C dX4_writeFrom_8 (by decide) rfl (fun h8 => absurd h8 (by omega)) ?_
  intro h8
  refine g_aload_n 12 C 0 dX4_writeFrom_11 rfl rfl ?_
  refine g_iload_n 13 C 3 dX4_writeFrom_12 rfl rfl ?_
  refine g_iload 15 C 4 dX4_writeFrom_13 rfl rfl ?_
  refine g_i2l 16 C dX4_writeFrom_15 rfl (by omega) ?_
  refine g_callVF 19 C [0] dX4_writeFrom_16 rfl (k_X4_holds E l  (by first | assumption | omega) (by first | assumption | omega) (by first | assumption | omega)) (cwV 2 C.2.2.2.2.1 gX4_writeFrom_X4_holds rfl rfl rfl cdX4_holds ⟨Nat.le_of_ble_eq_true rfl, Nat.le_of_ble_eq_true rfl⟩) rfl rfl rfl rfl (Nat.le_of_ble_eq_true rfl) 0 4 rfl rfl rfl ⟨Nat.le_of_ble_eq_true rfl, Nat.le_of_ble_eq_true rfl⟩ ?_
  refine g_ifb_eq 37 22 C dX4_writeFrom_19 (by decide) rfl (fun h19 => absurd h19 (by omega)) ?_
  intro h19
  refine g_aload_n 23 C 1 dX4_writeFrom_22 rfl rfl ?_
  refine g_get 26 C 2 0 4 iX4_writeFrom_X4 lX4_writeFrom_9 dX4_writeFrom_23 rfl rfl rfl (by decide) rfl ?_
  refine g_iload_n 27 C 2 dX4_writeFrom_26 rfl rfl ?_
  refine g_aload_n 28 C 0 dX4_writeFrom_27 rfl rfl ?_
  refine g_get 31 C 0 0 4 iX4_writeFrom_X4 lX4_writeFrom_9 dX4_writeFrom_28 rfl rfl rfl (by decide) rfl ?_
  refine g_iload_n 32 C 3 dX4_writeFrom_31 rfl rfl ?_
  refine g_iload 34 C 4 dX4_writeFrom_32 rfl rfl ?_
  refine g_copy (ws' := [(_, .inr (4, [_, _, _, _])), (_, aI _ _ _), (_, .inr (4, [_, _, _, _])), (_, aI _ _ _)]) 37 C 3 1 dX4_writeFrom_34 rfl lX4_writeFrom_43 rfl rfl (by omega) (by omega) (by omega) ⟨by decide, by decide⟩ (Nat.le_of_ble_eq_true rfl) (Nat.le_of_ble_eq_true rfl) rfl ?_
  exact g_vret C hr dX4_writeFrom_37 ⟨rfl, rfl⟩
set_option maxHeartbeats 4000000 in
set_option maxRecDepth 100000 in
theorem k_X4_writeFrom_s (E : gE) (l : Launch) {a_S a_ce : Nat} {th ln sz i j n : Int} {ce : Int → Int} (hsz : 0 ≤ sz ∧ sz ≤ 50) (hi : 0 ≤ i ∧ i + n ≤ sz) (hj : 0 ≤ j ∧ j + n ≤ sz) (hn : 0 ≤ n) : gUpd E l yX4_writeFrom wsX4_writeFrom { frames := 1, cells := 0, slots := 0, locals := 60 } [.ref a_S, .ref a_S, .int (iI i), .int (iI j), .int (iI n)] [(a_S, .inr (4, [.ref a_ce, .int (iI th), .int (iI ln), .int (iI sz)])), (a_ce, aI E 50 ce)] none [(a_S, .inr (4, [.ref a_ce, .int (iI th), .int (iI ln), .int (iI sz)])), (a_ce, aI E 50 (cpI ce ce i j n))] := by
  refine g_start (cc := cX4_writeFrom) (maxL := 5) (ret := none) (by decide) rfl (Nat.le_of_ble_eq_true rfl) ?_
  intro p_ e_ s_ m_ args_ below_ meth_ c_ A_ C hr hnm
  refine g_aload_n 1 C 1 dX4_writeFrom_0 rfl rfl ?_
  refine g_iload_n 2 C 2 dX4_writeFrom_1 rfl rfl ?_
  refine g_iload 4 C 4 dX4_writeFrom_2 rfl rfl ?_
  refine g_i2l 5 C dX4_writeFrom_4 rfl (by omega) ?_
  refine g_callVF 8 C [0] dX4_writeFrom_5 rfl (k_X4_holds E l  (by first | assumption | omega) (by first | assumption | omega) (by first | assumption | omega)) (cwV 2 C.2.2.2.2.1 gX4_writeFrom_X4_holds rfl rfl rfl cdX4_holds ⟨Nat.le_of_ble_eq_true rfl, Nat.le_of_ble_eq_true rfl⟩) rfl rfl rfl rfl (Nat.le_of_ble_eq_true rfl) 0 4 rfl rfl rfl ⟨Nat.le_of_ble_eq_true rfl, Nat.le_of_ble_eq_true rfl⟩ ?_
  refine g_ifb_eq 37 11 C dX4_writeFrom_8 (by decide) rfl (fun h8 => absurd h8 (by omega)) ?_
  intro h8
  refine g_aload_n 12 C 0 dX4_writeFrom_11 rfl rfl ?_
  refine g_iload_n 13 C 3 dX4_writeFrom_12 rfl rfl ?_
  refine g_iload 15 C 4 dX4_writeFrom_13 rfl rfl ?_
  refine g_i2l 16 C dX4_writeFrom_15 rfl (by omega) ?_
  refine g_callVF 19 C [0] dX4_writeFrom_16 rfl (k_X4_holds E l  (by first | assumption | omega) (by first | assumption | omega) (by first | assumption | omega)) (cwV 2 C.2.2.2.2.1 gX4_writeFrom_X4_holds rfl rfl rfl cdX4_holds ⟨Nat.le_of_ble_eq_true rfl, Nat.le_of_ble_eq_true rfl⟩) rfl rfl rfl rfl (Nat.le_of_ble_eq_true rfl) 0 4 rfl rfl rfl ⟨Nat.le_of_ble_eq_true rfl, Nat.le_of_ble_eq_true rfl⟩ ?_
  refine g_ifb_eq 37 22 C dX4_writeFrom_19 (by decide) rfl (fun h19 => absurd h19 (by omega)) ?_
  intro h19
  refine g_aload_n 23 C 1 dX4_writeFrom_22 rfl rfl ?_
  refine g_get 26 C 0 0 4 iX4_writeFrom_X4 lX4_writeFrom_9 dX4_writeFrom_23 rfl rfl rfl (by decide) rfl ?_
  refine g_iload_n 27 C 2 dX4_writeFrom_26 rfl rfl ?_
  refine g_aload_n 28 C 0 dX4_writeFrom_27 rfl rfl ?_
  refine g_get 31 C 0 0 4 iX4_writeFrom_X4 lX4_writeFrom_9 dX4_writeFrom_28 rfl rfl rfl (by decide) rfl ?_
  refine g_iload_n 32 C 3 dX4_writeFrom_31 rfl rfl ?_
  refine g_iload 34 C 4 dX4_writeFrom_32 rfl rfl ?_
  refine g_copy (ws' := [(_, .inr (4, [_, _, _, _])), (_, aI _ _ _)]) 37 C 1 1 dX4_writeFrom_34 rfl lX4_writeFrom_43 rfl rfl (by omega) (by omega) (by omega) ⟨by decide, by decide⟩ (Nat.le_of_ble_eq_true rfl) (Nat.le_of_ble_eq_true rfl) rfl ?_
  exact g_vret C hr dX4_writeFrom_37 ⟨rfl, rfl⟩
end
section
theorem dX3_init_0 : decode cX3_init 0 = .ok (.aload_n 0, 1) := by decide +kernel
theorem dX3_init_1 : decode cX3_init 1 = .ok (.invokespecial 3, 3) := by decide +kernel
theorem dX3_init_4 : decode cX3_init 4 = .ok (.aload_n 0, 1) := by decide +kernel
theorem dX3_init_5 : decode cX3_init 5 = .ok (.sipush 400, 3) := by decide +kernel
theorem dX3_init_8 : decode cX3_init 8 = .ok (.newarray .int, 2) := by decide +kernel
theorem dX3_init_10 : decode cX3_init 10 = .ok (.putfield 9, 3) := by decide +kernel
theorem dX3_init_13 : decode cX3_init 13 = .ok (.aload_n 0, 1) := by decide +kernel
theorem dX3_init_14 : decode cX3_init 14 = .ok (.sipush 400, 3) := by decide +kernel
theorem dX3_init_17 : decode cX3_init 17 = .ok (.newarray .int, 2) := by decide +kernel
theorem dX3_init_19 : decode cX3_init 19 = .ok (.putfield 15, 3) := by decide +kernel
theorem dX3_init_22 : decode cX3_init 22 = .ok (.aload_n 0, 1) := by decide +kernel
theorem dX3_init_23 : decode cX3_init 23 = .ok (.bipush 100, 2) := by decide +kernel
theorem dX3_init_25 : decode cX3_init 25 = .ok (.newarray .int, 2) := by decide +kernel
theorem dX3_init_27 : decode cX3_init 27 = .ok (.putfield 18, 3) := by decide +kernel
theorem dX3_init_30 : decode cX3_init 30 = .ok (.aload_n 0, 1) := by decide +kernel
theorem dX3_init_31 : decode cX3_init 31 = .ok (.bipush 25, 2) := by decide +kernel
theorem dX3_init_33 : decode cX3_init 33 = .ok (.newarray .boolean, 2) := by decide +kernel
theorem dX3_init_35 : decode cX3_init 35 = .ok (.putfield 21, 3) := by decide +kernel
theorem dX3_init_38 : decode cX3_init 38 = .ok (.aload_n 0, 1) := by decide +kernel
theorem dX3_init_39 : decode cX3_init 39 = .ok (.bipush 25, 2) := by decide +kernel
theorem dX3_init_41 : decode cX3_init 41 = .ok (.newarray .int, 2) := by decide +kernel
theorem dX3_init_43 : decode cX3_init 43 = .ok (.putfield 25, 3) := by decide +kernel
theorem dX3_init_46 : decode cX3_init 46 = .ok (.aload_n 0, 1) := by decide +kernel
theorem dX3_init_47 : decode cX3_init 47 = .ok (.bipush 25, 2) := by decide +kernel
theorem dX3_init_49 : decode cX3_init 49 = .ok (.newarray .int, 2) := by decide +kernel
theorem dX3_init_51 : decode cX3_init 51 = .ok (.putfield 28, 3) := by decide +kernel
theorem dX3_init_54 : decode cX3_init 54 = .ok (.aload_n 0, 1) := by decide +kernel
theorem dX3_init_55 : decode cX3_init 55 = .ok (.aload_n 1, 1) := by decide +kernel
theorem dX3_init_56 : decode cX3_init 56 = .ok (.putfield 31, 3) := by decide +kernel
theorem dX3_init_59 : decode cX3_init 59 = .ok (.aload_n 0, 1) := by decide +kernel
theorem dX3_init_60 : decode cX3_init 60 = .ok (.aload_n 2, 1) := by decide +kernel
theorem dX3_init_61 : decode cX3_init 61 = .ok (.putfield 35, 3) := by decide +kernel
theorem dX3_init_64 : decode cX3_init 64 = .ok (.return_, 1) := by decide +kernel
theorem dX3_trialsCounted_0 : decode cX3_trialsCounted 0 = .ok (.aload_n 0, 1) := by decide +kernel
theorem dX3_trialsCounted_1 : decode cX3_trialsCounted 1 = .ok (.getfield 39, 3) := by decide +kernel
theorem dX3_trialsCounted_4 : decode cX3_trialsCounted 4 = .ok (.ireturn, 1) := by decide +kernel
theorem dX3_hasJoined_0 : decode cX3_hasJoined 0 = .ok (.aload_n 0, 1) := by decide +kernel
theorem dX3_hasJoined_1 : decode cX3_hasJoined 1 = .ok (.getfield 43, 3) := by decide +kernel
theorem dX3_hasJoined_4 : decode cX3_hasJoined 4 = .ok (.ireturn, 1) := by decide +kernel
theorem dX3_forgetJoined_0 : decode cX3_forgetJoined 0 = .ok (.aload_n 0, 1) := by decide +kernel
theorem dX3_forgetJoined_1 : decode cX3_forgetJoined 1 = .ok (.iconst 0, 1) := by decide +kernel
theorem dX3_forgetJoined_2 : decode cX3_forgetJoined 2 = .ok (.putfield 43, 3) := by decide +kernel
theorem dX3_forgetJoined_5 : decode cX3_forgetJoined 5 = .ok (.return_, 1) := by decide +kernel
set_option maxRecDepth 20000 in
theorem ggX3_joinedFrom_X1_hasPiece : GoodIn wsX3_joinedFrom wsX1_hasPiece := goodIn_r _ [7, 8, 9, 10, 6, 11, 12, 13, 27, 28, 29, 30] (by decide +kernel) (by decide +kernel)
set_option maxRecDepth 20000 in
theorem gX3_joinedFrom_X1_hasPiece : GoodIn wsX3_joinedFrom (wsV RX3 47 RX1 yX1_hasPiece wsX1_hasPiece) := goodIn_app (goodIn_of _ (by decide +kernel)) ggX3_joinedFrom_X1_hasPiece
theorem dX3_joinedFrom_0 : decode cX3_joinedFrom 0 = .ok (.aload_n 0, 1) := by decide +kernel
theorem dX3_joinedFrom_1 : decode cX3_joinedFrom 1 = .ok (.getfield 31, 3) := by decide +kernel
theorem dX3_joinedFrom_4 : decode cX3_joinedFrom 4 = .ok (.iload_n 1, 1) := by decide +kernel
theorem dX3_joinedFrom_5 : decode cX3_joinedFrom 5 = .ok (.invokevirtual 47, 3) := by decide +kernel
theorem dX3_joinedFrom_8 : decode cX3_joinedFrom 8 = .ok (.ifCond .eq 14, 3) := by decide +kernel
theorem dX3_joinedFrom_11 : decode cX3_joinedFrom 11 = .ok (.aload_n 0, 1) := by decide +kernel
theorem dX3_joinedFrom_12 : decode cX3_joinedFrom 12 = .ok (.getfield 28, 3) := by decide +kernel
theorem dX3_joinedFrom_15 : decode cX3_joinedFrom 15 = .ok (.iload_n 1, 1) := by decide +kernel
theorem dX3_joinedFrom_16 : decode cX3_joinedFrom 16 = .ok (.iaload, 1) := by decide +kernel
theorem dX3_joinedFrom_17 : decode cX3_joinedFrom 17 = .ok (.iconst 4, 1) := by decide +kernel
theorem dX3_joinedFrom_18 : decode cX3_joinedFrom 18 = .ok (.idiv, 1) := by decide +kernel
theorem dX3_joinedFrom_19 : decode cX3_joinedFrom 19 = .ok (.goto 4, 3) := by decide +kernel
theorem dX3_joinedFrom_22 : decode cX3_joinedFrom 22 = .ok (.iconst (-1), 1) := by decide +kernel
theorem dX3_joinedFrom_23 : decode cX3_joinedFrom 23 = .ok (.ireturn, 1) := by decide +kernel
set_option maxRecDepth 20000 in
theorem ggX3_joinedTurn_X1_hasPiece : GoodIn wsX3_joinedTurn wsX1_hasPiece := goodIn_r _ [7, 8, 9, 10, 6, 11, 12, 13, 27, 28, 29, 30] (by decide +kernel) (by decide +kernel)
set_option maxRecDepth 20000 in
theorem gX3_joinedTurn_X1_hasPiece : GoodIn wsX3_joinedTurn (wsV RX3 47 RX1 yX1_hasPiece wsX1_hasPiece) := goodIn_app (goodIn_of _ (by decide +kernel)) ggX3_joinedTurn_X1_hasPiece
theorem dX3_joinedTurn_0 : decode cX3_joinedTurn 0 = .ok (.aload_n 0, 1) := by decide +kernel
theorem dX3_joinedTurn_1 : decode cX3_joinedTurn 1 = .ok (.getfield 31, 3) := by decide +kernel
theorem dX3_joinedTurn_4 : decode cX3_joinedTurn 4 = .ok (.iload_n 1, 1) := by decide +kernel
theorem dX3_joinedTurn_5 : decode cX3_joinedTurn 5 = .ok (.invokevirtual 47, 3) := by decide +kernel
theorem dX3_joinedTurn_8 : decode cX3_joinedTurn 8 = .ok (.ifCond .eq 14, 3) := by decide +kernel
theorem dX3_joinedTurn_11 : decode cX3_joinedTurn 11 = .ok (.aload_n 0, 1) := by decide +kernel
theorem dX3_joinedTurn_12 : decode cX3_joinedTurn 12 = .ok (.getfield 28, 3) := by decide +kernel
theorem dX3_joinedTurn_15 : decode cX3_joinedTurn 15 = .ok (.iload_n 1, 1) := by decide +kernel
theorem dX3_joinedTurn_16 : decode cX3_joinedTurn 16 = .ok (.iaload, 1) := by decide +kernel
theorem dX3_joinedTurn_17 : decode cX3_joinedTurn 17 = .ok (.iconst 4, 1) := by decide +kernel
theorem dX3_joinedTurn_18 : decode cX3_joinedTurn 18 = .ok (.irem, 1) := by decide +kernel
theorem dX3_joinedTurn_19 : decode cX3_joinedTurn 19 = .ok (.goto 4, 3) := by decide +kernel
theorem dX3_joinedTurn_22 : decode cX3_joinedTurn 22 = .ok (.iconst (-1), 1) := by decide +kernel
theorem dX3_joinedTurn_23 : decode cX3_joinedTurn 23 = .ok (.ireturn, 1) := by decide +kernel
set_option maxRecDepth 20000 in
theorem ggX3_countWays_X3_run : GoodIn wsX3_countWays wsX3_run := goodIn_r _ [7, 8, 9, 10, 1, 2, 11, 12, 13, 14, 15, 16, 17, 18, 19, 20, 6, 21, 22, 23, 24, 25, 26, 27, 28, 29, 30, 31, 32, 33, 34, 35, 36, 37, 38, 39, 40, 41, 42, 43, 44, 45, 46, 47, 48, 49, 50, 51, 52, 53, 54, 55, 56, 57, 58, 59, 60, 61, 62, 63, 64, 65, 66, 67, 68, 69, 70, 71, 72, 73, 74, 75, 76, 77, 78, 79, 80, 81, 82, 83, 84, 85, 86, 87, 88, 89, 90, 91, 92, 93, 94, 95, 96, 97, 98, 99, 100, 101, 102, 103, 104, 105, 106, 107, 108, 109, 110] (by decide +kernel) (by decide +kernel)
set_option maxRecDepth 20000 in
theorem gX3_countWays_X3_run : GoodIn wsX3_countWays (wsV RX3 53 RX3 yX3_run wsX3_run) := goodIn_app (goodIn_of _ (by decide +kernel)) ggX3_countWays_X3_run
theorem dX3_countWays_0 : decode cX3_countWays 0 = .ok (.aload_n 0, 1) := by decide +kernel
theorem dX3_countWays_1 : decode cX3_countWays 1 = .ok (.iconst 0, 1) := by decide +kernel
theorem dX3_countWays_2 : decode cX3_countWays 2 = .ok (.invokevirtual 53, 3) := by decide +kernel
theorem dX3_countWays_5 : decode cX3_countWays 5 = .ok (.aload_n 0, 1) := by decide +kernel
theorem dX3_countWays_6 : decode cX3_countWays 6 = .ok (.getfield 57, 3) := by decide +kernel
theorem dX3_countWays_9 : decode cX3_countWays 9 = .ok (.ifCond .eq 8, 3) := by decide +kernel
theorem dX3_countWays_12 : decode cX3_countWays 12 = .ok (.bipush (-6), 2) := by decide +kernel
theorem dX3_countWays_14 : decode cX3_countWays 14 = .ok (.goto 7, 3) := by decide +kernel
theorem dX3_countWays_17 : decode cX3_countWays 17 = .ok (.aload_n 0, 1) := by decide +kernel
theorem dX3_countWays_18 : decode cX3_countWays 18 = .ok (.getfield 60, 3) := by decide +kernel
theorem dX3_countWays_21 : decode cX3_countWays 21 = .ok (.ireturn, 1) := by decide +kernel
set_option maxRecDepth 20000 in
theorem ggX3_findFirst_X3_run : GoodIn wsX3_findFirst wsX3_run := goodIn_r _ [11, 12, 13, 14, 1, 2, 15, 16, 17, 18, 19, 20, 21, 22, 23, 24, 10, 25, 4, 26, 27, 28, 29, 30, 31, 32, 33, 34, 35, 36, 37, 38, 39, 40, 41, 42, 43, 44, 45, 46, 47, 48, 49, 50, 51, 52, 53, 54, 55, 56, 57, 58, 59, 60, 61, 62, 63, 64, 65, 66, 67, 68, 69, 70, 71, 72, 73, 6, 74, 75, 76, 77, 78, 79, 80, 81, 82, 83, 84, 85, 86, 87, 88, 89, 90, 91, 92, 93, 94, 95, 96, 97, 98, 99, 100, 101, 102, 103, 104, 105, 106, 107, 108, 109, 110, 111, 112] (by decide +kernel) (by decide +kernel)
set_option maxRecDepth 20000 in
theorem gX3_findFirst_X3_run : GoodIn wsX3_findFirst (wsV RX3 53 RX3 yX3_run wsX3_run) := goodIn_app (goodIn_of _ (by decide +kernel)) ggX3_findFirst_X3_run
set_option maxRecDepth 20000 in
theorem ggX3_findFirst_X1_pieces : GoodIn wsX3_findFirst wsX1_pieces := goodIn_r _ [77, 78, 79, 109, 110, 111, 112] (by decide +kernel) (by decide +kernel)
set_option maxRecDepth 20000 in
theorem gX3_findFirst_X1_pieces : GoodIn wsX3_findFirst (wsV RX3 63 RX1 yX1_pieces wsX1_pieces) := goodIn_app (goodIn_of _ (by decide +kernel)) ggX3_findFirst_X1_pieces
theorem dX3_findFirst_0 : decode cX3_findFirst 0 = .ok (.aload_n 0, 1) := by decide +kernel
theorem dX3_findFirst_1 : decode cX3_findFirst 1 = .ok (.iconst 1, 1) := by decide +kernel
theorem dX3_findFirst_2 : decode cX3_findFirst 2 = .ok (.invokevirtual 53, 3) := by decide +kernel
theorem dX3_findFirst_5 : decode cX3_findFirst 5 = .ok (.aload_n 0, 1) := by decide +kernel
theorem dX3_findFirst_6 : decode cX3_findFirst 6 = .ok (.getfield 57, 3) := by decide +kernel
theorem dX3_findFirst_9 : decode cX3_findFirst 9 = .ok (.ifCond .eq 6, 3) := by decide +kernel
theorem dX3_findFirst_12 : decode cX3_findFirst 12 = .ok (.bipush (-6), 2) := by decide +kernel
theorem dX3_findFirst_14 : decode cX3_findFirst 14 = .ok (.ireturn, 1) := by decide +kernel
theorem dX3_findFirst_15 : decode cX3_findFirst 15 = .ok (.aload_n 0, 1) := by decide +kernel
theorem dX3_findFirst_16 : decode cX3_findFirst 16 = .ok (.aload_n 0, 1) := by decide +kernel
theorem dX3_findFirst_17 : decode cX3_findFirst 17 = .ok (.getfield 60, 3) := by decide +kernel
theorem dX3_findFirst_20 : decode cX3_findFirst 20 = .ok (.ifCond .le 7, 3) := by decide +kernel
theorem dX3_findFirst_23 : decode cX3_findFirst 23 = .ok (.iconst 1, 1) := by decide +kernel
theorem dX3_findFirst_24 : decode cX3_findFirst 24 = .ok (.goto 4, 3) := by decide +kernel
theorem dX3_findFirst_27 : decode cX3_findFirst 27 = .ok (.iconst 0, 1) := by decide +kernel
theorem dX3_findFirst_28 : decode cX3_findFirst 28 = .ok (.putfield 43, 3) := by decide +kernel
theorem dX3_findFirst_31 : decode cX3_findFirst 31 = .ok (.iconst 0, 1) := by decide +kernel
theorem dX3_findFirst_32 : decode cX3_findFirst 32 = .ok (.istore_n 1, 1) := by decide +kernel
theorem dX3_findFirst_33 : decode cX3_findFirst 33 = .ok (.aload_n 0, 1) := by decide +kernel
theorem dX3_findFirst_34 : decode cX3_findFirst 34 = .ok (.getfield 43, 3) := by decide +kernel
theorem dX3_findFirst_37 : decode cX3_findFirst 37 = .ok (.ifCond .eq 32, 3) := by decide +kernel
theorem dX3_findFirst_40 : decode cX3_findFirst 40 = .ok (.iload_n 1, 1) := by decide +kernel
theorem dX3_findFirst_41 : decode cX3_findFirst 41 = .ok (.aload_n 0, 1) := by decide +kernel
theorem dX3_findFirst_42 : decode cX3_findFirst 42 = .ok (.getfield 31, 3) := by decide +kernel
theorem dX3_findFirst_45 : decode cX3_findFirst 45 = .ok (.invokevirtual 63, 3) := by decide +kernel
theorem dX3_findFirst_48 : decode cX3_findFirst 48 = .ok (.if_icmp .ge 21, 3) := by decide +kernel
theorem dX3_findFirst_51 : decode cX3_findFirst 51 = .ok (.aload_n 0, 1) := by decide +kernel
theorem dX3_findFirst_52 : decode cX3_findFirst 52 = .ok (.getfield 28, 3) := by decide +kernel
theorem dX3_findFirst_55 : decode cX3_findFirst 55 = .ok (.iload_n 1, 1) := by decide +kernel
theorem dX3_findFirst_56 : decode cX3_findFirst 56 = .ok (.aload_n 0, 1) := by decide +kernel
theorem dX3_findFirst_57 : decode cX3_findFirst 57 = .ok (.getfield 25, 3) := by decide +kernel
theorem dX3_findFirst_60 : decode cX3_findFirst 60 = .ok (.iload_n 1, 1) := by decide +kernel
theorem dX3_findFirst_61 : decode cX3_findFirst 61 = .ok (.iaload, 1) := by decide +kernel
theorem dX3_findFirst_62 : decode cX3_findFirst 62 = .ok (.iastore, 1) := by decide +kernel
theorem dX3_findFirst_63 : decode cX3_findFirst 63 = .ok (.iinc 1 1, 3) := by decide +kernel
theorem dX3_findFirst_66 : decode cX3_findFirst 66 = .ok (.goto (-33), 3) := by decide +kernel
theorem dX3_findFirst_69 : decode cX3_findFirst 69 = .ok (.aload_n 0, 1) := by decide +kernel
theorem dX3_findFirst_70 : decode cX3_findFirst 70 = .ok (.getfield 60, 3) := by decide +kernel
theorem dX3_findFirst_73 : decode cX3_findFirst 73 = .ok (.ireturn, 1) := by decide +kernel
set_option maxRecDepth 20000 in
theorem ggX3_run_X2_size : GoodIn wsX3_run wsX2_size := goodIn_r _ [11, 12, 100, 101, 102] (by decide +kernel) (by decide +kernel)
set_option maxRecDepth 20000 in
theorem gX3_run_X2_size : GoodIn wsX3_run (wsV RX3 67 RX2 yX2_size wsX2_size) := goodIn_app (goodIn_of _ (by decide +kernel)) ggX3_run_X2_size
set_option maxRecDepth 20000 in
theorem ggX3_run_X3_readEdges : GoodIn wsX3_run wsX3_readEdges := goodIn_r _ [17, 1, 18, 19, 20, 21, 22, 23, 10, 24, 25, 26, 27, 28, 29, 12, 30, 31, 32, 33, 34, 35, 36, 37, 38, 39, 40, 41, 42, 16, 43, 44, 45, 46, 47, 48, 49, 50, 51, 52, 53, 54, 55, 56, 57, 58, 59, 60, 61, 87, 88, 89, 90, 91, 92, 93, 94, 95, 96, 97, 98, 99, 100, 101, 102, 103, 104, 105, 106] (by decide +kernel) (by decide +kernel)
set_option maxRecDepth 20000 in
theorem gX3_run_X3_readEdges : GoodIn wsX3_run (wsV RX3 72 RX3 yX3_readEdges wsX3_readEdges) := goodIn_app (goodIn_of _ (by decide +kernel)) ggX3_run_X3_readEdges
set_option maxRecDepth 20000 in
theorem ggX3_run_X3_fillFrom : GoodIn wsX3_run wsX3_fillFrom := goodIn_r _ [65, 18, 5, 1, 2, 6, 66, 4, 67, 3, 68, 69, 70, 33, 71, 72, 73, 74, 75, 76, 16, 77, 20, 78, 79, 80, 81, 82, 30, 31, 32, 34, 35, 36, 37, 38, 39, 7, 8, 9, 10, 11, 12, 83, 84, 85, 86, 19, 62, 63, 64, 87, 88, 89, 90, 91, 92, 93, 94, 95, 96, 97, 98, 99, 103, 104, 105, 106, 100, 101, 102] (by decide +kernel) (by decide +kernel)
set_option maxRecDepth 20000 in
theorem gX3_run_X3_fillFrom : GoodIn wsX3_run (wsV RX3 79 RX3 yX3_fillFrom wsX3_fillFrom) := goodIn_app (goodIn_of _ (by decide +kernel)) ggX3_run_X3_fillFrom
theorem dX3_run_0 : decode cX3_run 0 = .ok (.iconst 0, 1) := by decide +kernel
theorem dX3_run_1 : decode cX3_run 1 = .ok (.istore_n 2, 1) := by decide +kernel
theorem dX3_run_2 : decode cX3_run 2 = .ok (.iload_n 2, 1) := by decide +kernel
theorem dX3_run_3 : decode cX3_run 3 = .ok (.aload_n 0, 1) := by decide +kernel
theorem dX3_run_4 : decode cX3_run 4 = .ok (.getfield 35, 3) := by decide +kernel
theorem dX3_run_7 : decode cX3_run 7 = .ok (.invokevirtual 67, 3) := by decide +kernel
theorem dX3_run_10 : decode cX3_run 10 = .ok (.if_icmp .ge 21, 3) := by decide +kernel
theorem dX3_run_13 : decode cX3_run 13 = .ok (.aload_n 0, 1) := by decide +kernel
theorem dX3_run_14 : decode cX3_run 14 = .ok (.getfield 21, 3) := by decide +kernel
theorem dX3_run_17 : decode cX3_run 17 = .ok (.iload_n 2, 1) := by decide +kernel
theorem dX3_run_18 : decode cX3_run 18 = .ok (.iconst 0, 1) := by decide +kernel
theorem dX3_run_19 : decode cX3_run 19 = .ok (.bastore, 1) := by decide +kernel
theorem dX3_run_20 : decode cX3_run 20 = .ok (.aload_n 0, 1) := by decide +kernel
theorem dX3_run_21 : decode cX3_run 21 = .ok (.iload_n 2, 1) := by decide +kernel
theorem dX3_run_22 : decode cX3_run 22 = .ok (.invokevirtual 72, 3) := by decide +kernel
theorem dX3_run_25 : decode cX3_run 25 = .ok (.iinc 2 1, 3) := by decide +kernel
theorem dX3_run_28 : decode cX3_run 28 = .ok (.goto (-26), 3) := by decide +kernel
theorem dX3_run_31 : decode cX3_run 31 = .ok (.aload_n 0, 1) := by decide +kernel
theorem dX3_run_32 : decode cX3_run 32 = .ok (.iload_n 1, 1) := by decide +kernel
theorem dX3_run_33 : decode cX3_run 33 = .ok (.putfield 76, 3) := by decide +kernel
theorem dX3_run_36 : decode cX3_run 36 = .ok (.aload_n 0, 1) := by decide +kernel
theorem dX3_run_37 : decode cX3_run 37 = .ok (.iconst 0, 1) := by decide +kernel
theorem dX3_run_38 : decode cX3_run 38 = .ok (.putfield 57, 3) := by decide +kernel
theorem dX3_run_41 : decode cX3_run 41 = .ok (.aload_n 0, 1) := by decide +kernel
theorem dX3_run_42 : decode cX3_run 42 = .ok (.iconst 0, 1) := by decide +kernel
theorem dX3_run_43 : decode cX3_run 43 = .ok (.putfield 60, 3) := by decide +kernel
theorem dX3_run_46 : decode cX3_run 46 = .ok (.aload_n 0, 1) := by decide +kernel
theorem dX3_run_47 : decode cX3_run 47 = .ok (.iconst 0, 1) := by decide +kernel
theorem dX3_run_48 : decode cX3_run 48 = .ok (.putfield 39, 3) := by decide +kernel
theorem dX3_run_51 : decode cX3_run 51 = .ok (.aload_n 0, 1) := by decide +kernel
theorem dX3_run_52 : decode cX3_run 52 = .ok (.iconst 0, 1) := by decide +kernel
theorem dX3_run_53 : decode cX3_run 53 = .ok (.invokevirtual 79, 3) := by decide +kernel
theorem dX3_run_56 : decode cX3_run 56 = .ok (.return_, 1) := by decide +kernel
set_option maxRecDepth 20000 in
theorem ggX3_readEdges_X2_pieceAt : GoodIn wsX3_readEdges wsX2_pieceAt := goodIn_r _ [9, 10, 11, 12, 13, 8, 14, 15, 62, 63, 64] (by decide +kernel) (by decide +kernel)
set_option maxRecDepth 20000 in
theorem gX3_readEdges_X2_pieceAt : GoodIn wsX3_readEdges (wsV RX3 82 RX2 yX2_pieceAt wsX2_pieceAt) := goodIn_app (goodIn_of _ (by decide +kernel)) ggX3_readEdges_X2_pieceAt
set_option maxRecDepth 20000 in
theorem ggX3_readEdges_X1_isFlat : GoodIn wsX3_readEdges wsX1_isFlat := goodIn_r _ [20, 21, 22, 23, 19, 24, 25, 65, 66, 67, 68] (by decide +kernel) (by decide +kernel)
set_option maxRecDepth 20000 in
theorem gX3_readEdges_X1_isFlat : GoodIn wsX3_readEdges (wsV RX3 86 RX1 yX1_isFlat wsX1_isFlat) := goodIn_app (goodIn_of _ (by decide +kernel)) ggX3_readEdges_X1_isFlat
set_option maxRecDepth 20000 in
theorem ggX3_readEdges_X3_codeOf : GoodIn wsX3_readEdges wsX3_codeOf := goodIn_r _ [30, 2, 31, 32, 33, 19, 34, 21, 22, 23, 24, 25, 35, 36, 37, 38, 39, 49, 50, 51, 52, 53, 54, 55, 56, 57, 58, 59, 60, 61, 65, 66, 67, 68] (by decide +kernel) (by decide +kernel)
set_option maxRecDepth 20000 in
theorem gX3_readEdges_X3_codeOf : GoodIn wsX3_readEdges (wsV RX3 90 RX3 yX3_codeOf wsX3_codeOf) := goodIn_app (goodIn_of _ (by decide +kernel)) ggX3_readEdges_X3_codeOf
set_option maxRecDepth 20000 in
theorem ggX3_readEdges_X3_mateOf : GoodIn wsX3_readEdges wsX3_mateOf := goodIn_r _ [43, 2, 31, 32, 33, 19, 34, 21, 22, 23, 24, 25, 35, 36, 37, 38, 39, 49, 50, 51, 52, 53, 54, 55, 56, 57, 58, 59, 60, 61, 65, 66, 67, 68] (by decide +kernel) (by decide +kernel)
set_option maxRecDepth 20000 in
theorem gX3_readEdges_X3_mateOf : GoodIn wsX3_readEdges (wsV RX3 94 RX3 yX3_mateOf wsX3_mateOf) := goodIn_app (goodIn_of _ (by decide +kernel)) ggX3_readEdges_X3_mateOf
set_option maxRecDepth 20000 in
theorem ggX3_readEdges_X2_turnAt : GoodIn wsX3_readEdges wsX2_turnAt := goodIn_r _ [47, 48, 11, 12, 13, 8, 14, 15, 62, 63, 64] (by decide +kernel) (by decide +kernel)
set_option maxRecDepth 20000 in
theorem gX3_readEdges_X2_turnAt : GoodIn wsX3_readEdges (wsV RX3 97 RX2 yX2_turnAt wsX2_turnAt) := goodIn_app (goodIn_of _ (by decide +kernel)) ggX3_readEdges_X2_turnAt
theorem dX3_readEdges_0 : decode cX3_readEdges 0 = .ok (.aload_n 0, 1) := by decide +kernel
theorem dX3_readEdges_1 : decode cX3_readEdges 1 = .ok (.getfield 35, 3) := by decide +kernel
theorem dX3_readEdges_4 : decode cX3_readEdges 4 = .ok (.iload_n 1, 1) := by decide +kernel
theorem dX3_readEdges_5 : decode cX3_readEdges 5 = .ok (.invokevirtual 82, 3) := by decide +kernel
theorem dX3_readEdges_8 : decode cX3_readEdges 8 = .ok (.istore_n 2, 1) := by decide +kernel
theorem dX3_readEdges_9 : decode cX3_readEdges 9 = .ok (.iconst 0, 1) := by decide +kernel
theorem dX3_readEdges_10 : decode cX3_readEdges 10 = .ok (.istore_n 3, 1) := by decide +kernel
theorem dX3_readEdges_11 : decode cX3_readEdges 11 = .ok (.iload_n 3, 1) := by decide +kernel
theorem dX3_readEdges_12 : decode cX3_readEdges 12 = .ok (.iconst 4, 1) := by decide +kernel
theorem dX3_readEdges_13 : decode cX3_readEdges 13 = .ok (.if_icmp .ge 120, 3) := by decide +kernel
theorem dX3_readEdges_16 : decode cX3_readEdges 16 = .ok (.aload_n 0, 1) := by decide +kernel
theorem dX3_readEdges_17 : decode cX3_readEdges 17 = .ok (.getfield 31, 3) := by decide +kernel
theorem dX3_readEdges_20 : decode cX3_readEdges 20 = .ok (.iload_n 2, 1) := by decide +kernel
theorem dX3_readEdges_21 : decode cX3_readEdges 21 = .ok (.iload_n 3, 1) := by decide +kernel
theorem dX3_readEdges_22 : decode cX3_readEdges 22 = .ok (.invokevirtual 86, 3) := by decide +kernel
theorem dX3_readEdges_25 : decode cX3_readEdges 25 = .ok (.ifCond .eq 7, 3) := by decide +kernel
theorem dX3_readEdges_28 : decode cX3_readEdges 28 = .ok (.iconst (-1), 1) := by decide +kernel
theorem dX3_readEdges_29 : decode cX3_readEdges 29 = .ok (.goto 9, 3) := by decide +kernel
theorem dX3_readEdges_32 : decode cX3_readEdges 32 = .ok (.aload_n 0, 1) := by decide +kernel
theorem dX3_readEdges_33 : decode cX3_readEdges 33 = .ok (.iload_n 2, 1) := by decide +kernel
theorem dX3_readEdges_34 : decode cX3_readEdges 34 = .ok (.iload_n 3, 1) := by decide +kernel
theorem dX3_readEdges_35 : decode cX3_readEdges 35 = .ok (.invokevirtual 90, 3) := by decide +kernel
theorem dX3_readEdges_38 : decode cX3_readEdges 38 = .ok (.istore 4, 2) := by decide +kernel
theorem dX3_readEdges_40 : decode cX3_readEdges 40 = .ok (.aload_n 0, 1) := by decide +kernel
theorem dX3_readEdges_41 : decode cX3_readEdges 41 = .ok (.getfield 31, 3) := by decide +kernel
theorem dX3_readEdges_44 : decode cX3_readEdges 44 = .ok (.iload_n 2, 1) := by decide +kernel
theorem dX3_readEdges_45 : decode cX3_readEdges 45 = .ok (.iload_n 3, 1) := by decide +kernel
theorem dX3_readEdges_46 : decode cX3_readEdges 46 = .ok (.invokevirtual 86, 3) := by decide +kernel
theorem dX3_readEdges_49 : decode cX3_readEdges 49 = .ok (.ifCond .eq 7, 3) := by decide +kernel
theorem dX3_readEdges_52 : decode cX3_readEdges 52 = .ok (.iconst (-1), 1) := by decide +kernel
theorem dX3_readEdges_53 : decode cX3_readEdges 53 = .ok (.goto 9, 3) := by decide +kernel
theorem dX3_readEdges_56 : decode cX3_readEdges 56 = .ok (.aload_n 0, 1) := by decide +kernel
theorem dX3_readEdges_57 : decode cX3_readEdges 57 = .ok (.iload_n 2, 1) := by decide +kernel
theorem dX3_readEdges_58 : decode cX3_readEdges 58 = .ok (.iload_n 3, 1) := by decide +kernel
theorem dX3_readEdges_59 : decode cX3_readEdges 59 = .ok (.invokevirtual 94, 3) := by decide +kernel
theorem dX3_readEdges_62 : decode cX3_readEdges 62 = .ok (.istore 5, 2) := by decide +kernel
theorem dX3_readEdges_64 : decode cX3_readEdges 64 = .ok (.iconst 0, 1) := by decide +kernel
theorem dX3_readEdges_65 : decode cX3_readEdges 65 = .ok (.istore 6, 2) := by decide +kernel
theorem dX3_readEdges_67 : decode cX3_readEdges 67 = .ok (.iload 6, 2) := by decide +kernel
theorem dX3_readEdges_69 : decode cX3_readEdges 69 = .ok (.iconst 4, 1) := by decide +kernel
theorem dX3_readEdges_70 : decode cX3_readEdges 70 = .ok (.if_icmp .ge 57, 3) := by decide +kernel
theorem dX3_readEdges_73 : decode cX3_readEdges 73 = .ok (.iload_n 3, 1) := by decide +kernel
theorem dX3_readEdges_74 : decode cX3_readEdges 74 = .ok (.aload_n 0, 1) := by decide +kernel
theorem dX3_readEdges_75 : decode cX3_readEdges 75 = .ok (.getfield 35, 3) := by decide +kernel
theorem dX3_readEdges_78 : decode cX3_readEdges 78 = .ok (.iload_n 1, 1) := by decide +kernel
theorem dX3_readEdges_79 : decode cX3_readEdges 79 = .ok (.invokevirtual 97, 3) := by decide +kernel
theorem dX3_readEdges_82 : decode cX3_readEdges 82 = .ok (.iadd, 1) := by decide +kernel
theorem dX3_readEdges_83 : decode cX3_readEdges 83 = .ok (.iload 6, 2) := by decide +kernel
theorem dX3_readEdges_85 : decode cX3_readEdges 85 = .ok (.iadd, 1) := by decide +kernel
theorem dX3_readEdges_86 : decode cX3_readEdges 86 = .ok (.iconst 4, 1) := by decide +kernel
theorem dX3_readEdges_87 : decode cX3_readEdges 87 = .ok (.irem, 1) := by decide +kernel
theorem dX3_readEdges_88 : decode cX3_readEdges 88 = .ok (.istore 7, 2) := by decide +kernel
theorem dX3_readEdges_90 : decode cX3_readEdges 90 = .ok (.iload_n 1, 1) := by decide +kernel
theorem dX3_readEdges_91 : decode cX3_readEdges 91 = .ok (.iconst 4, 1) := by decide +kernel
theorem dX3_readEdges_92 : decode cX3_readEdges 92 = .ok (.imul, 1) := by decide +kernel
theorem dX3_readEdges_93 : decode cX3_readEdges 93 = .ok (.iload 6, 2) := by decide +kernel
theorem dX3_readEdges_95 : decode cX3_readEdges 95 = .ok (.iadd, 1) := by decide +kernel
theorem dX3_readEdges_96 : decode cX3_readEdges 96 = .ok (.iconst 4, 1) := by decide +kernel
theorem dX3_readEdges_97 : decode cX3_readEdges 97 = .ok (.imul, 1) := by decide +kernel
theorem dX3_readEdges_98 : decode cX3_readEdges 98 = .ok (.iload 7, 2) := by decide +kernel
theorem dX3_readEdges_100 : decode cX3_readEdges 100 = .ok (.iadd, 1) := by decide +kernel
theorem dX3_readEdges_101 : decode cX3_readEdges 101 = .ok (.istore 8, 2) := by decide +kernel
theorem dX3_readEdges_103 : decode cX3_readEdges 103 = .ok (.aload_n 0, 1) := by decide +kernel
theorem dX3_readEdges_104 : decode cX3_readEdges 104 = .ok (.getfield 9, 3) := by decide +kernel
theorem dX3_readEdges_107 : decode cX3_readEdges 107 = .ok (.iload 8, 2) := by decide +kernel
theorem dX3_readEdges_109 : decode cX3_readEdges 109 = .ok (.iload 4, 2) := by decide +kernel
theorem dX3_readEdges_111 : decode cX3_readEdges 111 = .ok (.iastore, 1) := by decide +kernel
theorem dX3_readEdges_112 : decode cX3_readEdges 112 = .ok (.aload_n 0, 1) := by decide +kernel
theorem dX3_readEdges_113 : decode cX3_readEdges 113 = .ok (.getfield 15, 3) := by decide +kernel
theorem dX3_readEdges_116 : decode cX3_readEdges 116 = .ok (.iload 8, 2) := by decide +kernel
theorem dX3_readEdges_118 : decode cX3_readEdges 118 = .ok (.iload 5, 2) := by decide +kernel
theorem dX3_readEdges_120 : decode cX3_readEdges 120 = .ok (.iastore, 1) := by decide +kernel
theorem dX3_readEdges_121 : decode cX3_readEdges 121 = .ok (.iinc 6 1, 3) := by decide +kernel
theorem dX3_readEdges_124 : decode cX3_readEdges 124 = .ok (.goto (-57), 3) := by decide +kernel
theorem dX3_readEdges_127 : decode cX3_readEdges 127 = .ok (.iinc 3 1, 3) := by decide +kernel
theorem dX3_readEdges_130 : decode cX3_readEdges 130 = .ok (.goto (-119), 3) := by decide +kernel
theorem dX3_readEdges_133 : decode cX3_readEdges 133 = .ok (.return_, 1) := by decide +kernel
set_option maxRecDepth 20000 in
theorem ggX3_codeOf_X1_edgeHeight : GoodIn wsX3_codeOf wsX1_edgeHeight := goodIn_r _ [6, 7, 8, 9, 5, 10, 11, 12, 13, 14, 15, 16, 30, 31, 32, 33] (by decide +kernel) (by decide +kernel)
set_option maxRecDepth 20000 in
theorem gX3_codeOf_X1_edgeHeight : GoodIn wsX3_codeOf (wsV RX3 100 RX1 yX1_edgeHeight wsX1_edgeHeight) := goodIn_app (goodIn_of _ (by decide +kernel)) ggX3_codeOf_X1_edgeHeight
theorem dX3_codeOf_0 : decode cX3_codeOf 0 = .ok (.iconst 0, 1) := by decide +kernel
theorem dX3_codeOf_1 : decode cX3_codeOf 1 = .ok (.istore_n 3, 1) := by decide +kernel
theorem dX3_codeOf_2 : decode cX3_codeOf 2 = .ok (.iconst 0, 1) := by decide +kernel
theorem dX3_codeOf_3 : decode cX3_codeOf 3 = .ok (.istore 4, 2) := by decide +kernel
theorem dX3_codeOf_5 : decode cX3_codeOf 5 = .ok (.iload 4, 2) := by decide +kernel
theorem dX3_codeOf_7 : decode cX3_codeOf 7 = .ok (.iconst 5, 1) := by decide +kernel
theorem dX3_codeOf_8 : decode cX3_codeOf 8 = .ok (.if_icmp .ge 29, 3) := by decide +kernel
theorem dX3_codeOf_11 : decode cX3_codeOf 11 = .ok (.iload_n 3, 1) := by decide +kernel
theorem dX3_codeOf_12 : decode cX3_codeOf 12 = .ok (.bipush 19, 2) := by decide +kernel
theorem dX3_codeOf_14 : decode cX3_codeOf 14 = .ok (.imul, 1) := by decide +kernel
theorem dX3_codeOf_15 : decode cX3_codeOf 15 = .ok (.bipush 9, 2) := by decide +kernel
theorem dX3_codeOf_17 : decode cX3_codeOf 17 = .ok (.iadd, 1) := by decide +kernel
theorem dX3_codeOf_18 : decode cX3_codeOf 18 = .ok (.aload_n 0, 1) := by decide +kernel
theorem dX3_codeOf_19 : decode cX3_codeOf 19 = .ok (.getfield 31, 3) := by decide +kernel
theorem dX3_codeOf_22 : decode cX3_codeOf 22 = .ok (.iload_n 1, 1) := by decide +kernel
theorem dX3_codeOf_23 : decode cX3_codeOf 23 = .ok (.iload_n 2, 1) := by decide +kernel
theorem dX3_codeOf_24 : decode cX3_codeOf 24 = .ok (.iload 4, 2) := by decide +kernel
theorem dX3_codeOf_26 : decode cX3_codeOf 26 = .ok (.invokevirtual 100, 3) := by decide +kernel
theorem dX3_codeOf_29 : decode cX3_codeOf 29 = .ok (.iadd, 1) := by decide +kernel
theorem dX3_codeOf_30 : decode cX3_codeOf 30 = .ok (.istore_n 3, 1) := by decide +kernel
theorem dX3_codeOf_31 : decode cX3_codeOf 31 = .ok (.iinc 4 1, 3) := by decide +kernel
theorem dX3_codeOf_34 : decode cX3_codeOf 34 = .ok (.goto (-29), 3) := by decide +kernel
theorem dX3_codeOf_37 : decode cX3_codeOf 37 = .ok (.iload_n 3, 1) := by decide +kernel
theorem dX3_codeOf_38 : decode cX3_codeOf 38 = .ok (.ireturn, 1) := by decide +kernel
set_option maxRecDepth 20000 in
theorem ggX3_mateOf_X1_edgeHeight : GoodIn wsX3_mateOf wsX1_edgeHeight := goodIn_r _ [6, 7, 8, 9, 5, 10, 11, 12, 13, 14, 15, 16, 30, 31, 32, 33] (by decide +kernel) (by decide +kernel)
set_option maxRecDepth 20000 in
theorem gX3_mateOf_X1_edgeHeight : GoodIn wsX3_mateOf (wsV RX3 100 RX1 yX1_edgeHeight wsX1_edgeHeight) := goodIn_app (goodIn_of _ (by decide +kernel)) ggX3_mateOf_X1_edgeHeight
theorem dX3_mateOf_0 : decode cX3_mateOf 0 = .ok (.iconst 0, 1) := by decide +kernel
theorem dX3_mateOf_1 : decode cX3_mateOf 1 = .ok (.istore_n 3, 1) := by decide +kernel
theorem dX3_mateOf_2 : decode cX3_mateOf 2 = .ok (.iconst 4, 1) := by decide +kernel
theorem dX3_mateOf_3 : decode cX3_mateOf 3 = .ok (.istore 4, 2) := by decide +kernel
theorem dX3_mateOf_5 : decode cX3_mateOf 5 = .ok (.iload 4, 2) := by decide +kernel
theorem dX3_mateOf_7 : decode cX3_mateOf 7 = .ok (.ifCond .lt 29, 3) := by decide +kernel
theorem dX3_mateOf_10 : decode cX3_mateOf 10 = .ok (.iload_n 3, 1) := by decide +kernel
theorem dX3_mateOf_11 : decode cX3_mateOf 11 = .ok (.bipush 19, 2) := by decide +kernel
theorem dX3_mateOf_13 : decode cX3_mateOf 13 = .ok (.imul, 1) := by decide +kernel
theorem dX3_mateOf_14 : decode cX3_mateOf 14 = .ok (.bipush 9, 2) := by decide +kernel
theorem dX3_mateOf_16 : decode cX3_mateOf 16 = .ok (.iadd, 1) := by decide +kernel
theorem dX3_mateOf_17 : decode cX3_mateOf 17 = .ok (.aload_n 0, 1) := by decide +kernel
theorem dX3_mateOf_18 : decode cX3_mateOf 18 = .ok (.getfield 31, 3) := by decide +kernel
theorem dX3_mateOf_21 : decode cX3_mateOf 21 = .ok (.iload_n 1, 1) := by decide +kernel
theorem dX3_mateOf_22 : decode cX3_mateOf 22 = .ok (.iload_n 2, 1) := by decide +kernel
theorem dX3_mateOf_23 : decode cX3_mateOf 23 = .ok (.iload 4, 2) := by decide +kernel
theorem dX3_mateOf_25 : decode cX3_mateOf 25 = .ok (.invokevirtual 100, 3) := by decide +kernel
theorem dX3_mateOf_28 : decode cX3_mateOf 28 = .ok (.isub, 1) := by decide +kernel
theorem dX3_mateOf_29 : decode cX3_mateOf 29 = .ok (.istore_n 3, 1) := by decide +kernel
theorem dX3_mateOf_30 : decode cX3_mateOf 30 = .ok (.iinc 4 (-1), 3) := by decide +kernel
theorem dX3_mateOf_33 : decode cX3_mateOf 33 = .ok (.goto (-28), 3) := by decide +kernel
theorem dX3_mateOf_36 : decode cX3_mateOf 36 = .ok (.iload_n 3, 1) := by decide +kernel
theorem dX3_mateOf_37 : decode cX3_mateOf 37 = .ok (.ireturn, 1) := by decide +kernel
set_option maxRecDepth 20000 in
theorem ggX3_fillFrom_X1_pieces : GoodIn wsX3_fillFrom wsX1_pieces := goodIn_r _ [14, 15, 16, 64, 65, 66, 67] (by decide +kernel) (by decide +kernel)
set_option maxRecDepth 20000 in
theorem gX3_fillFrom_X1_pieces : GoodIn wsX3_fillFrom (wsV RX3 63 RX1 yX1_pieces wsX1_pieces) := goodIn_app (goodIn_of _ (by decide +kernel)) ggX3_fillFrom_X1_pieces
set_option maxRecDepth 20000 in
theorem ggX3_fillFrom_X3_lookAround : GoodIn wsX3_fillFrom wsX3_lookAround := goodIn_r _ [21, 1, 22, 8, 23, 24, 25, 26, 13, 27, 15, 28, 29, 30, 31, 32, 33, 34, 35, 36, 51, 52, 53, 54, 55, 56, 57, 58, 59, 60, 61, 62, 63, 64, 65, 66, 67] (by decide +kernel) (by decide +kernel)
set_option maxRecDepth 20000 in
theorem gX3_fillFrom_X3_lookAround : GoodIn wsX3_fillFrom (wsV RX3 104 RX3 yX3_lookAround wsX3_lookAround) := goodIn_app (goodIn_of _ (by decide +kernel)) ggX3_fillFrom_X3_lookAround
set_option maxRecDepth 20000 in
theorem ggX3_fillFrom_X2_size : GoodIn wsX3_fillFrom wsX2_size := goodIn_r _ [41, 42, 68, 69, 70] (by decide +kernel) (by decide +kernel)
set_option maxRecDepth 20000 in
theorem gX3_fillFrom_X2_size : GoodIn wsX3_fillFrom (wsV RX3 67 RX2 yX2_size wsX2_size) := goodIn_app (goodIn_of _ (by decide +kernel)) ggX3_fillFrom_X2_size
set_option maxRecDepth 20000 in
theorem ggX3_fillFrom_X3_fits : GoodIn wsX3_fillFrom wsX3_fits := goodIn_r _ [46, 23, 47, 8, 51, 52, 53, 54, 55, 56, 57, 58, 59, 60, 61, 62, 63] (by decide +kernel) (by decide +kernel)
set_option maxRecDepth 20000 in
theorem gX3_fillFrom_X3_fits : GoodIn wsX3_fillFrom (wsV RX3 108 RX3 yX3_fits wsX3_fits) := goodIn_app (goodIn_of _ (by decide +kernel)) ggX3_fillFrom_X3_fits
set_option maxRecDepth 20000 in
theorem ggX3_fillFrom_X3_fillFrom : GoodIn wsX3_fillFrom wsX3_fillFrom := goodIn_r _ [0, 1, 2, 3, 4, 5, 6, 7, 8, 9, 10, 11, 12, 13, 14, 15, 16, 17, 18, 19, 20, 21, 22, 23, 24, 25, 26, 27, 28, 29, 30, 31, 32, 33, 34, 35, 36, 37, 38, 39, 40, 41, 42, 43, 44, 45, 46, 47, 48, 49, 50, 51, 52, 53, 54, 55, 56, 57, 58, 59, 60, 61, 62, 63, 64, 65, 66, 67, 68, 69, 70] (by decide +kernel) (by decide +kernel)
set_option maxRecDepth 20000 in
theorem gX3_fillFrom_X3_fillFrom : GoodIn wsX3_fillFrom (wsV RX3 79 RX3 yX3_fillFrom wsX3_fillFrom) := goodIn_app (goodIn_of _ (by decide +kernel)) ggX3_fillFrom_X3_fillFrom
theorem dX3_fillFrom_0 : decode cX3_fillFrom 0 = .ok (.iload_n 1, 1) := by decide +kernel
theorem dX3_fillFrom_1 : decode cX3_fillFrom 1 = .ok (.aload_n 0, 1) := by decide +kernel
theorem dX3_fillFrom_2 : decode cX3_fillFrom 2 = .ok (.getfield 31, 3) := by decide +kernel
theorem dX3_fillFrom_5 : decode cX3_fillFrom 5 = .ok (.invokevirtual 63, 3) := by decide +kernel
theorem dX3_fillFrom_8 : decode cX3_fillFrom 8 = .ok (.if_icmp .lt 14, 3) := by decide +kernel
theorem dX3_fillFrom_11 : decode cX3_fillFrom 11 = .ok (.aload_n 0, 1) := by decide +kernel
theorem dX3_fillFrom_12 : decode cX3_fillFrom 12 = .ok (.dup, 1) := by decide +kernel
theorem dX3_fillFrom_13 : decode cX3_fillFrom 13 = .ok (.getfield 60, 3) := by decide +kernel
theorem dX3_fillFrom_16 : decode cX3_fillFrom 16 = .ok (.iconst 1, 1) := by decide +kernel
theorem dX3_fillFrom_17 : decode cX3_fillFrom 17 = .ok (.iadd, 1) := by decide +kernel
theorem dX3_fillFrom_18 : decode cX3_fillFrom 18 = .ok (.putfield 60, 3) := by decide +kernel
theorem dX3_fillFrom_21 : decode cX3_fillFrom 21 = .ok (.return_, 1) := by decide +kernel
theorem dX3_fillFrom_22 : decode cX3_fillFrom 22 = .ok (.aload_n 0, 1) := by decide +kernel
theorem dX3_fillFrom_23 : decode cX3_fillFrom 23 = .ok (.iload_n 1, 1) := by decide +kernel
theorem dX3_fillFrom_24 : decode cX3_fillFrom 24 = .ok (.invokevirtual 104, 3) := by decide +kernel
theorem dX3_fillFrom_27 : decode cX3_fillFrom 27 = .ok (.iconst 0, 1) := by decide +kernel
theorem dX3_fillFrom_28 : decode cX3_fillFrom 28 = .ok (.istore_n 2, 1) := by decide +kernel
theorem dX3_fillFrom_29 : decode cX3_fillFrom 29 = .ok (.iload_n 2, 1) := by decide +kernel
theorem dX3_fillFrom_30 : decode cX3_fillFrom 30 = .ok (.aload_n 0, 1) := by decide +kernel
theorem dX3_fillFrom_31 : decode cX3_fillFrom 31 = .ok (.getfield 35, 3) := by decide +kernel
theorem dX3_fillFrom_34 : decode cX3_fillFrom 34 = .ok (.invokevirtual 67, 3) := by decide +kernel
theorem dX3_fillFrom_37 : decode cX3_fillFrom 37 = .ok (.if_icmp .ge 118, 3) := by decide +kernel
theorem dX3_fillFrom_40 : decode cX3_fillFrom 40 = .ok (.iconst 0, 1) := by decide +kernel
theorem dX3_fillFrom_41 : decode cX3_fillFrom 41 = .ok (.istore_n 3, 1) := by decide +kernel
theorem dX3_fillFrom_42 : decode cX3_fillFrom 42 = .ok (.iload_n 3, 1) := by decide +kernel
theorem dX3_fillFrom_43 : decode cX3_fillFrom 43 = .ok (.iconst 4, 1) := by decide +kernel
theorem dX3_fillFrom_44 : decode cX3_fillFrom 44 = .ok (.if_icmp .ge 105, 3) := by decide +kernel
theorem dX3_fillFrom_47 : decode cX3_fillFrom 47 = .ok (.aload_n 0, 1) := by decide +kernel
theorem dX3_fillFrom_48 : decode cX3_fillFrom 48 = .ok (.getfield 21, 3) := by decide +kernel
theorem dX3_fillFrom_51 : decode cX3_fillFrom 51 = .ok (.iload_n 2, 1) := by decide +kernel
theorem dX3_fillFrom_52 : decode cX3_fillFrom 52 = .ok (.baload, 1) := by decide +kernel
theorem dX3_fillFrom_53 : decode cX3_fillFrom 53 = .ok (.ifCond .ne 96, 3) := by decide +kernel
theorem dX3_fillFrom_56 : decode cX3_fillFrom 56 = .ok (.aload_n 0, 1) := by decide +kernel
theorem dX3_fillFrom_57 : decode cX3_fillFrom 57 = .ok (.getfield 39, 3) := by decide +kernel
theorem dX3_fillFrom_60 : decode cX3_fillFrom 60 = .ok (.ldc 107, 2) := by decide +kernel
theorem dX3_fillFrom_62 : decode cX3_fillFrom 62 = .ok (.if_icmp .lt 9, 3) := by decide +kernel
theorem dX3_fillFrom_65 : decode cX3_fillFrom 65 = .ok (.aload_n 0, 1) := by decide +kernel
theorem dX3_fillFrom_66 : decode cX3_fillFrom 66 = .ok (.iconst 1, 1) := by decide +kernel
theorem dX3_fillFrom_67 : decode cX3_fillFrom 67 = .ok (.putfield 57, 3) := by decide +kernel
theorem dX3_fillFrom_70 : decode cX3_fillFrom 70 = .ok (.return_, 1) := by decide +kernel
theorem dX3_fillFrom_71 : decode cX3_fillFrom 71 = .ok (.aload_n 0, 1) := by decide +kernel
theorem dX3_fillFrom_72 : decode cX3_fillFrom 72 = .ok (.dup, 1) := by decide +kernel
theorem dX3_fillFrom_73 : decode cX3_fillFrom 73 = .ok (.getfield 39, 3) := by decide +kernel
theorem dX3_fillFrom_76 : decode cX3_fillFrom 76 = .ok (.iconst 1, 1) := by decide +kernel
theorem dX3_fillFrom_77 : decode cX3_fillFrom 77 = .ok (.iadd, 1) := by decide +kernel
theorem dX3_fillFrom_78 : decode cX3_fillFrom 78 = .ok (.putfield 39, 3) := by decide +kernel
theorem dX3_fillFrom_81 : decode cX3_fillFrom 81 = .ok (.aload_n 0, 1) := by decide +kernel
theorem dX3_fillFrom_82 : decode cX3_fillFrom 82 = .ok (.getfield 25, 3) := by decide +kernel
theorem dX3_fillFrom_85 : decode cX3_fillFrom 85 = .ok (.iload_n 1, 1) := by decide +kernel
theorem dX3_fillFrom_86 : decode cX3_fillFrom 86 = .ok (.iload_n 2, 1) := by decide +kernel
theorem dX3_fillFrom_87 : decode cX3_fillFrom 87 = .ok (.iconst 4, 1) := by decide +kernel
theorem dX3_fillFrom_88 : decode cX3_fillFrom 88 = .ok (.imul, 1) := by decide +kernel
theorem dX3_fillFrom_89 : decode cX3_fillFrom 89 = .ok (.iload_n 3, 1) := by decide +kernel
theorem dX3_fillFrom_90 : decode cX3_fillFrom 90 = .ok (.iadd, 1) := by decide +kernel
theorem dX3_fillFrom_91 : decode cX3_fillFrom 91 = .ok (.iastore, 1) := by decide +kernel
theorem dX3_fillFrom_92 : decode cX3_fillFrom 92 = .ok (.aload_n 0, 1) := by decide +kernel
theorem dX3_fillFrom_93 : decode cX3_fillFrom 93 = .ok (.iload_n 1, 1) := by decide +kernel
theorem dX3_fillFrom_94 : decode cX3_fillFrom 94 = .ok (.invokevirtual 108, 3) := by decide +kernel
theorem dX3_fillFrom_97 : decode cX3_fillFrom 97 = .ok (.ifCond .eq 24, 3) := by decide +kernel
theorem dX3_fillFrom_100 : decode cX3_fillFrom 100 = .ok (.aload_n 0, 1) := by decide +kernel
theorem dX3_fillFrom_101 : decode cX3_fillFrom 101 = .ok (.getfield 21, 3) := by decide +kernel
theorem dX3_fillFrom_104 : decode cX3_fillFrom 104 = .ok (.iload_n 2, 1) := by decide +kernel
theorem dX3_fillFrom_105 : decode cX3_fillFrom 105 = .ok (.iconst 1, 1) := by decide +kernel
theorem dX3_fillFrom_106 : decode cX3_fillFrom 106 = .ok (.bastore, 1) := by decide +kernel
theorem dX3_fillFrom_107 : decode cX3_fillFrom 107 = .ok (.aload_n 0, 1) := by decide +kernel
theorem dX3_fillFrom_108 : decode cX3_fillFrom 108 = .ok (.iload_n 1, 1) := by decide +kernel
theorem dX3_fillFrom_109 : decode cX3_fillFrom 109 = .ok (.iconst 1, 1) := by decide +kernel
theorem dX3_fillFrom_110 : decode cX3_fillFrom 110 = .ok (.iadd, 1) := by decide +kernel
theorem dX3_fillFrom_111 : decode cX3_fillFrom 111 = .ok (.invokevirtual 79, 3) := by decide +kernel
theorem dX3_fillFrom_114 : decode cX3_fillFrom 114 = .ok (.aload_n 0, 1) := by decide +kernel
theorem dX3_fillFrom_115 : decode cX3_fillFrom 115 = .ok (.getfield 21, 3) := by decide +kernel
theorem dX3_fillFrom_118 : decode cX3_fillFrom 118 = .ok (.iload_n 2, 1) := by decide +kernel
theorem dX3_fillFrom_119 : decode cX3_fillFrom 119 = .ok (.iconst 0, 1) := by decide +kernel
theorem dX3_fillFrom_120 : decode cX3_fillFrom 120 = .ok (.bastore, 1) := by decide +kernel
theorem dX3_fillFrom_121 : decode cX3_fillFrom 121 = .ok (.aload_n 0, 1) := by decide +kernel
theorem dX3_fillFrom_122 : decode cX3_fillFrom 122 = .ok (.getfield 57, 3) := by decide +kernel
theorem dX3_fillFrom_125 : decode cX3_fillFrom 125 = .ok (.ifCond .ne 17, 3) := by decide +kernel
theorem dX3_fillFrom_128 : decode cX3_fillFrom 128 = .ok (.aload_n 0, 1) := by decide +kernel
theorem dX3_fillFrom_129 : decode cX3_fillFrom 129 = .ok (.getfield 76, 3) := by decide +kernel
theorem dX3_fillFrom_132 : decode cX3_fillFrom 132 = .ok (.ifCond .eq 11, 3) := by decide +kernel
theorem dX3_fillFrom_135 : decode cX3_fillFrom 135 = .ok (.aload_n 0, 1) := by decide +kernel
theorem dX3_fillFrom_136 : decode cX3_fillFrom 136 = .ok (.getfield 60, 3) := by decide +kernel
theorem dX3_fillFrom_139 : decode cX3_fillFrom 139 = .ok (.ifCond .le 4, 3) := by decide +kernel
theorem dX3_fillFrom_142 : decode cX3_fillFrom 142 = .ok (.return_, 1) := by decide +kernel
theorem dX3_fillFrom_143 : decode cX3_fillFrom 143 = .ok (.iinc 3 1, 3) := by decide +kernel
theorem dX3_fillFrom_146 : decode cX3_fillFrom 146 = .ok (.goto (-104), 3) := by decide +kernel
theorem dX3_fillFrom_149 : decode cX3_fillFrom 149 = .ok (.iinc 2 1, 3) := by decide +kernel
theorem dX3_fillFrom_152 : decode cX3_fillFrom 152 = .ok (.goto (-123), 3) := by decide +kernel
theorem dX3_fillFrom_155 : decode cX3_fillFrom 155 = .ok (.return_, 1) := by decide +kernel
set_option maxRecDepth 20000 in
theorem ggX3_lookAround_X1_nextTo : GoodIn wsX3_lookAround wsX1_nextTo := goodIn_r _ [9, 10, 33, 34, 35, 36] (by decide +kernel) (by decide +kernel)
set_option maxRecDepth 20000 in
theorem gX3_lookAround_X1_nextTo : GoodIn wsX3_lookAround (wsV RX3 111 RX1 yX1_nextTo wsX1_nextTo) := goodIn_app (goodIn_of _ (by decide +kernel)) ggX3_lookAround_X1_nextTo
set_option maxRecDepth 20000 in
theorem ggX3_lookAround_X1_isFlat : GoodIn wsX3_lookAround wsX1_isFlat := goodIn_r _ [14, 15, 16, 17, 8, 18, 19, 33, 34, 35, 36] (by decide +kernel) (by decide +kernel)
set_option maxRecDepth 20000 in
theorem gX3_lookAround_X1_isFlat : GoodIn wsX3_lookAround (wsV RX3 86 RX1 yX1_isFlat wsX1_isFlat) := goodIn_app (goodIn_of _ (by decide +kernel)) ggX3_lookAround_X1_isFlat
theorem dX3_lookAround_0 : decode cX3_lookAround 0 = .ok (.iconst 0, 1) := by decide +kernel
theorem dX3_lookAround_1 : decode cX3_lookAround 1 = .ok (.istore_n 2, 1) := by decide +kernel
theorem dX3_lookAround_2 : decode cX3_lookAround 2 = .ok (.iload_n 2, 1) := by decide +kernel
theorem dX3_lookAround_3 : decode cX3_lookAround 3 = .ok (.iconst 4, 1) := by decide +kernel
theorem dX3_lookAround_4 : decode cX3_lookAround 4 = .ok (.if_icmp .ge 83, 3) := by decide +kernel
theorem dX3_lookAround_7 : decode cX3_lookAround 7 = .ok (.aload_n 0, 1) := by decide +kernel
theorem dX3_lookAround_8 : decode cX3_lookAround 8 = .ok (.getfield 31, 3) := by decide +kernel
theorem dX3_lookAround_11 : decode cX3_lookAround 11 = .ok (.iload_n 1, 1) := by decide +kernel
theorem dX3_lookAround_12 : decode cX3_lookAround 12 = .ok (.iload_n 2, 1) := by decide +kernel
theorem dX3_lookAround_13 : decode cX3_lookAround 13 = .ok (.invokevirtual 111, 3) := by decide +kernel
theorem dX3_lookAround_16 : decode cX3_lookAround 16 = .ok (.istore_n 3, 1) := by decide +kernel
theorem dX3_lookAround_17 : decode cX3_lookAround 17 = .ok (.bipush (-2), 2) := by decide +kernel
theorem dX3_lookAround_19 : decode cX3_lookAround 19 = .ok (.istore 4, 2) := by decide +kernel
theorem dX3_lookAround_21 : decode cX3_lookAround 21 = .ok (.aload_n 0, 1) := by decide +kernel
theorem dX3_lookAround_22 : decode cX3_lookAround 22 = .ok (.getfield 31, 3) := by decide +kernel
theorem dX3_lookAround_25 : decode cX3_lookAround 25 = .ok (.iload_n 1, 1) := by decide +kernel
theorem dX3_lookAround_26 : decode cX3_lookAround 26 = .ok (.iload_n 2, 1) := by decide +kernel
theorem dX3_lookAround_27 : decode cX3_lookAround 27 = .ok (.invokevirtual 86, 3) := by decide +kernel
theorem dX3_lookAround_30 : decode cX3_lookAround 30 = .ok (.ifCond .eq 9, 3) := by decide +kernel
theorem dX3_lookAround_33 : decode cX3_lookAround 33 = .ok (.iconst (-1), 1) := by decide +kernel
theorem dX3_lookAround_34 : decode cX3_lookAround 34 = .ok (.istore 4, 2) := by decide +kernel
theorem dX3_lookAround_36 : decode cX3_lookAround 36 = .ok (.goto 33, 3) := by decide +kernel
theorem dX3_lookAround_39 : decode cX3_lookAround 39 = .ok (.iload_n 3, 1) := by decide +kernel
theorem dX3_lookAround_40 : decode cX3_lookAround 40 = .ok (.ifCond .lt 29, 3) := by decide +kernel
theorem dX3_lookAround_43 : decode cX3_lookAround 43 = .ok (.iload_n 3, 1) := by decide +kernel
theorem dX3_lookAround_44 : decode cX3_lookAround 44 = .ok (.iload_n 1, 1) := by decide +kernel
theorem dX3_lookAround_45 : decode cX3_lookAround 45 = .ok (.if_icmp .ge 24, 3) := by decide +kernel
theorem dX3_lookAround_48 : decode cX3_lookAround 48 = .ok (.aload_n 0, 1) := by decide +kernel
theorem dX3_lookAround_49 : decode cX3_lookAround 49 = .ok (.getfield 15, 3) := by decide +kernel
theorem dX3_lookAround_52 : decode cX3_lookAround 52 = .ok (.aload_n 0, 1) := by decide +kernel
theorem dX3_lookAround_53 : decode cX3_lookAround 53 = .ok (.getfield 25, 3) := by decide +kernel
theorem dX3_lookAround_56 : decode cX3_lookAround 56 = .ok (.iload_n 3, 1) := by decide +kernel
theorem dX3_lookAround_57 : decode cX3_lookAround 57 = .ok (.iaload, 1) := by decide +kernel
theorem dX3_lookAround_58 : decode cX3_lookAround 58 = .ok (.iconst 4, 1) := by decide +kernel
theorem dX3_lookAround_59 : decode cX3_lookAround 59 = .ok (.imul, 1) := by decide +kernel
theorem dX3_lookAround_60 : decode cX3_lookAround 60 = .ok (.iload_n 2, 1) := by decide +kernel
theorem dX3_lookAround_61 : decode cX3_lookAround 61 = .ok (.iconst 2, 1) := by decide +kernel
theorem dX3_lookAround_62 : decode cX3_lookAround 62 = .ok (.iadd, 1) := by decide +kernel
theorem dX3_lookAround_63 : decode cX3_lookAround 63 = .ok (.iconst 4, 1) := by decide +kernel
theorem dX3_lookAround_64 : decode cX3_lookAround 64 = .ok (.irem, 1) := by decide +kernel
theorem dX3_lookAround_65 : decode cX3_lookAround 65 = .ok (.iadd, 1) := by decide +kernel
theorem dX3_lookAround_66 : decode cX3_lookAround 66 = .ok (.iaload, 1) := by decide +kernel
theorem dX3_lookAround_67 : decode cX3_lookAround 67 = .ok (.istore 4, 2) := by decide +kernel
theorem dX3_lookAround_69 : decode cX3_lookAround 69 = .ok (.aload_n 0, 1) := by decide +kernel
theorem dX3_lookAround_70 : decode cX3_lookAround 70 = .ok (.getfield 18, 3) := by decide +kernel
theorem dX3_lookAround_73 : decode cX3_lookAround 73 = .ok (.iload_n 1, 1) := by decide +kernel
theorem dX3_lookAround_74 : decode cX3_lookAround 74 = .ok (.iconst 4, 1) := by decide +kernel
theorem dX3_lookAround_75 : decode cX3_lookAround 75 = .ok (.imul, 1) := by decide +kernel
theorem dX3_lookAround_76 : decode cX3_lookAround 76 = .ok (.iload_n 2, 1) := by decide +kernel
theorem dX3_lookAround_77 : decode cX3_lookAround 77 = .ok (.iadd, 1) := by decide +kernel
theorem dX3_lookAround_78 : decode cX3_lookAround 78 = .ok (.iload 4, 2) := by decide +kernel
theorem dX3_lookAround_80 : decode cX3_lookAround 80 = .ok (.iastore, 1) := by decide +kernel
theorem dX3_lookAround_81 : decode cX3_lookAround 81 = .ok (.iinc 2 1, 3) := by decide +kernel
theorem dX3_lookAround_84 : decode cX3_lookAround 84 = .ok (.goto (-82), 3) := by decide +kernel
theorem dX3_lookAround_87 : decode cX3_lookAround 87 = .ok (.return_, 1) := by decide +kernel
theorem dX3_fits_0 : decode cX3_fits 0 = .ok (.iconst 0, 1) := by decide +kernel
theorem dX3_fits_1 : decode cX3_fits 1 = .ok (.istore_n 2, 1) := by decide +kernel
theorem dX3_fits_2 : decode cX3_fits 2 = .ok (.iload_n 2, 1) := by decide +kernel
theorem dX3_fits_3 : decode cX3_fits 3 = .ok (.iconst 4, 1) := by decide +kernel
theorem dX3_fits_4 : decode cX3_fits 4 = .ok (.if_icmp .ge 60, 3) := by decide +kernel
theorem dX3_fits_7 : decode cX3_fits 7 = .ok (.aload_n 0, 1) := by decide +kernel
theorem dX3_fits_8 : decode cX3_fits 8 = .ok (.getfield 18, 3) := by decide +kernel
theorem dX3_fits_11 : decode cX3_fits 11 = .ok (.iload_n 1, 1) := by decide +kernel
theorem dX3_fits_12 : decode cX3_fits 12 = .ok (.iconst 4, 1) := by decide +kernel
theorem dX3_fits_13 : decode cX3_fits 13 = .ok (.imul, 1) := by decide +kernel
theorem dX3_fits_14 : decode cX3_fits 14 = .ok (.iload_n 2, 1) := by decide +kernel
theorem dX3_fits_15 : decode cX3_fits 15 = .ok (.iadd, 1) := by decide +kernel
theorem dX3_fits_16 : decode cX3_fits 16 = .ok (.iaload, 1) := by decide +kernel
theorem dX3_fits_17 : decode cX3_fits 17 = .ok (.istore_n 3, 1) := by decide +kernel
theorem dX3_fits_18 : decode cX3_fits 18 = .ok (.aload_n 0, 1) := by decide +kernel
theorem dX3_fits_19 : decode cX3_fits 19 = .ok (.getfield 9, 3) := by decide +kernel
theorem dX3_fits_22 : decode cX3_fits 22 = .ok (.aload_n 0, 1) := by decide +kernel
theorem dX3_fits_23 : decode cX3_fits 23 = .ok (.getfield 25, 3) := by decide +kernel
theorem dX3_fits_26 : decode cX3_fits 26 = .ok (.iload_n 1, 1) := by decide +kernel
theorem dX3_fits_27 : decode cX3_fits 27 = .ok (.iaload, 1) := by decide +kernel
theorem dX3_fits_28 : decode cX3_fits 28 = .ok (.iconst 4, 1) := by decide +kernel
theorem dX3_fits_29 : decode cX3_fits 29 = .ok (.imul, 1) := by decide +kernel
theorem dX3_fits_30 : decode cX3_fits 30 = .ok (.iload_n 2, 1) := by decide +kernel
theorem dX3_fits_31 : decode cX3_fits 31 = .ok (.iadd, 1) := by decide +kernel
theorem dX3_fits_32 : decode cX3_fits 32 = .ok (.iaload, 1) := by decide +kernel
theorem dX3_fits_33 : decode cX3_fits 33 = .ok (.istore 4, 2) := by decide +kernel
theorem dX3_fits_35 : decode cX3_fits 35 = .ok (.iload_n 3, 1) := by decide +kernel
theorem dX3_fits_36 : decode cX3_fits 36 = .ok (.bipush (-2), 2) := by decide +kernel
theorem dX3_fits_38 : decode cX3_fits 38 = .ok (.if_icmp .ne 12, 3) := by decide +kernel
theorem dX3_fits_41 : decode cX3_fits 41 = .ok (.iload 4, 2) := by decide +kernel
theorem dX3_fits_43 : decode cX3_fits 43 = .ok (.iconst (-1), 1) := by decide +kernel
theorem dX3_fits_44 : decode cX3_fits 44 = .ok (.if_icmp .ne 14, 3) := by decide +kernel
theorem dX3_fits_47 : decode cX3_fits 47 = .ok (.goto 9, 3) := by decide +kernel
theorem dX3_fits_50 : decode cX3_fits 50 = .ok (.iload 4, 2) := by decide +kernel
theorem dX3_fits_52 : decode cX3_fits 52 = .ok (.iload_n 3, 1) := by decide +kernel
theorem dX3_fits_53 : decode cX3_fits 53 = .ok (.if_icmp .eq 5, 3) := by decide +kernel
theorem dX3_fits_56 : decode cX3_fits 56 = .ok (.iconst 0, 1) := by decide +kernel
theorem dX3_fits_57 : decode cX3_fits 57 = .ok (.ireturn, 1) := by decide +kernel
theorem dX3_fits_58 : decode cX3_fits 58 = .ok (.iinc 2 1, 3) := by decide +kernel
theorem dX3_fits_61 : decode cX3_fits 61 = .ok (.goto (-59), 3) := by decide +kernel
theorem dX3_fits_64 : decode cX3_fits 64 = .ok (.iconst 1, 1) := by decide +kernel
theorem dX3_fits_65 : decode cX3_fits 65 = .ok (.ireturn, 1) := by decide +kernel
end
section
/-! the search's tables -/
def shV (W h : Int) (hs pc tn : Int → Int) (v d : Int) : Int := if sdI W h (pc (v / 4)) (edI tn v d) = -9 then -1 else coI W h hs (pc (v / 4)) (edI tn v d)
def fiV (W h : Int) (hs pc tn : Int → Int) (v d : Int) : Int := if sdI W h (pc (v / 4)) (edI tn v d) = -9 then -1 else maI W h hs (pc (v / 4)) (edI tn v d)
def okN (g : Int → Int) (f0 f : Int → Int) (i T e t : Int) : Prop := (∀ e' t' : Int, 0 ≤ e' ∧ e' < 4 → 0 ≤ t' ∧ t' < 4 → (e' < e ∨ (e' = e ∧ t' < t)) → f ((i * 4 + t') * 4 + (e' + T + t') % 4) = g e') ∧ ∀ j : Int, ¬ (i * 16 ≤ j ∧ j < i * 16 + 16) → f j = f0 j
theorem okN_0 (g f0 : Int → Int) (i T : Int) : okN g f0 f0 i T 0 0 := ⟨fun e' t' h1 h2 h3 => by omega, fun _ _ => rfl⟩
theorem okN_s {g f0 f : Int → Int} {i T e t v : Int} (hT : 0 ≤ T ∧ T < 4) (he : 0 ≤ e ∧ e < 4) (ht : 0 ≤ t ∧ t < 4) (hv : v = g e) (q : okN g f0 f i T e t) : okN g f0 (uI f ((i * 4 + t) * 4 + (e + T + t) % 4) v) i T e (t + 1) := by
  refine ⟨fun e' t' h1 h2 h3 => ?_, fun j hj => ?_⟩
  · by_cases z : e' = e ∧ t' = t
    · obtain ⟨rfl, rfl⟩ := z
      rw [uI_eq, hv]
    · rw [uI_ne (by omega)]
      exact q.1 e' t' h1 h2 (by omega)
  · rw [uI_ne (by omega)]
    exact q.2 j hj
theorem okN_e {g f0 f : Int → Int} {i T e t : Int} (ht : 4 ≤ t) (q : okN g f0 f i T e t) : okN g f0 f i T (e + 1) 0 := ⟨fun e' t' h1 h2 h3 => q.1 e' t' h1 h2 (by omega), q.2⟩
theorem okN_f {g f0 f : Int → Int} {i T e : Int} (hT : 0 ≤ T ∧ T < 4) (he : 4 ≤ e) (q : okN g f0 f i T e 0) {t d : Int} (ht : 0 ≤ t ∧ t < 4) (hd : 0 ≤ d ∧ d < 4) : f ((i * 4 + t) * 4 + d) = g ((d + 8 - T - t) % 4) := by
  have h := q.1 ((d + 8 - T - t) % 4) t (by omega) ht (by omega)
  rw [show ((d + 8 - T - t) % 4 + T + t) % 4 = d by omega] at h
  exact h
def laI (wa : Int → Int) (k : Int) (g : Int → Int) (i : Int) : Int → Int := fun j => if k * 4 ≤ j ∧ j < k * 4 + i then g (j - k * 4) else wa j
theorem laI_0 (wa : Int → Int) (k : Int) (g : Int → Int) : laI wa k g 0 = wa := by
  funext j
  exact if_neg (by omega)
theorem laI_s {wa g : Int → Int} {k i v : Int} (h : 0 ≤ i) (hv : v = g i) : uI (laI wa k g i) (k * 4 + i) v = laI wa k g (i + 1) := by
  funext j
  unfold uI laI
  by_cases e : j = k * 4 + i
  · rw [if_pos e, if_pos (by omega), hv, show j - k * 4 = i by omega]
  · rw [if_neg e]
    by_cases q : k * 4 ≤ j ∧ j < k * 4 + i
    · rw [if_pos q, if_pos (by omega)]
    · rw [if_neg q, if_neg (by omega)]
def waV (W h : Int) (fi ly : Int → Int) (k d : Int) : Int := if sdI W h k d = -9 then -1 else if 0 ≤ nxI W k d ∧ nxI W k d < k then fi (ly (nxI W k d) * 4 + (d + 2) % 4) else -2
theorem nxI_b {W p e : Int} (hW : 1 ≤ W ∧ W ≤ 5) : p - 5 ≤ nxI W p e ∧ nxI W p e ≤ p + 5 := by unfold nxI; (repeat' split) <;> omega
def okD (wa sh : Int → Int) (v k d : Int) : Prop := (wa (k * 4 + d) = -2 ∧ sh (v * 4 + d) ≠ -1) ∨ (wa (k * 4 + d) ≠ -2 ∧ sh (v * 4 + d) = wa (k * 4 + d))
end
section
theorem lX3_joinedFrom_28 : Cond.fieldLink RX3 28 (TX3 7).1 (TX3 7).2.1 (TX3 7).2.2.1 ∈ wsX3_joinedFrom := by decide +kernel
theorem lX3_joinedFrom_31 : Cond.fieldLink RX3 31 (TX3 0).1 (TX3 0).2.1 (TX3 0).2.2.1 ∈ wsX3_joinedFrom := by decide +kernel
theorem iX3_joinedFrom_X3 : ∀ w ∈ u_ws RX3 TX3 13, w ∈ wsX3_joinedFrom := by decide +kernel
set_option maxHeartbeats 4000000 in
set_option maxRecDepth 100000 in
theorem k_X3_joinedFrom (E : gE) (l : Launch) {a_L a_P a_R a_fi a_hs a_jl a_ly a_se a_sh a_us a_wa : Nat} {W h z : Int} {jl : Int → Int} {jo fo sp fd tc : Int} (hB : 1 ≤ W ∧ W ≤ 5 ∧ 1 ≤ h ∧ h ≤ 5) (hz : 0 ≤ z ∧ z < W * h) (hjl : 0 ≤ jl z ∧ jl z < 100) : gFun E l yX3_joinedFrom wsX3_joinedFrom { frames := 2, cells := 0, slots := 0, locals := 41 } [.ref a_R, .int (iI z)] [(a_R, .inr (3, [.ref a_P, .ref a_L, .ref a_sh, .ref a_fi, .ref a_wa, .ref a_us, .ref a_ly, .ref a_jl, .int (iI jo), .int (iI fo), .int (iI sp), .int (iI fd), .int (iI tc)])), (a_P, .inr (1, [.ref a_hs, .ref a_se, .int (iI W), .int (iI h)])), (a_jl, aI E 25 jl)] (.int (iI (jl z / 4))) := by
  refine g_start (cc := cX3_joinedFrom) (maxL := 2) (ret := (some .int)) (by decide) rfl (Nat.le_of_ble_eq_true rfl) ?_
  intro p_ e_ s_ m_ args_ below_ meth_ c_ A_ C hr hnm
  have hn := nsd_b hB
  refine g_aload_n 1 C 0 dX3_joinedFrom_0 rfl rfl ?_
  refine g_get 4 C 0 0 3 iX3_joinedFrom_X3 lX3_joinedFrom_31 dX3_joinedFrom_1 rfl rfl rfl (by decide) rfl ?_
  refine g_iload_n 5 C 1 dX3_joinedFrom_4 rfl rfl ?_
  refine g_callVF 8 C [1] dX3_joinedFrom_5 rfl (k_X1_hasPiece E l  (by first | assumption | omega) (by first | assumption | omega)) (cwV 1 C.2.2.2.2.1 gX3_joinedFrom_X1_hasPiece rfl rfl rfl cdX1_hasPiece ⟨Nat.le_of_ble_eq_true rfl, Nat.le_of_ble_eq_true rfl⟩) rfl rfl rfl rfl (Nat.le_of_ble_eq_true rfl) 1 1 rfl rfl rfl ⟨Nat.le_of_ble_eq_true rfl, Nat.le_of_ble_eq_true rfl⟩ ?_
  refine g_ifb_eq 22 11 C dX3_joinedFrom_8 (by decide) rfl (fun h8 => absurd h8 (by omega)) ?_
  intro h8
  refine g_aload_n 12 C 0 dX3_joinedFrom_11 rfl rfl ?_
  refine g_get 15 C 0 7 3 iX3_joinedFrom_X3 lX3_joinedFrom_28 dX3_joinedFrom_12 rfl rfl rfl (by decide) rfl ?_
  refine g_iload_n 16 C 1 dX3_joinedFrom_15 rfl rfl ?_
  refine g_iaload 17 C 2 dX3_joinedFrom_16 rfl rfl (by omega) ?_
  refine g_iconst 18 C dX3_joinedFrom_17 rfl ?_
  refine g_idiv 19 C dX3_joinedFrom_18 rfl (by omega) ?_
  refine g_goto 23 C dX3_joinedFrom_19 (by decide) ?_
  exact g_iret C hr dX3_joinedFrom_23 ⟨g_ri (by first | rfl | omega | exact (if_pos (by omega)).symm | exact (if_neg (by omega)).symm), rfl⟩
theorem lX3_joinedTurn_28 : Cond.fieldLink RX3 28 (TX3 7).1 (TX3 7).2.1 (TX3 7).2.2.1 ∈ wsX3_joinedTurn := by decide +kernel
theorem lX3_joinedTurn_31 : Cond.fieldLink RX3 31 (TX3 0).1 (TX3 0).2.1 (TX3 0).2.2.1 ∈ wsX3_joinedTurn := by decide +kernel
theorem iX3_joinedTurn_X3 : ∀ w ∈ u_ws RX3 TX3 13, w ∈ wsX3_joinedTurn := by decide +kernel
set_option maxHeartbeats 4000000 in
set_option maxRecDepth 100000 in
theorem k_X3_joinedTurn (E : gE) (l : Launch) {a_L a_P a_R a_fi a_hs a_jl a_ly a_se a_sh a_us a_wa : Nat} {W h z : Int} {jl : Int → Int} {jo fo sp fd tc : Int} (hB : 1 ≤ W ∧ W ≤ 5 ∧ 1 ≤ h ∧ h ≤ 5) (hz : 0 ≤ z ∧ z < W * h) (hjl : 0 ≤ jl z ∧ jl z < 100) : gFun E l yX3_joinedTurn wsX3_joinedTurn { frames := 2, cells := 0, slots := 0, locals := 41 } [.ref a_R, .int (iI z)] [(a_R, .inr (3, [.ref a_P, .ref a_L, .ref a_sh, .ref a_fi, .ref a_wa, .ref a_us, .ref a_ly, .ref a_jl, .int (iI jo), .int (iI fo), .int (iI sp), .int (iI fd), .int (iI tc)])), (a_P, .inr (1, [.ref a_hs, .ref a_se, .int (iI W), .int (iI h)])), (a_jl, aI E 25 jl)] (.int (iI (jl z % 4))) := by
  refine g_start (cc := cX3_joinedTurn) (maxL := 2) (ret := (some .int)) (by decide) rfl (Nat.le_of_ble_eq_true rfl) ?_
  intro p_ e_ s_ m_ args_ below_ meth_ c_ A_ C hr hnm
  have hn := nsd_b hB
  refine g_aload_n 1 C 0 dX3_joinedTurn_0 rfl rfl ?_
  refine g_get 4 C 0 0 3 iX3_joinedTurn_X3 lX3_joinedTurn_31 dX3_joinedTurn_1 rfl rfl rfl (by decide) rfl ?_
  refine g_iload_n 5 C 1 dX3_joinedTurn_4 rfl rfl ?_
  refine g_callVF 8 C [1] dX3_joinedTurn_5 rfl (k_X1_hasPiece E l  (by first | assumption | omega) (by first | assumption | omega)) (cwV 1 C.2.2.2.2.1 gX3_joinedTurn_X1_hasPiece rfl rfl rfl cdX1_hasPiece ⟨Nat.le_of_ble_eq_true rfl, Nat.le_of_ble_eq_true rfl⟩) rfl rfl rfl rfl (Nat.le_of_ble_eq_true rfl) 1 1 rfl rfl rfl ⟨Nat.le_of_ble_eq_true rfl, Nat.le_of_ble_eq_true rfl⟩ ?_
  refine g_ifb_eq 22 11 C dX3_joinedTurn_8 (by decide) rfl (fun h8 => absurd h8 (by omega)) ?_
  intro h8
  refine g_aload_n 12 C 0 dX3_joinedTurn_11 rfl rfl ?_
  refine g_get 15 C 0 7 3 iX3_joinedTurn_X3 lX3_joinedTurn_28 dX3_joinedTurn_12 rfl rfl rfl (by decide) rfl ?_
  refine g_iload_n 16 C 1 dX3_joinedTurn_15 rfl rfl ?_
  refine g_iaload 17 C 2 dX3_joinedTurn_16 rfl rfl (by omega) ?_
  refine g_iconst 18 C dX3_joinedTurn_17 rfl ?_
  refine g_irem 19 C dX3_joinedTurn_18 rfl (by omega) ?_
  refine g_goto 23 C dX3_joinedTurn_19 (by decide) ?_
  exact g_iret C hr dX3_joinedTurn_23 ⟨g_ri (by first | rfl | omega | exact (if_pos (by omega)).symm | exact (if_neg (by omega)).symm), rfl⟩
theorem lX3_trialsCounted_39 : Cond.fieldLink RX3 39 (TX3 12).1 (TX3 12).2.1 (TX3 12).2.2.1 ∈ wsX3_trialsCounted := by decide +kernel
theorem iX3_trialsCounted_X3 : ∀ w ∈ u_ws RX3 TX3 13, w ∈ wsX3_trialsCounted := by decide +kernel
set_option maxHeartbeats 4000000 in
set_option maxRecDepth 100000 in
theorem k_X3_trialsCounted (E : gE) (l : Launch) {a_L a_P a_R a_fi a_jl a_ly a_sh a_us a_wa : Nat} {jo fo sp fd tc : Int}  : gFun E l yX3_trialsCounted wsX3_trialsCounted { frames := 0, cells := 0, slots := 0, locals := 0 } [.ref a_R] [(a_R, .inr (3, [.ref a_P, .ref a_L, .ref a_sh, .ref a_fi, .ref a_wa, .ref a_us, .ref a_ly, .ref a_jl, .int (iI jo), .int (iI fo), .int (iI sp), .int (iI fd), .int (iI tc)]))] (.int (iI tc)) := by
  refine g_start (cc := cX3_trialsCounted) (maxL := 1) (ret := (some .int)) (by decide) rfl (Nat.le_of_ble_eq_true rfl) ?_
  intro p_ e_ s_ m_ args_ below_ meth_ c_ A_ C hr hnm
  refine g_aload_n 1 C 0 dX3_trialsCounted_0 rfl rfl ?_
  refine g_get 4 C 0 12 3 iX3_trialsCounted_X3 lX3_trialsCounted_39 dX3_trialsCounted_1 rfl rfl rfl (by decide) rfl ?_
  exact g_iret C hr dX3_trialsCounted_4 ⟨g_ri (by first | rfl | omega | exact (if_pos (by omega)).symm | exact (if_neg (by omega)).symm), rfl⟩
theorem lX3_hasJoined_43 : Cond.fieldLink RX3 43 (TX3 8).1 (TX3 8).2.1 (TX3 8).2.2.1 ∈ wsX3_hasJoined := by decide +kernel
theorem iX3_hasJoined_X3 : ∀ w ∈ u_ws RX3 TX3 13, w ∈ wsX3_hasJoined := by decide +kernel
set_option maxHeartbeats 4000000 in
set_option maxRecDepth 100000 in
theorem k_X3_hasJoined (E : gE) (l : Launch) {a_L a_P a_R a_fi a_jl a_ly a_sh a_us a_wa : Nat} {jo fo sp fd tc : Int} (hjo : jo = 0 ∨ jo = 1) : gFun E l yX3_hasJoined wsX3_hasJoined { frames := 0, cells := 0, slots := 0, locals := 0 } [.ref a_R] [(a_R, .inr (3, [.ref a_P, .ref a_L, .ref a_sh, .ref a_fi, .ref a_wa, .ref a_us, .ref a_ly, .ref a_jl, .int (iI jo), .int (iI fo), .int (iI sp), .int (iI fd), .int (iI tc)]))] (.int (iI jo)) := by
  refine g_start (cc := cX3_hasJoined) (maxL := 1) (ret := (some .boolean)) (by decide) rfl (Nat.le_of_ble_eq_true rfl) ?_
  intro p_ e_ s_ m_ args_ below_ meth_ c_ A_ C hr hnm
  refine g_aload_n 1 C 0 dX3_hasJoined_0 rfl rfl ?_
  refine g_get 4 C 0 8 3 iX3_hasJoined_X3 lX3_hasJoined_43 dX3_hasJoined_1 rfl rfl rfl (by decide) rfl ?_
  exact g_zret C hr dX3_hasJoined_4 (by rcases hjo with rfl | rfl <;> rfl) ⟨g_ri (by first | rfl | omega | exact (if_pos (by omega)).symm | exact (if_neg (by omega)).symm), rfl⟩
theorem lX3_forgetJoined_43 : Cond.fieldLink RX3 43 (TX3 8).1 (TX3 8).2.1 (TX3 8).2.2.1 ∈ wsX3_forgetJoined := by decide +kernel
theorem iX3_forgetJoined_X3 : ∀ w ∈ u_ws RX3 TX3 13, w ∈ wsX3_forgetJoined := by decide +kernel
set_option maxHeartbeats 4000000 in
set_option maxRecDepth 100000 in
theorem k_X3_forgetJoined (E : gE) (l : Launch) {a_L a_P a_R a_fi a_jl a_ly a_sh a_us a_wa : Nat} {jo fo sp fd tc : Int}  : gUpd E l yX3_forgetJoined wsX3_forgetJoined { frames := 0, cells := 0, slots := 0, locals := 0 } [.ref a_R] [(a_R, .inr (3, [.ref a_P, .ref a_L, .ref a_sh, .ref a_fi, .ref a_wa, .ref a_us, .ref a_ly, .ref a_jl, .int (iI jo), .int (iI fo), .int (iI sp), .int (iI fd), .int (iI tc)]))] none [(a_R, .inr (3, [.ref a_P, .ref a_L, .ref a_sh, .ref a_fi, .ref a_wa, .ref a_us, .ref a_ly, .ref a_jl, .int (iI 0), .int (iI fo), .int (iI sp), .int (iI fd), .int (iI tc)]))] := by
  refine g_start (cc := cX3_forgetJoined) (maxL := 1) (ret := none) (by decide) rfl (Nat.le_of_ble_eq_true rfl) ?_
  intro p_ e_ s_ m_ args_ below_ meth_ c_ A_ C hr hnm
  refine g_aload_n 1 C 0 dX3_forgetJoined_0 rfl rfl ?_
  refine g_iconst 2 C dX3_forgetJoined_1 rfl ?_
  refine g_put (ws' := [(_, .inr (3, [_, _, _, _, _, _, _, _, _, _, _, _, _]))]) 5 C 0 8 3 tyX3 tyX3_ok nmX3 iX3_forgetJoined_X3 lX3_forgetJoined_43 dX3_forgetJoined_2 rfl rfl rfl (by decide) rfl (by decide) rfl (Nat.le_of_ble_eq_true rfl) rfl ?_
  exact g_vret C hr dX3_forgetJoined_5 ⟨rfl, rfl⟩
theorem lX3_codeOf_31 : Cond.fieldLink RX3 31 (TX3 0).1 (TX3 0).2.1 (TX3 0).2.2.1 ∈ wsX3_codeOf := by decide +kernel
theorem iX3_codeOf_X3 : ∀ w ∈ u_ws RX3 TX3 13, w ∈ wsX3_codeOf := by decide +kernel
set_option maxHeartbeats 4000000 in
set_option maxRecDepth 100000 in
theorem k_X3_codeOf (E : gE) (l : Launch) {a_L a_P a_R a_fi a_hs a_jl a_ly a_se a_sh a_us a_wa : Nat} {W h p e : Int} {hs se : Int → Int} {jo fo sp fd tc : Int} (hB : 1 ≤ W ∧ W ≤ 5 ∧ 1 ≤ h ∧ h ≤ 5) (hp : 0 ≤ p ∧ p < W * h) (he : 0 ≤ e ∧ e < 4) (hse : ∀ p e : Int, 0 ≤ p ∧ p < W * h → 0 ≤ e ∧ e < 4 → se (p * 4 + e) = sdI W h p e) (hf : sdI W h p e ≠ -9) (hh : hB9 hs) : gFun E l yX3_codeOf wsX3_codeOf { frames := 2, cells := 0, slots := 0, locals := 48 } [.ref a_R, .int (iI p), .int (iI e)] [(a_R, .inr (3, [.ref a_P, .ref a_L, .ref a_sh, .ref a_fi, .ref a_wa, .ref a_us, .ref a_ly, .ref a_jl, .int (iI jo), .int (iI fo), .int (iI sp), .int (iI fd), .int (iI tc)])), (a_P, .inr (1, [.ref a_hs, .ref a_se, .int (iI W), .int (iI h)])), (a_hs, aI E 200 hs), (a_se, aI E 100 se)] (.int (iI (coI W h hs p e))) := by
  refine g_start (cc := cX3_codeOf) (maxL := 5) (ret := (some .int)) (by decide) rfl (Nat.le_of_ble_eq_true rfl) ?_
  intro p_ e_ s_ m_ args_ below_ meth_ c_ A_ C hr hnm
  refine g_iconst 1 C dX3_codeOf_0 rfl ?_
  refine g_istore_n (lv' := [(3, _), (0, _), (1, _), (2, _)]) 2 C dX3_codeOf_1 rfl rfl (by decide) rfl ?_
  refine g_iconst 3 C dX3_codeOf_2 rfl ?_
  refine g_istore (lv' := [(4, _), (3, _), (0, _), (1, _), (2, _)]) 5 C dX3_codeOf_3 rfl (by decide) rfl ?_
  refine g_iload 7 C 0 dX3_codeOf_5 rfl rfl ?_
  refine g_iconst 8 C dX3_codeOf_7 rfl ?_
  refine g_icmp_ge 37 11 C dX3_codeOf_8 (by decide) rfl (by omega) (fun q => absurd q (by omega)) ?_
  intro _
  refine g_iload_n 12 C 1 dX3_codeOf_11 rfl rfl ?_
  refine g_bipush 14 C dX3_codeOf_12 rfl (by decide) ?_
  refine g_imul 15 C dX3_codeOf_14 rfl ?_
  refine g_bipush 17 C dX3_codeOf_15 rfl (by decide) ?_
  refine g_iadd 18 C dX3_codeOf_17 rfl ?_
  refine g_aload_n 19 C 2 dX3_codeOf_18 rfl rfl ?_
  refine g_get 22 C 0 0 3 iX3_codeOf_X3 lX3_codeOf_31 dX3_codeOf_19 rfl rfl rfl (by decide) rfl ?_
  refine g_iload_n 23 C 3 dX3_codeOf_22 rfl rfl ?_
  refine g_iload_n 24 C 4 dX3_codeOf_23 rfl rfl ?_
  refine g_iload 26 C 0 dX3_codeOf_24 rfl rfl ?_
  refine g_callVF 29 C [1, 2, 3] dX3_codeOf_26 rfl (k_X1_edgeHeight E l  (by first | assumption | omega) (by first | assumption | omega) (by first | assumption | omega) (by first | assumption | omega) (by first | assumption | omega) (by first | assumption | omega)) (cwV 3 C.2.2.2.2.1 gX3_codeOf_X1_edgeHeight rfl rfl rfl cdX1_edgeHeight ⟨Nat.le_of_ble_eq_true rfl, Nat.le_of_ble_eq_true rfl⟩) rfl rfl rfl rfl (Nat.le_of_ble_eq_true rfl) 1 1 rfl rfl rfl ⟨Nat.le_of_ble_eq_true rfl, Nat.le_of_ble_eq_true rfl⟩ ?_
  refine g_iadd 30 C dX3_codeOf_29 rfl ?_
  refine g_istore_n (lv' := [(3, _), (4, _), (0, _), (1, _), (2, _)]) 31 C dX3_codeOf_30 rfl rfl (by decide) rfl ?_
  refine g_iinc (lv' := [(4, .int (iI 1)), (3, _), (0, _), (1, _), (2, _)]) 34 C 1 dX3_codeOf_31 rfl rfl (by decide) rfl ?_
  refine g_goto 5 C dX3_codeOf_34 (by decide) ?_
  refine g_iload 7 C 0 dX3_codeOf_5 rfl rfl ?_
  refine g_iconst 8 C dX3_codeOf_7 rfl ?_
  refine g_icmp_ge 37 11 C dX3_codeOf_8 (by decide) rfl (by omega) (fun q => absurd q (by omega)) ?_
  intro _
  refine g_iload_n 12 C 1 dX3_codeOf_11 rfl rfl ?_
  refine g_bipush 14 C dX3_codeOf_12 rfl (by decide) ?_
  refine g_imul 15 C dX3_codeOf_14 rfl ?_
  refine g_bipush 17 C dX3_codeOf_15 rfl (by decide) ?_
  refine g_iadd 18 C dX3_codeOf_17 rfl ?_
  refine g_aload_n 19 C 2 dX3_codeOf_18 rfl rfl ?_
  refine g_get 22 C 0 0 3 iX3_codeOf_X3 lX3_codeOf_31 dX3_codeOf_19 rfl rfl rfl (by decide) rfl ?_
  refine g_iload_n 23 C 3 dX3_codeOf_22 rfl rfl ?_
  refine g_iload_n 24 C 4 dX3_codeOf_23 rfl rfl ?_
  refine g_iload 26 C 0 dX3_codeOf_24 rfl rfl ?_
  refine g_callVF 29 C [1, 2, 3] dX3_codeOf_26 rfl (k_X1_edgeHeight E l  (by first | assumption | omega) (by first | assumption | omega) (by first | assumption | omega) (by first | assumption | omega) (by first | assumption | omega) (by first | assumption | omega)) (cwV 3 C.2.2.2.2.1 gX3_codeOf_X1_edgeHeight rfl rfl rfl cdX1_edgeHeight ⟨Nat.le_of_ble_eq_true rfl, Nat.le_of_ble_eq_true rfl⟩) rfl rfl rfl rfl (Nat.le_of_ble_eq_true rfl) 1 1 rfl rfl rfl ⟨Nat.le_of_ble_eq_true rfl, Nat.le_of_ble_eq_true rfl⟩ ?_
  refine g_iadd 30 C dX3_codeOf_29 rfl ?_
  refine g_istore_n (lv' := [(3, _), (4, _), (0, _), (1, _), (2, _)]) 31 C dX3_codeOf_30 rfl rfl (by decide) rfl ?_
  refine g_iinc (lv' := [(4, .int (iI 2)), (3, _), (0, _), (1, _), (2, _)]) 34 C 1 dX3_codeOf_31 rfl rfl (by decide) rfl ?_
  refine g_goto 5 C dX3_codeOf_34 (by decide) ?_
  refine g_iload 7 C 0 dX3_codeOf_5 rfl rfl ?_
  refine g_iconst 8 C dX3_codeOf_7 rfl ?_
  refine g_icmp_ge 37 11 C dX3_codeOf_8 (by decide) rfl (by omega) (fun q => absurd q (by omega)) ?_
  intro _
  refine g_iload_n 12 C 1 dX3_codeOf_11 rfl rfl ?_
  refine g_bipush 14 C dX3_codeOf_12 rfl (by decide) ?_
  refine g_imul 15 C dX3_codeOf_14 rfl ?_
  refine g_bipush 17 C dX3_codeOf_15 rfl (by decide) ?_
  refine g_iadd 18 C dX3_codeOf_17 rfl ?_
  refine g_aload_n 19 C 2 dX3_codeOf_18 rfl rfl ?_
  refine g_get 22 C 0 0 3 iX3_codeOf_X3 lX3_codeOf_31 dX3_codeOf_19 rfl rfl rfl (by decide) rfl ?_
  refine g_iload_n 23 C 3 dX3_codeOf_22 rfl rfl ?_
  refine g_iload_n 24 C 4 dX3_codeOf_23 rfl rfl ?_
  refine g_iload 26 C 0 dX3_codeOf_24 rfl rfl ?_
  refine g_callVF 29 C [1, 2, 3] dX3_codeOf_26 rfl (k_X1_edgeHeight E l  (by first | assumption | omega) (by first | assumption | omega) (by first | assumption | omega) (by first | assumption | omega) (by first | assumption | omega) (by first | assumption | omega)) (cwV 3 C.2.2.2.2.1 gX3_codeOf_X1_edgeHeight rfl rfl rfl cdX1_edgeHeight ⟨Nat.le_of_ble_eq_true rfl, Nat.le_of_ble_eq_true rfl⟩) rfl rfl rfl rfl (Nat.le_of_ble_eq_true rfl) 1 1 rfl rfl rfl ⟨Nat.le_of_ble_eq_true rfl, Nat.le_of_ble_eq_true rfl⟩ ?_
  refine g_iadd 30 C dX3_codeOf_29 rfl ?_
  refine g_istore_n (lv' := [(3, _), (4, _), (0, _), (1, _), (2, _)]) 31 C dX3_codeOf_30 rfl rfl (by decide) rfl ?_
  refine g_iinc (lv' := [(4, .int (iI 3)), (3, _), (0, _), (1, _), (2, _)]) 34 C 1 dX3_codeOf_31 rfl rfl (by decide) rfl ?_
  refine g_goto 5 C dX3_codeOf_34 (by decide) ?_
  refine g_iload 7 C 0 dX3_codeOf_5 rfl rfl ?_
  refine g_iconst 8 C dX3_codeOf_7 rfl ?_
  refine g_icmp_ge 37 11 C dX3_codeOf_8 (by decide) rfl (by omega) (fun q => absurd q (by omega)) ?_
  intro _
  refine g_iload_n 12 C 1 dX3_codeOf_11 rfl rfl ?_
  refine g_bipush 14 C dX3_codeOf_12 rfl (by decide) ?_
  refine g_imul 15 C dX3_codeOf_14 rfl ?_
  refine g_bipush 17 C dX3_codeOf_15 rfl (by decide) ?_
  refine g_iadd 18 C dX3_codeOf_17 rfl ?_
  refine g_aload_n 19 C 2 dX3_codeOf_18 rfl rfl ?_
  refine g_get 22 C 0 0 3 iX3_codeOf_X3 lX3_codeOf_31 dX3_codeOf_19 rfl rfl rfl (by decide) rfl ?_
  refine g_iload_n 23 C 3 dX3_codeOf_22 rfl rfl ?_
  refine g_iload_n 24 C 4 dX3_codeOf_23 rfl rfl ?_
  refine g_iload 26 C 0 dX3_codeOf_24 rfl rfl ?_
  refine g_callVF 29 C [1, 2, 3] dX3_codeOf_26 rfl (k_X1_edgeHeight E l  (by first | assumption | omega) (by first | assumption | omega) (by first | assumption | omega) (by first | assumption | omega) (by first | assumption | omega) (by first | assumption | omega)) (cwV 3 C.2.2.2.2.1 gX3_codeOf_X1_edgeHeight rfl rfl rfl cdX1_edgeHeight ⟨Nat.le_of_ble_eq_true rfl, Nat.le_of_ble_eq_true rfl⟩) rfl rfl rfl rfl (Nat.le_of_ble_eq_true rfl) 1 1 rfl rfl rfl ⟨Nat.le_of_ble_eq_true rfl, Nat.le_of_ble_eq_true rfl⟩ ?_
  refine g_iadd 30 C dX3_codeOf_29 rfl ?_
  refine g_istore_n (lv' := [(3, _), (4, _), (0, _), (1, _), (2, _)]) 31 C dX3_codeOf_30 rfl rfl (by decide) rfl ?_
  refine g_iinc (lv' := [(4, .int (iI 4)), (3, _), (0, _), (1, _), (2, _)]) 34 C 1 dX3_codeOf_31 rfl rfl (by decide) rfl ?_
  refine g_goto 5 C dX3_codeOf_34 (by decide) ?_
  refine g_iload 7 C 0 dX3_codeOf_5 rfl rfl ?_
  refine g_iconst 8 C dX3_codeOf_7 rfl ?_
  refine g_icmp_ge 37 11 C dX3_codeOf_8 (by decide) rfl (by omega) (fun q => absurd q (by omega)) ?_
  intro _
  refine g_iload_n 12 C 1 dX3_codeOf_11 rfl rfl ?_
  refine g_bipush 14 C dX3_codeOf_12 rfl (by decide) ?_
  refine g_imul 15 C dX3_codeOf_14 rfl ?_
  refine g_bipush 17 C dX3_codeOf_15 rfl (by decide) ?_
  refine g_iadd 18 C dX3_codeOf_17 rfl ?_
  refine g_aload_n 19 C 2 dX3_codeOf_18 rfl rfl ?_
  refine g_get 22 C 0 0 3 iX3_codeOf_X3 lX3_codeOf_31 dX3_codeOf_19 rfl rfl rfl (by decide) rfl ?_
  refine g_iload_n 23 C 3 dX3_codeOf_22 rfl rfl ?_
  refine g_iload_n 24 C 4 dX3_codeOf_23 rfl rfl ?_
  refine g_iload 26 C 0 dX3_codeOf_24 rfl rfl ?_
  refine g_callVF 29 C [1, 2, 3] dX3_codeOf_26 rfl (k_X1_edgeHeight E l  (by first | assumption | omega) (by first | assumption | omega) (by first | assumption | omega) (by first | assumption | omega) (by first | assumption | omega) (by first | assumption | omega)) (cwV 3 C.2.2.2.2.1 gX3_codeOf_X1_edgeHeight rfl rfl rfl cdX1_edgeHeight ⟨Nat.le_of_ble_eq_true rfl, Nat.le_of_ble_eq_true rfl⟩) rfl rfl rfl rfl (Nat.le_of_ble_eq_true rfl) 1 1 rfl rfl rfl ⟨Nat.le_of_ble_eq_true rfl, Nat.le_of_ble_eq_true rfl⟩ ?_
  refine g_iadd 30 C dX3_codeOf_29 rfl ?_
  refine g_istore_n (lv' := [(3, _), (4, _), (0, _), (1, _), (2, _)]) 31 C dX3_codeOf_30 rfl rfl (by decide) rfl ?_
  refine g_iinc (lv' := [(4, .int (iI 5)), (3, _), (0, _), (1, _), (2, _)]) 34 C 1 dX3_codeOf_31 rfl rfl (by decide) rfl ?_
  refine g_goto 5 C dX3_codeOf_34 (by decide) ?_
  refine g_iload 7 C 0 dX3_codeOf_5 rfl rfl ?_
  refine g_iconst 8 C dX3_codeOf_7 rfl ?_
  refine g_icmp_ge 37 11 C dX3_codeOf_8 (by decide) rfl (by omega) ?_ (fun q => absurd q (by omega))
  intro _
  refine g_iload_n 38 C 1 dX3_codeOf_37 rfl rfl ?_
  exact g_iret C hr dX3_codeOf_38 ⟨g_ri (rfl), rfl⟩
theorem lX3_mateOf_31 : Cond.fieldLink RX3 31 (TX3 0).1 (TX3 0).2.1 (TX3 0).2.2.1 ∈ wsX3_mateOf := by decide +kernel
theorem iX3_mateOf_X3 : ∀ w ∈ u_ws RX3 TX3 13, w ∈ wsX3_mateOf := by decide +kernel
set_option maxHeartbeats 4000000 in
set_option maxRecDepth 100000 in
theorem k_X3_mateOf (E : gE) (l : Launch) {a_L a_P a_R a_fi a_hs a_jl a_ly a_se a_sh a_us a_wa : Nat} {W h p e : Int} {hs se : Int → Int} {jo fo sp fd tc : Int} (hB : 1 ≤ W ∧ W ≤ 5 ∧ 1 ≤ h ∧ h ≤ 5) (hp : 0 ≤ p ∧ p < W * h) (he : 0 ≤ e ∧ e < 4) (hse : ∀ p e : Int, 0 ≤ p ∧ p < W * h → 0 ≤ e ∧ e < 4 → se (p * 4 + e) = sdI W h p e) (hf : sdI W h p e ≠ -9) (hh : hB9 hs) : gFun E l yX3_mateOf wsX3_mateOf { frames := 2, cells := 0, slots := 0, locals := 48 } [.ref a_R, .int (iI p), .int (iI e)] [(a_R, .inr (3, [.ref a_P, .ref a_L, .ref a_sh, .ref a_fi, .ref a_wa, .ref a_us, .ref a_ly, .ref a_jl, .int (iI jo), .int (iI fo), .int (iI sp), .int (iI fd), .int (iI tc)])), (a_P, .inr (1, [.ref a_hs, .ref a_se, .int (iI W), .int (iI h)])), (a_hs, aI E 200 hs), (a_se, aI E 100 se)] (.int (iI (maI W h hs p e))) := by
  refine g_start (cc := cX3_mateOf) (maxL := 5) (ret := (some .int)) (by decide) rfl (Nat.le_of_ble_eq_true rfl) ?_
  intro p_ e_ s_ m_ args_ below_ meth_ c_ A_ C hr hnm
  refine g_iconst 1 C dX3_mateOf_0 rfl ?_
  refine g_istore_n (lv' := [(3, _), (0, _), (1, _), (2, _)]) 2 C dX3_mateOf_1 rfl rfl (by decide) rfl ?_
  refine g_iconst 3 C dX3_mateOf_2 rfl ?_
  refine g_istore (lv' := [(4, _), (3, _), (0, _), (1, _), (2, _)]) 5 C dX3_mateOf_3 rfl (by decide) rfl ?_
  refine g_iload 7 C 0 dX3_mateOf_5 rfl rfl ?_
  refine g_if_lt 36 10 C dX3_mateOf_7 (by decide) rfl (by omega) (fun q => absurd q (by omega)) ?_
  intro _
  refine g_iload_n 11 C 1 dX3_mateOf_10 rfl rfl ?_
  refine g_bipush 13 C dX3_mateOf_11 rfl (by decide) ?_
  refine g_imul 14 C dX3_mateOf_13 rfl ?_
  refine g_bipush 16 C dX3_mateOf_14 rfl (by decide) ?_
  refine g_iadd 17 C dX3_mateOf_16 rfl ?_
  refine g_aload_n 18 C 2 dX3_mateOf_17 rfl rfl ?_
  refine g_get 21 C 0 0 3 iX3_mateOf_X3 lX3_mateOf_31 dX3_mateOf_18 rfl rfl rfl (by decide) rfl ?_
  refine g_iload_n 22 C 3 dX3_mateOf_21 rfl rfl ?_
  refine g_iload_n 23 C 4 dX3_mateOf_22 rfl rfl ?_
  refine g_iload 25 C 0 dX3_mateOf_23 rfl rfl ?_
  refine g_callVF 28 C [1, 2, 3] dX3_mateOf_25 rfl (k_X1_edgeHeight E l  (by first | assumption | omega) (by first | assumption | omega) (by first | assumption | omega) (by first | assumption | omega) (by first | assumption | omega) (by first | assumption | omega)) (cwV 3 C.2.2.2.2.1 gX3_mateOf_X1_edgeHeight rfl rfl rfl cdX1_edgeHeight ⟨Nat.le_of_ble_eq_true rfl, Nat.le_of_ble_eq_true rfl⟩) rfl rfl rfl rfl (Nat.le_of_ble_eq_true rfl) 1 1 rfl rfl rfl ⟨Nat.le_of_ble_eq_true rfl, Nat.le_of_ble_eq_true rfl⟩ ?_
  refine g_isub 29 C dX3_mateOf_28 rfl ?_
  refine g_istore_n (lv' := [(3, _), (4, _), (0, _), (1, _), (2, _)]) 30 C dX3_mateOf_29 rfl rfl (by decide) rfl ?_
  refine g_iinc (lv' := [(4, .int (iI 3)), (3, _), (0, _), (1, _), (2, _)]) 33 C 1 dX3_mateOf_30 rfl rfl (by decide) rfl ?_
  refine g_goto 5 C dX3_mateOf_33 (by decide) ?_
  refine g_iload 7 C 0 dX3_mateOf_5 rfl rfl ?_
  refine g_if_lt 36 10 C dX3_mateOf_7 (by decide) rfl (by omega) (fun q => absurd q (by omega)) ?_
  intro _
  refine g_iload_n 11 C 1 dX3_mateOf_10 rfl rfl ?_
  refine g_bipush 13 C dX3_mateOf_11 rfl (by decide) ?_
  refine g_imul 14 C dX3_mateOf_13 rfl ?_
  refine g_bipush 16 C dX3_mateOf_14 rfl (by decide) ?_
  refine g_iadd 17 C dX3_mateOf_16 rfl ?_
  refine g_aload_n 18 C 2 dX3_mateOf_17 rfl rfl ?_
  refine g_get 21 C 0 0 3 iX3_mateOf_X3 lX3_mateOf_31 dX3_mateOf_18 rfl rfl rfl (by decide) rfl ?_
  refine g_iload_n 22 C 3 dX3_mateOf_21 rfl rfl ?_
  refine g_iload_n 23 C 4 dX3_mateOf_22 rfl rfl ?_
  refine g_iload 25 C 0 dX3_mateOf_23 rfl rfl ?_
  refine g_callVF 28 C [1, 2, 3] dX3_mateOf_25 rfl (k_X1_edgeHeight E l  (by first | assumption | omega) (by first | assumption | omega) (by first | assumption | omega) (by first | assumption | omega) (by first | assumption | omega) (by first | assumption | omega)) (cwV 3 C.2.2.2.2.1 gX3_mateOf_X1_edgeHeight rfl rfl rfl cdX1_edgeHeight ⟨Nat.le_of_ble_eq_true rfl, Nat.le_of_ble_eq_true rfl⟩) rfl rfl rfl rfl (Nat.le_of_ble_eq_true rfl) 1 1 rfl rfl rfl ⟨Nat.le_of_ble_eq_true rfl, Nat.le_of_ble_eq_true rfl⟩ ?_
  refine g_isub 29 C dX3_mateOf_28 rfl ?_
  refine g_istore_n (lv' := [(3, _), (4, _), (0, _), (1, _), (2, _)]) 30 C dX3_mateOf_29 rfl rfl (by decide) rfl ?_
  refine g_iinc (lv' := [(4, .int (iI 2)), (3, _), (0, _), (1, _), (2, _)]) 33 C 1 dX3_mateOf_30 rfl rfl (by decide) rfl ?_
  refine g_goto 5 C dX3_mateOf_33 (by decide) ?_
  refine g_iload 7 C 0 dX3_mateOf_5 rfl rfl ?_
  refine g_if_lt 36 10 C dX3_mateOf_7 (by decide) rfl (by omega) (fun q => absurd q (by omega)) ?_
  intro _
  refine g_iload_n 11 C 1 dX3_mateOf_10 rfl rfl ?_
  refine g_bipush 13 C dX3_mateOf_11 rfl (by decide) ?_
  refine g_imul 14 C dX3_mateOf_13 rfl ?_
  refine g_bipush 16 C dX3_mateOf_14 rfl (by decide) ?_
  refine g_iadd 17 C dX3_mateOf_16 rfl ?_
  refine g_aload_n 18 C 2 dX3_mateOf_17 rfl rfl ?_
  refine g_get 21 C 0 0 3 iX3_mateOf_X3 lX3_mateOf_31 dX3_mateOf_18 rfl rfl rfl (by decide) rfl ?_
  refine g_iload_n 22 C 3 dX3_mateOf_21 rfl rfl ?_
  refine g_iload_n 23 C 4 dX3_mateOf_22 rfl rfl ?_
  refine g_iload 25 C 0 dX3_mateOf_23 rfl rfl ?_
  refine g_callVF 28 C [1, 2, 3] dX3_mateOf_25 rfl (k_X1_edgeHeight E l  (by first | assumption | omega) (by first | assumption | omega) (by first | assumption | omega) (by first | assumption | omega) (by first | assumption | omega) (by first | assumption | omega)) (cwV 3 C.2.2.2.2.1 gX3_mateOf_X1_edgeHeight rfl rfl rfl cdX1_edgeHeight ⟨Nat.le_of_ble_eq_true rfl, Nat.le_of_ble_eq_true rfl⟩) rfl rfl rfl rfl (Nat.le_of_ble_eq_true rfl) 1 1 rfl rfl rfl ⟨Nat.le_of_ble_eq_true rfl, Nat.le_of_ble_eq_true rfl⟩ ?_
  refine g_isub 29 C dX3_mateOf_28 rfl ?_
  refine g_istore_n (lv' := [(3, _), (4, _), (0, _), (1, _), (2, _)]) 30 C dX3_mateOf_29 rfl rfl (by decide) rfl ?_
  refine g_iinc (lv' := [(4, .int (iI 1)), (3, _), (0, _), (1, _), (2, _)]) 33 C 1 dX3_mateOf_30 rfl rfl (by decide) rfl ?_
  refine g_goto 5 C dX3_mateOf_33 (by decide) ?_
  refine g_iload 7 C 0 dX3_mateOf_5 rfl rfl ?_
  refine g_if_lt 36 10 C dX3_mateOf_7 (by decide) rfl (by omega) (fun q => absurd q (by omega)) ?_
  intro _
  refine g_iload_n 11 C 1 dX3_mateOf_10 rfl rfl ?_
  refine g_bipush 13 C dX3_mateOf_11 rfl (by decide) ?_
  refine g_imul 14 C dX3_mateOf_13 rfl ?_
  refine g_bipush 16 C dX3_mateOf_14 rfl (by decide) ?_
  refine g_iadd 17 C dX3_mateOf_16 rfl ?_
  refine g_aload_n 18 C 2 dX3_mateOf_17 rfl rfl ?_
  refine g_get 21 C 0 0 3 iX3_mateOf_X3 lX3_mateOf_31 dX3_mateOf_18 rfl rfl rfl (by decide) rfl ?_
  refine g_iload_n 22 C 3 dX3_mateOf_21 rfl rfl ?_
  refine g_iload_n 23 C 4 dX3_mateOf_22 rfl rfl ?_
  refine g_iload 25 C 0 dX3_mateOf_23 rfl rfl ?_
  refine g_callVF 28 C [1, 2, 3] dX3_mateOf_25 rfl (k_X1_edgeHeight E l  (by first | assumption | omega) (by first | assumption | omega) (by first | assumption | omega) (by first | assumption | omega) (by first | assumption | omega) (by first | assumption | omega)) (cwV 3 C.2.2.2.2.1 gX3_mateOf_X1_edgeHeight rfl rfl rfl cdX1_edgeHeight ⟨Nat.le_of_ble_eq_true rfl, Nat.le_of_ble_eq_true rfl⟩) rfl rfl rfl rfl (Nat.le_of_ble_eq_true rfl) 1 1 rfl rfl rfl ⟨Nat.le_of_ble_eq_true rfl, Nat.le_of_ble_eq_true rfl⟩ ?_
  refine g_isub 29 C dX3_mateOf_28 rfl ?_
  refine g_istore_n (lv' := [(3, _), (4, _), (0, _), (1, _), (2, _)]) 30 C dX3_mateOf_29 rfl rfl (by decide) rfl ?_
  refine g_iinc (lv' := [(4, .int (iI 0)), (3, _), (0, _), (1, _), (2, _)]) 33 C 1 dX3_mateOf_30 rfl rfl (by decide) rfl ?_
  refine g_goto 5 C dX3_mateOf_33 (by decide) ?_
  refine g_iload 7 C 0 dX3_mateOf_5 rfl rfl ?_
  refine g_if_lt 36 10 C dX3_mateOf_7 (by decide) rfl (by omega) (fun q => absurd q (by omega)) ?_
  intro _
  refine g_iload_n 11 C 1 dX3_mateOf_10 rfl rfl ?_
  refine g_bipush 13 C dX3_mateOf_11 rfl (by decide) ?_
  refine g_imul 14 C dX3_mateOf_13 rfl ?_
  refine g_bipush 16 C dX3_mateOf_14 rfl (by decide) ?_
  refine g_iadd 17 C dX3_mateOf_16 rfl ?_
  refine g_aload_n 18 C 2 dX3_mateOf_17 rfl rfl ?_
  refine g_get 21 C 0 0 3 iX3_mateOf_X3 lX3_mateOf_31 dX3_mateOf_18 rfl rfl rfl (by decide) rfl ?_
  refine g_iload_n 22 C 3 dX3_mateOf_21 rfl rfl ?_
  refine g_iload_n 23 C 4 dX3_mateOf_22 rfl rfl ?_
  refine g_iload 25 C 0 dX3_mateOf_23 rfl rfl ?_
  refine g_callVF 28 C [1, 2, 3] dX3_mateOf_25 rfl (k_X1_edgeHeight E l  (by first | assumption | omega) (by first | assumption | omega) (by first | assumption | omega) (by first | assumption | omega) (by first | assumption | omega) (by first | assumption | omega)) (cwV 3 C.2.2.2.2.1 gX3_mateOf_X1_edgeHeight rfl rfl rfl cdX1_edgeHeight ⟨Nat.le_of_ble_eq_true rfl, Nat.le_of_ble_eq_true rfl⟩) rfl rfl rfl rfl (Nat.le_of_ble_eq_true rfl) 1 1 rfl rfl rfl ⟨Nat.le_of_ble_eq_true rfl, Nat.le_of_ble_eq_true rfl⟩ ?_
  refine g_isub 29 C dX3_mateOf_28 rfl ?_
  refine g_istore_n (lv' := [(3, _), (4, _), (0, _), (1, _), (2, _)]) 30 C dX3_mateOf_29 rfl rfl (by decide) rfl ?_
  refine g_iinc (lv' := [(4, .int (iI (-1))), (3, _), (0, _), (1, _), (2, _)]) 33 C 1 dX3_mateOf_30 rfl rfl (by decide) rfl ?_
  refine g_goto 5 C dX3_mateOf_33 (by decide) ?_
  refine g_iload 7 C 0 dX3_mateOf_5 rfl rfl ?_
  refine g_if_lt 36 10 C dX3_mateOf_7 (by decide) rfl (by omega) ?_ (fun q => absurd q (by omega))
  intro _
  refine g_iload_n 37 C 1 dX3_mateOf_36 rfl rfl ?_
  exact g_iret C hr dX3_mateOf_37 ⟨g_ri (rfl), rfl⟩
theorem cdX2_pieceAt : yX2_pieceAt.cls = RX2 ∧ yX2_pieceAt.cls ≠ "java/lang/invoke/MethodHandle" ∧ yX2_pieceAt.cls ≠ "java/lang/invoke/VarHandle" ∧ (parseMethodDescriptor yX2_pieceAt.desc).map (fun d => d.parameters.length) = some 1 := by decide +kernel
theorem cdX2_turnAt : yX2_turnAt.cls = RX2 ∧ yX2_turnAt.cls ≠ "java/lang/invoke/MethodHandle" ∧ yX2_turnAt.cls ≠ "java/lang/invoke/VarHandle" ∧ (parseMethodDescriptor yX2_turnAt.desc).map (fun d => d.parameters.length) = some 1 := by decide +kernel
theorem cdX3_codeOf : yX3_codeOf.cls = RX3 ∧ yX3_codeOf.cls ≠ "java/lang/invoke/MethodHandle" ∧ yX3_codeOf.cls ≠ "java/lang/invoke/VarHandle" ∧ (parseMethodDescriptor yX3_codeOf.desc).map (fun d => d.parameters.length) = some 2 := by decide +kernel
theorem cdX3_mateOf : yX3_mateOf.cls = RX3 ∧ yX3_mateOf.cls ≠ "java/lang/invoke/MethodHandle" ∧ yX3_mateOf.cls ≠ "java/lang/invoke/VarHandle" ∧ (parseMethodDescriptor yX3_mateOf.desc).map (fun d => d.parameters.length) = some 2 := by decide +kernel
theorem lX3_readEdges_15 : Cond.fieldLink RX3 15 (TX3 3).1 (TX3 3).2.1 (TX3 3).2.2.1 ∈ wsX3_readEdges := by decide +kernel
theorem lX3_readEdges_31 : Cond.fieldLink RX3 31 (TX3 0).1 (TX3 0).2.1 (TX3 0).2.2.1 ∈ wsX3_readEdges := by decide +kernel
theorem lX3_readEdges_35 : Cond.fieldLink RX3 35 (TX3 1).1 (TX3 1).2.1 (TX3 1).2.2.1 ∈ wsX3_readEdges := by decide +kernel
theorem lX3_readEdges_9 : Cond.fieldLink RX3 9 (TX3 2).1 (TX3 2).2.1 (TX3 2).2.2.1 ∈ wsX3_readEdges := by decide +kernel
theorem iX3_readEdges_X3 : ∀ w ∈ u_ws RX3 TX3 13, w ∈ wsX3_readEdges := by decide +kernel
set_option maxHeartbeats 4000000 in
set_option maxRecDepth 100000 in
theorem k_X3_readEdges (E : gE) (l : Launch) {a_L a_P a_R a_fi a_hs a_jl a_ly a_pc a_se a_sh a_tn a_us a_wa : Nat} {W h n i : Int} {hs se pc tn sh fi : Int → Int} {jo fo sp fd tc : Int} (hB : 1 ≤ W ∧ W ≤ 5 ∧ 1 ≤ h ∧ h ≤ 5) (hse : ∀ p e : Int, 0 ≤ p ∧ p < W * h → 0 ≤ e ∧ e < 4 → se (p * 4 + e) = sdI W h p e) (hh : hB9 hs) (hn : 0 ≤ n ∧ n ≤ 25) (hi : 0 ≤ i ∧ i < n) (hpw : ∀ j : Int, 0 ≤ j ∧ j < n → (0 ≤ pc j ∧ pc j < W * h) ∧ 0 ≤ tn j ∧ tn j < 4) : gMet E l yX3_readEdges wsX3_readEdges { frames := 3, cells := 0, slots := 0, locals := 72 } 0 0 [.ref a_R, .int (iI i)] [(a_R, .inr (3, [.ref a_P, .ref a_L, .ref a_sh, .ref a_fi, .ref a_wa, .ref a_us, .ref a_ly, .ref a_jl, .int (iI jo), .int (iI fo), .int (iI sp), .int (iI fd), .int (iI tc)])), (a_P, .inr (1, [.ref a_hs, .ref a_se, .int (iI W), .int (iI h)])), (a_hs, aI E 200 hs), (a_se, aI E 100 se), (a_L, .inr (2, [.ref a_pc, .ref a_tn, .int (iI n)])), (a_pc, aI E 25 pc), (a_tn, aI E 25 tn), (a_sh, aI E 400 sh), (a_fi, aI E 400 fi)] (fun v w => ∃ sh2 fi2 : Int → Int, (v = none ∧ okN (fun x => if sdI W h (pc i) x = -9 then -1 else coI W h hs (pc i) x) sh sh2 i (tn i) 4 0 ∧ okN (fun x => if sdI W h (pc i) x = -9 then -1 else maI W h hs (pc i) x) fi fi2 i (tn i) 4 0) ∧ w = [(a_R, .inr (3, [.ref a_P, .ref a_L, .ref a_sh, .ref a_fi, .ref a_wa, .ref a_us, .ref a_ly, .ref a_jl, .int (iI jo), .int (iI fo), .int (iI sp), .int (iI fd), .int (iI tc)])), (a_P, .inr (1, [.ref a_hs, .ref a_se, .int (iI W), .int (iI h)])), (a_hs, aI E 200 hs), (a_se, aI E 100 se), (a_L, .inr (2, [.ref a_pc, .ref a_tn, .int (iI n)])), (a_pc, aI E 25 pc), (a_tn, aI E 25 tn), (a_sh, aI E 400 sh2), (a_fi, aI E 400 fi2)]) := by
  refine g_start (cc := cX3_readEdges) (maxL := 9) (ret := none) (by decide) rfl (Nat.le_of_ble_eq_true rfl) ?_
  intro p_ e_ s_ m_ args_ below_ meth_ c_ A_ C hr hnm
  have hn := nsd_b hB
  have hpi := hpw i hi
  refine g_aload_n 1 C 0 dX3_readEdges_0 rfl rfl ?_
  refine g_get 4 C 0 1 3 iX3_readEdges_X3 lX3_readEdges_35 dX3_readEdges_1 rfl rfl rfl (by decide) rfl ?_
  refine g_iload_n 5 C 1 dX3_readEdges_4 rfl rfl ?_
  refine g_callVF 8 C [4, 5] dX3_readEdges_5 rfl (k_X2_pieceAt E l  (by first | assumption | omega) (by first | assumption | omega)) (cwV 1 C.2.2.2.2.1 gX3_readEdges_X2_pieceAt rfl rfl rfl cdX2_pieceAt ⟨Nat.le_of_ble_eq_true rfl, Nat.le_of_ble_eq_true rfl⟩) rfl rfl rfl rfl (Nat.le_of_ble_eq_true rfl) 4 2 rfl rfl rfl ⟨Nat.le_of_ble_eq_true rfl, Nat.le_of_ble_eq_true rfl⟩ ?_
  refine g_istore_n (lv' := [(2, _), (0, _), (1, _)]) 9 C dX3_readEdges_8 rfl rfl (by decide) rfl ?_
  refine g_iconst 10 C dX3_readEdges_9 rfl ?_
  refine g_istore_n (lv' := [(3, _), (2, _), (0, _), (1, _)]) 11 C dX3_readEdges_10 rfl rfl (by decide) rfl ?_
  refine g_loop (α := (Int → Int) × (Int → Int) × Int) (fun zz => [(a_R, .inr (3, [.ref a_P, .ref a_L, .ref a_sh, .ref a_fi, .ref a_wa, .ref a_us, .ref a_ly, .ref a_jl, .int (iI jo), .int (iI fo), .int (iI sp), .int (iI fd), .int (iI tc)])), (a_P, .inr (1, [.ref a_hs, .ref a_se, .int (iI W), .int (iI h)])), (a_hs, aI E 200 hs), (a_se, aI E 100 se), (a_L, .inr (2, [.ref a_pc, .ref a_tn, .int (iI n)])), (a_pc, aI E 25 pc), (a_tn, aI E 25 tn), (a_sh, aI E 400 zz.1), (a_fi, aI E 400 zz.2.1)]) (fun zz => [(3, .int (iI zz.2.2)), (2, .int (iI (pc i))), (1, .int (iI i)), (0, .ref a_R)]) (fun zz => (0 ≤ zz.2.2 ∧ zz.2.2 ≤ 4) ∧ okN (fun x => if sdI W h (pc i) x = -9 then -1 else coI W h hs (pc i) x) sh zz.1 i (tn i) zz.2.2 0 ∧ okN (fun x => if sdI W h (pc i) x = -9 then -1 else maI W h hs (pc i) x) fi zz.2.1 i (tn i) zz.2.2 0) (fun zz => (4 - zz.2.2).toNat) (sh, fi, 0) (by
            try dsimp only
            exact ⟨by omega, okN_0 _ _ _ _, okN_0 _ _ _ _⟩) [0, 1, 3, 2] rfl rfl ?_
  rintro ⟨f, g, e⟩ hI ih11
  try dsimp only at hI ih11 ⊢
  obtain ⟨he, hF, hG⟩ := hI
  refine g_iload_n 12 C 0 dX3_readEdges_11 rfl rfl ?_
  refine g_iconst 13 C dX3_readEdges_12 rfl ?_
  refine g_icmp_ge 133 16 C dX3_readEdges_13 (by decide) rfl (by omega) ?_ ?_
  · intro h13
    exact g_vret C hr dX3_readEdges_133 ⟨_, _, ⟨rfl, by rw [show (4 : Int) = e by omega]; exact hF, by rw [show (4 : Int) = e by omega]; exact hG⟩, rfl⟩
  · intro h13
    refine g_aload_n 17 C 3 dX3_readEdges_16 rfl rfl ?_
    refine g_get 20 C 0 0 3 iX3_readEdges_X3 lX3_readEdges_31 dX3_readEdges_17 rfl rfl rfl (by decide) rfl ?_
    refine g_iload_n 21 C 1 dX3_readEdges_20 rfl rfl ?_
    refine g_iload_n 22 C 0 dX3_readEdges_21 rfl rfl ?_
    refine g_callVF 25 C [1, 3] dX3_readEdges_22 rfl (k_X1_isFlat E l  (by first | assumption | omega) (by first | assumption | omega) (by first | assumption | omega) (by first | assumption | omega)) (cwV 2 C.2.2.2.2.1 gX3_readEdges_X1_isFlat rfl rfl rfl cdX1_isFlat ⟨Nat.le_of_ble_eq_true rfl, Nat.le_of_ble_eq_true rfl⟩) rfl rfl rfl rfl (Nat.le_of_ble_eq_true rfl) 1 1 rfl rfl rfl ⟨Nat.le_of_ble_eq_true rfl, Nat.le_of_ble_eq_true rfl⟩ ?_
    refine g_joinv 38 1 (if sdI W h (pc i) e = -9 then -1 else coI W h hs (pc i) e) ?_ ?_
    · skip
      refine g_istore (lv' := [(4, _), (3, _), (2, _), (1, _), (0, _)]) 40 C dX3_readEdges_38 rfl (by decide) rfl ?_
      refine g_aload_n 41 C 4 dX3_readEdges_40 rfl rfl ?_
      refine g_get 44 C 0 0 3 iX3_readEdges_X3 lX3_readEdges_31 dX3_readEdges_41 rfl rfl rfl (by decide) rfl ?_
      refine g_iload_n 45 C 2 dX3_readEdges_44 rfl rfl ?_
      refine g_iload_n 46 C 1 dX3_readEdges_45 rfl rfl ?_
      refine g_callVF 49 C [1, 3] dX3_readEdges_46 rfl (k_X1_isFlat E l  (by first | assumption | omega) (by first | assumption | omega) (by first | assumption | omega) (by first | assumption | omega)) (cwV 2 C.2.2.2.2.1 gX3_readEdges_X1_isFlat rfl rfl rfl cdX1_isFlat ⟨Nat.le_of_ble_eq_true rfl, Nat.le_of_ble_eq_true rfl⟩) rfl rfl rfl rfl (Nat.le_of_ble_eq_true rfl) 1 1 rfl rfl rfl ⟨Nat.le_of_ble_eq_true rfl, Nat.le_of_ble_eq_true rfl⟩ ?_
      refine g_joinv 62 1 (if sdI W h (pc i) e = -9 then -1 else maI W h hs (pc i) e) ?_ ?_
      · skip
        refine g_istore (lv' := [(5, _), (4, _), (3, _), (2, _), (1, _), (0, _)]) 64 C dX3_readEdges_62 rfl (by decide) rfl ?_
        refine g_iconst 65 C dX3_readEdges_64 rfl ?_
        refine g_istore (lv' := [(6, _), (5, _), (4, _), (3, _), (2, _), (1, _), (0, _)]) 67 C dX3_readEdges_65 rfl (by decide) rfl ?_
        refine g_loop (α := (Int → Int) × (Int → Int) × Int) (fun zz => [(a_R, .inr (3, [.ref a_P, .ref a_L, .ref a_sh, .ref a_fi, .ref a_wa, .ref a_us, .ref a_ly, .ref a_jl, .int (iI jo), .int (iI fo), .int (iI sp), .int (iI fd), .int (iI tc)])), (a_P, .inr (1, [.ref a_hs, .ref a_se, .int (iI W), .int (iI h)])), (a_hs, aI E 200 hs), (a_se, aI E 100 se), (a_L, .inr (2, [.ref a_pc, .ref a_tn, .int (iI n)])), (a_pc, aI E 25 pc), (a_tn, aI E 25 tn), (a_sh, aI E 400 zz.1), (a_fi, aI E 400 zz.2.1)]) (fun zz => [(6, .int (iI zz.2.2)), (4, .int (iI (if sdI W h (pc i) e = -9 then -1 else coI W h hs (pc i) e))), (5, .int (iI (if sdI W h (pc i) e = -9 then -1 else maI W h hs (pc i) e))), (3, .int (iI e)), (2, .int (iI (pc i))), (1, .int (iI i)), (0, .ref a_R)]) (fun zz => (0 ≤ zz.2.2 ∧ zz.2.2 ≤ 4) ∧ okN (fun x => if sdI W h (pc i) x = -9 then -1 else coI W h hs (pc i) x) sh zz.1 i (tn i) e zz.2.2 ∧ okN (fun x => if sdI W h (pc i) x = -9 then -1 else maI W h hs (pc i) x) fi zz.2.1 i (tn i) e zz.2.2) (fun zz => (4 - zz.2.2).toNat) (f, g, 0) (by
            try dsimp only
            exact ⟨by omega, hF, hG⟩) [0, 2, 1, 3, 4, 5, 6] rfl rfl ?_
        rintro ⟨f, g, t⟩ hI ih67
        try dsimp only at hI ih67 ⊢
        obtain ⟨ht, hF2, hG2⟩ := hI
        refine g_iload 69 C 0 dX3_readEdges_67 rfl rfl ?_
        refine g_iconst 70 C dX3_readEdges_69 rfl ?_
        refine g_icmp_ge 127 73 C dX3_readEdges_70 (by decide) rfl (by omega) ?_ ?_
        · intro h70
          refine g_iinc (lv' := [(3, _), (6, _), (4, _), (5, _), (2, _), (1, _), (0, _)]) 130 C 3 dX3_readEdges_127 rfl rfl (by decide) rfl ?_
          refine g_goto 11 C dX3_readEdges_130 (by decide) ?_
          exact g_w [0, 4, 5, 6] rfl rfl (ih11 (f, g, (e + 1)) (by
            try dsimp only
            exact ⟨by omega, okN_e (by omega) hF2, okN_e (by omega) hG2⟩) (by (try dsimp only); omega))
        · intro h70
          refine g_iload_n 74 C 3 dX3_readEdges_73 rfl rfl ?_
          refine g_aload_n 75 C 6 dX3_readEdges_74 rfl rfl ?_
          refine g_get 78 C 0 1 3 iX3_readEdges_X3 lX3_readEdges_35 dX3_readEdges_75 rfl rfl rfl (by decide) rfl ?_
          refine g_iload_n 79 C 5 dX3_readEdges_78 rfl rfl ?_
          refine g_callVF 82 C [4, 6] dX3_readEdges_79 rfl (k_X2_turnAt E l  (by first | assumption | omega) (by first | assumption | omega)) (cwV 1 C.2.2.2.2.1 gX3_readEdges_X2_turnAt rfl rfl rfl cdX2_turnAt ⟨Nat.le_of_ble_eq_true rfl, Nat.le_of_ble_eq_true rfl⟩) rfl rfl rfl rfl (Nat.le_of_ble_eq_true rfl) 4 2 rfl rfl rfl ⟨Nat.le_of_ble_eq_true rfl, Nat.le_of_ble_eq_true rfl⟩ ?_
          refine g_iadd 83 C dX3_readEdges_82 rfl ?_
          refine g_iload 85 C 0 dX3_readEdges_83 rfl rfl ?_
          refine g_iadd 86 C dX3_readEdges_85 rfl ?_
          refine g_iconst 87 C dX3_readEdges_86 rfl ?_
          refine g_irem 88 C dX3_readEdges_87 rfl (by omega) ?_
          refine g_istore (lv' := [(7, _), (6, _), (4, _), (5, _), (3, _), (2, _), (1, _), (0, _)]) 90 C dX3_readEdges_88 rfl (by decide) rfl ?_
          refine g_iload_n 91 C 6 dX3_readEdges_90 rfl rfl ?_
          refine g_iconst 92 C dX3_readEdges_91 rfl ?_
          refine g_imul 93 C dX3_readEdges_92 rfl ?_
          refine g_iload 95 C 1 dX3_readEdges_93 rfl rfl ?_
          refine g_iadd 96 C dX3_readEdges_95 rfl ?_
          refine g_iconst 97 C dX3_readEdges_96 rfl ?_
          refine g_imul 98 C dX3_readEdges_97 rfl ?_
          refine g_iload 100 C 0 dX3_readEdges_98 rfl rfl ?_
          refine g_iadd 101 C dX3_readEdges_100 rfl ?_
          refine g_istore (lv' := [(8, _), (7, _), (6, _), (4, _), (5, _), (3, _), (2, _), (1, _), (0, _)]) 103 C dX3_readEdges_101 rfl (by decide) rfl ?_
          refine g_aload_n 104 C 8 dX3_readEdges_103 rfl rfl ?_
          refine g_get 107 C 0 2 3 iX3_readEdges_X3 lX3_readEdges_9 dX3_readEdges_104 rfl rfl rfl (by decide) rfl ?_
          refine g_iload 109 C 0 dX3_readEdges_107 rfl rfl ?_
          refine g_iload 111 C 3 dX3_readEdges_109 rfl rfl ?_
          refine g_iastore (ws' := [(_, .inr (3, [_, _, _, _, _, _, _, _, _, _, _, _, _])), (_, .inr (1, [_, _, _, _])), (_, aI _ _ _), (_, aI _ _ _), (_, .inr (2, [_, _, _])), (_, aI _ _ _), (_, aI _ _ _), (_, aI _ _ _), (_, aI _ _ _)]) 112 C 7 dX3_readEdges_111 rfl rfl (by omega) rfl ?_
          refine g_aload_n 113 C 8 dX3_readEdges_112 rfl rfl ?_
          refine g_get 116 C 0 3 3 iX3_readEdges_X3 lX3_readEdges_15 dX3_readEdges_113 rfl rfl rfl (by decide) rfl ?_
          refine g_iload 118 C 0 dX3_readEdges_116 rfl rfl ?_
          refine g_iload 120 C 4 dX3_readEdges_118 rfl rfl ?_
          refine g_iastore (ws' := [(_, .inr (3, [_, _, _, _, _, _, _, _, _, _, _, _, _])), (_, .inr (1, [_, _, _, _])), (_, aI _ _ _), (_, aI _ _ _), (_, .inr (2, [_, _, _])), (_, aI _ _ _), (_, aI _ _ _), (_, aI _ _ _), (_, aI _ _ _)]) 121 C 8 dX3_readEdges_120 rfl rfl (by omega) rfl ?_
          refine g_iinc (lv' := [(6, _), (8, _), (7, _), (4, _), (5, _), (3, _), (2, _), (1, _), (0, _)]) 124 C 2 dX3_readEdges_121 rfl rfl (by decide) rfl ?_
          refine g_goto 67 C dX3_readEdges_124 (by decide) ?_
          exact g_w [0, 3, 4, 5, 6, 7, 8] rfl rfl (ih67 ((uI f ((i * 4 + t) * 4 + (e + tn i + t) % 4) (if sdI W h (pc i) e = -9 then -1 else coI W h hs (pc i) e)), (uI g ((i * 4 + t) * 4 + (e + tn i + t) % 4) (if sdI W h (pc i) e = -9 then -1 else maI W h hs (pc i) e)), (t + 1)) (by
            try dsimp only
            exact ⟨by omega, okN_s hpi.2 (by omega) (by omega) rfl hF2, okN_s hpi.2 (by omega) (by omega) rfl hG2⟩) (by (try dsimp only); omega))
      · intro kj
        refine g_ifb_eq 56 52 C dX3_readEdges_49 (by decide) rfl ?_ ?_
        · intro h49
          refine g_aload_n 57 C 4 dX3_readEdges_56 rfl rfl ?_
          refine g_iload_n 58 C 2 dX3_readEdges_57 rfl rfl ?_
          refine g_iload_n 59 C 1 dX3_readEdges_58 rfl rfl ?_
          refine g_callVF 62 C [0, 1, 2, 3] dX3_readEdges_59 rfl (k_X3_mateOf E l  (by first | assumption | omega) (by first | assumption | omega) (by first | assumption | omega) (by first | assumption | omega) (by first | assumption | omega) (by first | assumption | omega)) (cwV 2 C.2.2.2.2.1 gX3_readEdges_X3_mateOf rfl rfl rfl cdX3_mateOf ⟨Nat.le_of_ble_eq_true rfl, Nat.le_of_ble_eq_true rfl⟩) rfl rfl rfl rfl (Nat.le_of_ble_eq_true rfl) 0 3 rfl rfl rfl ⟨Nat.le_of_ble_eq_true rfl, Nat.le_of_ble_eq_true rfl⟩ ?_
          exact kj _ (by first | rfl | omega | exact (if_pos (by omega)).symm | exact (if_neg (by omega)).symm)
        · intro h49
          refine g_iconst 53 C dX3_readEdges_52 rfl ?_
          refine g_goto 62 C dX3_readEdges_53 (by decide) ?_
          exact kj _ (by first | rfl | omega | exact (if_pos (by omega)).symm | exact (if_neg (by omega)).symm)
    · intro kj
      refine g_ifb_eq 32 28 C dX3_readEdges_25 (by decide) rfl ?_ ?_
      · intro h25
        refine g_aload_n 33 C 3 dX3_readEdges_32 rfl rfl ?_
        refine g_iload_n 34 C 1 dX3_readEdges_33 rfl rfl ?_
        refine g_iload_n 35 C 0 dX3_readEdges_34 rfl rfl ?_
        refine g_callVF 38 C [0, 1, 2, 3] dX3_readEdges_35 rfl (k_X3_codeOf E l  (by first | assumption | omega) (by first | assumption | omega) (by first | assumption | omega) (by first | assumption | omega) (by first | assumption | omega) (by first | assumption | omega)) (cwV 2 C.2.2.2.2.1 gX3_readEdges_X3_codeOf rfl rfl rfl cdX3_codeOf ⟨Nat.le_of_ble_eq_true rfl, Nat.le_of_ble_eq_true rfl⟩) rfl rfl rfl rfl (Nat.le_of_ble_eq_true rfl) 0 3 rfl rfl rfl ⟨Nat.le_of_ble_eq_true rfl, Nat.le_of_ble_eq_true rfl⟩ ?_
        exact kj _ (by first | rfl | omega | exact (if_pos (by omega)).symm | exact (if_neg (by omega)).symm)
      · intro h25
        refine g_iconst 29 C dX3_readEdges_28 rfl ?_
        refine g_goto 38 C dX3_readEdges_29 (by decide) ?_
        exact kj _ (by first | rfl | omega | exact (if_pos (by omega)).symm | exact (if_neg (by omega)).symm)
theorem cdX1_nextTo : yX1_nextTo.cls = RX1 ∧ yX1_nextTo.cls ≠ "java/lang/invoke/MethodHandle" ∧ yX1_nextTo.cls ≠ "java/lang/invoke/VarHandle" ∧ (parseMethodDescriptor yX1_nextTo.desc).map (fun d => d.parameters.length) = some 2 := by decide +kernel
theorem lX3_lookAround_15 : Cond.fieldLink RX3 15 (TX3 3).1 (TX3 3).2.1 (TX3 3).2.2.1 ∈ wsX3_lookAround := by decide +kernel
theorem lX3_lookAround_18 : Cond.fieldLink RX3 18 (TX3 4).1 (TX3 4).2.1 (TX3 4).2.2.1 ∈ wsX3_lookAround := by decide +kernel
theorem lX3_lookAround_25 : Cond.fieldLink RX3 25 (TX3 6).1 (TX3 6).2.1 (TX3 6).2.2.1 ∈ wsX3_lookAround := by decide +kernel
theorem lX3_lookAround_31 : Cond.fieldLink RX3 31 (TX3 0).1 (TX3 0).2.1 (TX3 0).2.2.1 ∈ wsX3_lookAround := by decide +kernel
theorem iX3_lookAround_X3 : ∀ w ∈ u_ws RX3 TX3 13, w ∈ wsX3_lookAround := by decide +kernel
set_option maxHeartbeats 4000000 in
set_option maxRecDepth 100000 in
theorem k_X3_lookAround (E : gE) (l : Launch) {a_L a_P a_R a_fi a_hs a_jl a_ly a_se a_sh a_us a_wa : Nat} {W h k : Int} {se fi wa ly : Int → Int} {jo fo sp fd tc : Int} (hB : 1 ≤ W ∧ W ≤ 5 ∧ 1 ≤ h ∧ h ≤ 5) (hk : 0 ≤ k ∧ k < W * h) (hse : ∀ p e : Int, 0 ≤ p ∧ p < W * h → 0 ≤ e ∧ e < 4 → se (p * 4 + e) = sdI W h p e) (hly : ∀ j : Int, 0 ≤ j ∧ j < k → 0 ≤ ly j ∧ ly j < 100) : gUpd E l yX3_lookAround wsX3_lookAround { frames := 2, cells := 0, slots := 0, locals := 45 } [.ref a_R, .int (iI k)] [(a_R, .inr (3, [.ref a_P, .ref a_L, .ref a_sh, .ref a_fi, .ref a_wa, .ref a_us, .ref a_ly, .ref a_jl, .int (iI jo), .int (iI fo), .int (iI sp), .int (iI fd), .int (iI tc)])), (a_P, .inr (1, [.ref a_hs, .ref a_se, .int (iI W), .int (iI h)])), (a_se, aI E 100 se), (a_fi, aI E 400 fi), (a_wa, aI E 100 wa), (a_ly, aI E 25 ly)] none [(a_R, .inr (3, [.ref a_P, .ref a_L, .ref a_sh, .ref a_fi, .ref a_wa, .ref a_us, .ref a_ly, .ref a_jl, .int (iI jo), .int (iI fo), .int (iI sp), .int (iI fd), .int (iI tc)])), (a_P, .inr (1, [.ref a_hs, .ref a_se, .int (iI W), .int (iI h)])), (a_se, aI E 100 se), (a_fi, aI E 400 fi), (a_wa, aI E 100 (laI wa k (waV W h fi ly k) 4)), (a_ly, aI E 25 ly)] := by
  refine g_start (cc := cX3_lookAround) (maxL := 5) (ret := none) (by decide) rfl (Nat.le_of_ble_eq_true rfl) ?_
  intro p_ e_ s_ m_ args_ below_ meth_ c_ A_ C hr hnm
  have hn := nsd_b hB
  refine g_iconst 1 C dX3_lookAround_0 rfl ?_
  refine g_istore_n (lv' := [(2, _), (0, _), (1, _)]) 2 C dX3_lookAround_1 rfl rfl (by decide) rfl ?_
  refine g_loop (α := Int) (fun zz => [(a_R, .inr (3, [.ref a_P, .ref a_L, .ref a_sh, .ref a_fi, .ref a_wa, .ref a_us, .ref a_ly, .ref a_jl, .int (iI jo), .int (iI fo), .int (iI sp), .int (iI fd), .int (iI tc)])), (a_P, .inr (1, [.ref a_hs, .ref a_se, .int (iI W), .int (iI h)])), (a_se, aI E 100 se), (a_fi, aI E 400 fi), (a_wa, aI E 100 (laI wa k (waV W h fi ly k) zz)), (a_ly, aI E 25 ly)]) (fun zz => [(2, .int (iI zz)), (1, .int (iI k)), (0, .ref a_R)]) (fun zz => 0 ≤ zz ∧ zz ≤ 4) (fun zz => (4 - zz).toNat) (0) (by (try dsimp only); omega) [0, 2, 1] (by rw [laI_0]) rfl ?_
  rintro i hI ih2
  try dsimp only at hI ih2 ⊢
  obtain ⟨hi0, hi4⟩ := hI
  refine g_iload_n 3 C 0 dX3_lookAround_2 rfl rfl ?_
  refine g_iconst 4 C dX3_lookAround_3 rfl ?_
  refine g_icmp_ge 87 7 C dX3_lookAround_4 (by decide) rfl (by omega) ?_ ?_
  · intro h4
    exact g_vret C hr dX3_lookAround_87 ⟨rfl, by rw [show i = 4 by omega]⟩
  · intro h4
    refine g_aload_n 8 C 2 dX3_lookAround_7 rfl rfl ?_
    refine g_get 11 C 0 0 3 iX3_lookAround_X3 lX3_lookAround_31 dX3_lookAround_8 rfl rfl rfl (by decide) rfl ?_
    refine g_iload_n 12 C 1 dX3_lookAround_11 rfl rfl ?_
    refine g_iload_n 13 C 0 dX3_lookAround_12 rfl rfl ?_
    refine g_callVF 16 C [1] dX3_lookAround_13 rfl (k_X1_nextTo E l  (by first | assumption | omega)) (cwV 2 C.2.2.2.2.1 gX3_lookAround_X1_nextTo rfl rfl rfl cdX1_nextTo ⟨Nat.le_of_ble_eq_true rfl, Nat.le_of_ble_eq_true rfl⟩) rfl rfl rfl rfl (Nat.le_of_ble_eq_true rfl) 1 1 rfl rfl rfl ⟨Nat.le_of_ble_eq_true rfl, Nat.le_of_ble_eq_true rfl⟩ ?_
    have e0 := nxI_b (p := k) (e := i) (And.intro hB.1 hB.2.1)
    refine g_istore_n (lv' := [(3, _), (2, _), (1, _), (0, _)]) 17 C dX3_lookAround_16 rfl rfl (by decide) rfl ?_
    refine g_bipush 19 C dX3_lookAround_17 rfl (by decide) ?_
    refine g_istore (lv' := [(4, _), (3, _), (2, _), (1, _), (0, _)]) 21 C dX3_lookAround_19 rfl (by decide) rfl ?_
    refine g_aload_n 22 C 4 dX3_lookAround_21 rfl rfl ?_
    refine g_get 25 C 0 0 3 iX3_lookAround_X3 lX3_lookAround_31 dX3_lookAround_22 rfl rfl rfl (by decide) rfl ?_
    refine g_iload_n 26 C 3 dX3_lookAround_25 rfl rfl ?_
    refine g_iload_n 27 C 2 dX3_lookAround_26 rfl rfl ?_
    refine g_callVF 30 C [1, 2] dX3_lookAround_27 rfl (k_X1_isFlat E l  (by first | assumption | omega) (by first | assumption | omega) (by first | assumption | omega) (by first | assumption | omega)) (cwV 2 C.2.2.2.2.1 gX3_lookAround_X1_isFlat rfl rfl rfl cdX1_isFlat ⟨Nat.le_of_ble_eq_true rfl, Nat.le_of_ble_eq_true rfl⟩) rfl rfl rfl rfl (Nat.le_of_ble_eq_true rfl) 1 1 rfl rfl rfl ⟨Nat.le_of_ble_eq_true rfl, Nat.le_of_ble_eq_true rfl⟩ ?_
    refine g_ifb_eq 39 33 C dX3_lookAround_30 (by decide) rfl ?_ ?_
    · intro h30
      refine g_iload_n 40 C 1 dX3_lookAround_39 rfl rfl ?_
      refine g_if_lt 69 43 C dX3_lookAround_40 (by decide) rfl (by omega) ?_ ?_
      · intro h40
        refine g_aload_n 70 C 4 dX3_lookAround_69 rfl rfl ?_
        refine g_get 73 C 0 4 3 iX3_lookAround_X3 lX3_lookAround_18 dX3_lookAround_70 rfl rfl rfl (by decide) rfl ?_
        refine g_iload_n 74 C 3 dX3_lookAround_73 rfl rfl ?_
        refine g_iconst 75 C dX3_lookAround_74 rfl ?_
        refine g_imul 76 C dX3_lookAround_75 rfl ?_
        refine g_iload_n 77 C 2 dX3_lookAround_76 rfl rfl ?_
        refine g_iadd 78 C dX3_lookAround_77 rfl ?_
        refine g_iload 80 C 0 dX3_lookAround_78 rfl rfl ?_
        refine g_iastore (ws' := [(_, .inr (3, [_, _, _, _, _, _, _, _, _, _, _, _, _])), (_, .inr (1, [_, _, _, _])), (_, aI _ _ _), (_, aI _ _ _), (_, aI _ _ _), (_, aI _ _ _)]) 81 C 4 dX3_lookAround_80 rfl rfl (by omega) rfl ?_
        refine g_iinc (lv' := [(2, _), (4, _), (3, _), (1, _), (0, _)]) 84 C 2 dX3_lookAround_81 rfl rfl (by decide) rfl ?_
        refine g_goto 2 C dX3_lookAround_84 (by decide) ?_
        exact g_w [0, 3, 4] (by (try dsimp only); rw [laI_s (g := waV W h fi ly k) hi0 (by unfold waV; first | rw [if_pos (by omega)] | rw [if_neg (by omega), if_pos (by omega)] | rw [if_neg (by omega), if_neg (by omega)])]) rfl (ih2 ((i + 1)) (by (try dsimp only); omega) (by (try dsimp only); omega))
      · intro h40
        refine g_iload_n 44 C 1 dX3_lookAround_43 rfl rfl ?_
        refine g_iload_n 45 C 3 dX3_lookAround_44 rfl rfl ?_
        refine g_icmp_ge 69 48 C dX3_lookAround_45 (by decide) rfl (by omega) ?_ ?_
        · intro h45
          refine g_aload_n 70 C 4 dX3_lookAround_69 rfl rfl ?_
          refine g_get 73 C 0 4 3 iX3_lookAround_X3 lX3_lookAround_18 dX3_lookAround_70 rfl rfl rfl (by decide) rfl ?_
          refine g_iload_n 74 C 3 dX3_lookAround_73 rfl rfl ?_
          refine g_iconst 75 C dX3_lookAround_74 rfl ?_
          refine g_imul 76 C dX3_lookAround_75 rfl ?_
          refine g_iload_n 77 C 2 dX3_lookAround_76 rfl rfl ?_
          refine g_iadd 78 C dX3_lookAround_77 rfl ?_
          refine g_iload 80 C 0 dX3_lookAround_78 rfl rfl ?_
          refine g_iastore (ws' := [(_, .inr (3, [_, _, _, _, _, _, _, _, _, _, _, _, _])), (_, .inr (1, [_, _, _, _])), (_, aI _ _ _), (_, aI _ _ _), (_, aI _ _ _), (_, aI _ _ _)]) 81 C 4 dX3_lookAround_80 rfl rfl (by omega) rfl ?_
          refine g_iinc (lv' := [(2, _), (4, _), (3, _), (1, _), (0, _)]) 84 C 2 dX3_lookAround_81 rfl rfl (by decide) rfl ?_
          refine g_goto 2 C dX3_lookAround_84 (by decide) ?_
          exact g_w [0, 3, 4] (by (try dsimp only); rw [laI_s (g := waV W h fi ly k) hi0 (by unfold waV; first | rw [if_pos (by omega)] | rw [if_neg (by omega), if_pos (by omega)] | rw [if_neg (by omega), if_neg (by omega)])]) rfl (ih2 ((i + 1)) (by (try dsimp only); omega) (by (try dsimp only); omega))
        · intro h45
          refine g_aload_n 49 C 4 dX3_lookAround_48 rfl rfl ?_
          refine g_get 52 C 0 3 3 iX3_lookAround_X3 lX3_lookAround_15 dX3_lookAround_49 rfl rfl rfl (by decide) rfl ?_
          refine g_aload_n 53 C 4 dX3_lookAround_52 rfl rfl ?_
          refine g_get 56 C 0 6 3 iX3_lookAround_X3 lX3_lookAround_25 dX3_lookAround_53 rfl rfl rfl (by decide) rfl ?_
          refine g_iload_n 57 C 1 dX3_lookAround_56 rfl rfl ?_
          have e1 := hly (nxI W k i) (by omega)
          refine g_iaload 58 C 5 dX3_lookAround_57 rfl rfl (by omega) ?_
          refine g_iconst 59 C dX3_lookAround_58 rfl ?_
          refine g_imul 60 C dX3_lookAround_59 rfl ?_
          refine g_iload_n 61 C 2 dX3_lookAround_60 rfl rfl ?_
          refine g_iconst 62 C dX3_lookAround_61 rfl ?_
          refine g_iadd 63 C dX3_lookAround_62 rfl ?_
          refine g_iconst 64 C dX3_lookAround_63 rfl ?_
          refine g_irem 65 C dX3_lookAround_64 rfl (by omega) ?_
          refine g_iadd 66 C dX3_lookAround_65 rfl ?_
          refine g_iaload 67 C 3 dX3_lookAround_66 rfl rfl (by omega) ?_
          refine g_istore (lv' := [(4, _), (3, _), (2, _), (1, _), (0, _)]) 69 C dX3_lookAround_67 rfl (by decide) rfl ?_
          refine g_aload_n 70 C 4 dX3_lookAround_69 rfl rfl ?_
          refine g_get 73 C 0 4 3 iX3_lookAround_X3 lX3_lookAround_18 dX3_lookAround_70 rfl rfl rfl (by decide) rfl ?_
          refine g_iload_n 74 C 3 dX3_lookAround_73 rfl rfl ?_
          refine g_iconst 75 C dX3_lookAround_74 rfl ?_
          refine g_imul 76 C dX3_lookAround_75 rfl ?_
          refine g_iload_n 77 C 2 dX3_lookAround_76 rfl rfl ?_
          refine g_iadd 78 C dX3_lookAround_77 rfl ?_
          refine g_iload 80 C 0 dX3_lookAround_78 rfl rfl ?_
          refine g_iastore (ws' := [(_, .inr (3, [_, _, _, _, _, _, _, _, _, _, _, _, _])), (_, .inr (1, [_, _, _, _])), (_, aI _ _ _), (_, aI _ _ _), (_, aI _ _ _), (_, aI _ _ _)]) 81 C 4 dX3_lookAround_80 rfl rfl (by omega) rfl ?_
          refine g_iinc (lv' := [(2, _), (4, _), (3, _), (1, _), (0, _)]) 84 C 2 dX3_lookAround_81 rfl rfl (by decide) rfl ?_
          refine g_goto 2 C dX3_lookAround_84 (by decide) ?_
          exact g_w [0, 3, 4] (by (try dsimp only); rw [laI_s (g := waV W h fi ly k) hi0 (by unfold waV; first | rw [if_pos (by omega)] | rw [if_neg (by omega), if_pos (by omega)] | rw [if_neg (by omega), if_neg (by omega)])]) rfl (ih2 ((i + 1)) (by (try dsimp only); omega) (by (try dsimp only); omega))
    · intro h30
      refine g_iconst 34 C dX3_lookAround_33 rfl ?_
      refine g_istore (lv' := [(4, _), (3, _), (2, _), (1, _), (0, _)]) 36 C dX3_lookAround_34 rfl (by decide) rfl ?_
      refine g_goto 69 C dX3_lookAround_36 (by decide) ?_
      refine g_aload_n 70 C 4 dX3_lookAround_69 rfl rfl ?_
      refine g_get 73 C 0 4 3 iX3_lookAround_X3 lX3_lookAround_18 dX3_lookAround_70 rfl rfl rfl (by decide) rfl ?_
      refine g_iload_n 74 C 3 dX3_lookAround_73 rfl rfl ?_
      refine g_iconst 75 C dX3_lookAround_74 rfl ?_
      refine g_imul 76 C dX3_lookAround_75 rfl ?_
      refine g_iload_n 77 C 2 dX3_lookAround_76 rfl rfl ?_
      refine g_iadd 78 C dX3_lookAround_77 rfl ?_
      refine g_iload 80 C 0 dX3_lookAround_78 rfl rfl ?_
      refine g_iastore (ws' := [(_, .inr (3, [_, _, _, _, _, _, _, _, _, _, _, _, _])), (_, .inr (1, [_, _, _, _])), (_, aI _ _ _), (_, aI _ _ _), (_, aI _ _ _), (_, aI _ _ _)]) 81 C 4 dX3_lookAround_80 rfl rfl (by omega) rfl ?_
      refine g_iinc (lv' := [(2, _), (4, _), (3, _), (1, _), (0, _)]) 84 C 2 dX3_lookAround_81 rfl rfl (by decide) rfl ?_
      refine g_goto 2 C dX3_lookAround_84 (by decide) ?_
      exact g_w [0, 3, 4] (by (try dsimp only); rw [laI_s (g := waV W h fi ly k) hi0 (by unfold waV; first | rw [if_pos (by omega)] | rw [if_neg (by omega), if_pos (by omega)] | rw [if_neg (by omega), if_neg (by omega)])]) rfl (ih2 ((i + 1)) (by (try dsimp only); omega) (by (try dsimp only); omega))
theorem lX3_fits_18 : Cond.fieldLink RX3 18 (TX3 4).1 (TX3 4).2.1 (TX3 4).2.2.1 ∈ wsX3_fits := by decide +kernel
theorem lX3_fits_25 : Cond.fieldLink RX3 25 (TX3 6).1 (TX3 6).2.1 (TX3 6).2.2.1 ∈ wsX3_fits := by decide +kernel
theorem lX3_fits_9 : Cond.fieldLink RX3 9 (TX3 2).1 (TX3 2).2.1 (TX3 2).2.2.1 ∈ wsX3_fits := by decide +kernel
theorem iX3_fits_X3 : ∀ w ∈ u_ws RX3 TX3 13, w ∈ wsX3_fits := by decide +kernel
set_option maxHeartbeats 4000000 in
set_option maxRecDepth 100000 in
theorem k_X3_fits (E : gE) (l : Launch) {a_L a_P a_R a_fi a_jl a_ly a_sh a_us a_wa : Nat} {k : Int} {sh wa ly : Int → Int} {jo fo sp fd tc : Int} (hk : 0 ≤ k ∧ k < 25) (hlk : 0 ≤ ly k ∧ ly k < 100) (hwr : ∀ d : Int, 0 ≤ d ∧ d < 4 → -2147483648 ≤ wa (k * 4 + d) ∧ wa (k * 4 + d) < 2147483648) (hsr : ∀ d : Int, 0 ≤ d ∧ d < 4 → -2147483648 ≤ sh (ly k * 4 + d) ∧ sh (ly k * 4 + d) < 2147483648) : gFun E l yX3_fits wsX3_fits { frames := 0, cells := 0, slots := 0, locals := 0 } [.ref a_R, .int (iI k)] [(a_R, .inr (3, [.ref a_P, .ref a_L, .ref a_sh, .ref a_fi, .ref a_wa, .ref a_us, .ref a_ly, .ref a_jl, .int (iI jo), .int (iI fo), .int (iI sp), .int (iI fd), .int (iI tc)])), (a_sh, aI E 400 sh), (a_wa, aI E 100 wa), (a_ly, aI E 25 ly)] (.int (iI (cI (∀ d : Int, 0 ≤ d → d < 4 → okD wa sh (ly k) k d) 1 0))) := by
  refine g_start (cc := cX3_fits) (maxL := 5) (ret := (some .boolean)) (by decide) rfl (Nat.le_of_ble_eq_true rfl) ?_
  intro p_ e_ s_ m_ args_ below_ meth_ c_ A_ C hr hnm
  refine g_iconst 1 C dX3_fits_0 rfl ?_
  refine g_istore_n (lv' := [(2, _), (0, _), (1, _)]) 2 C dX3_fits_1 rfl rfl (by decide) rfl ?_
  refine g_loop (α := Int) (fun zz => [(a_R, .inr (3, [.ref a_P, .ref a_L, .ref a_sh, .ref a_fi, .ref a_wa, .ref a_us, .ref a_ly, .ref a_jl, .int (iI jo), .int (iI fo), .int (iI sp), .int (iI fd), .int (iI tc)])), (a_sh, aI E 400 sh), (a_wa, aI E 100 wa), (a_ly, aI E 25 ly)]) (fun zz => [(2, .int (iI zz)), (1, .int (iI k)), (0, .ref a_R)]) (fun zz => (0 ≤ zz ∧ zz ≤ 4) ∧ ∀ d : Int, 0 ≤ d → d < zz → okD wa sh (ly k) k d) (fun zz => (4 - zz).toNat) (0) (by
            try dsimp only
            exact ⟨by omega, fun d h1 h2 => absurd h1 (by omega)⟩) [0, 2, 1] rfl rfl ?_
  rintro i hI ih2
  try dsimp only at hI ih2 ⊢
  obtain ⟨hi, hA⟩ := hI
  refine g_iload_n 3 C 0 dX3_fits_2 rfl rfl ?_
  refine g_iconst 4 C dX3_fits_3 rfl ?_
  refine g_icmp_ge 64 7 C dX3_fits_4 (by decide) rfl (by omega) ?_ ?_
  · intro h4
    refine g_iconst 65 C dX3_fits_64 rfl ?_
    exact g_zret C hr dX3_fits_65 (by first | rfl | decide | (split <;> rfl)) ⟨g_ri ((cI_t (fun d h1 h2 => hA d h1 (by omega))).symm), rfl⟩
  · intro h4
    refine g_aload_n 8 C 2 dX3_fits_7 rfl rfl ?_
    refine g_get 11 C 0 4 3 iX3_fits_X3 lX3_fits_18 dX3_fits_8 rfl rfl rfl (by decide) rfl ?_
    refine g_iload_n 12 C 1 dX3_fits_11 rfl rfl ?_
    refine g_iconst 13 C dX3_fits_12 rfl ?_
    refine g_imul 14 C dX3_fits_13 rfl ?_
    refine g_iload_n 15 C 0 dX3_fits_14 rfl rfl ?_
    refine g_iadd 16 C dX3_fits_15 rfl ?_
    refine g_iaload 17 C 2 dX3_fits_16 rfl rfl (by omega) ?_
    refine g_istore_n (lv' := [(3, _), (2, _), (1, _), (0, _)]) 18 C dX3_fits_17 rfl rfl (by decide) rfl ?_
    refine g_aload_n 19 C 3 dX3_fits_18 rfl rfl ?_
    refine g_get 22 C 0 2 3 iX3_fits_X3 lX3_fits_9 dX3_fits_19 rfl rfl rfl (by decide) rfl ?_
    refine g_aload_n 23 C 3 dX3_fits_22 rfl rfl ?_
    refine g_get 26 C 0 6 3 iX3_fits_X3 lX3_fits_25 dX3_fits_23 rfl rfl rfl (by decide) rfl ?_
    refine g_iload_n 27 C 2 dX3_fits_26 rfl rfl ?_
    refine g_iaload 28 C 3 dX3_fits_27 rfl rfl (by omega) ?_
    refine g_iconst 29 C dX3_fits_28 rfl ?_
    refine g_imul 30 C dX3_fits_29 rfl ?_
    refine g_iload_n 31 C 1 dX3_fits_30 rfl rfl ?_
    refine g_iadd 32 C dX3_fits_31 rfl ?_
    refine g_iaload 33 C 1 dX3_fits_32 rfl rfl (by omega) ?_
    refine g_istore (lv' := [(4, _), (3, _), (2, _), (1, _), (0, _)]) 35 C dX3_fits_33 rfl (by decide) rfl ?_
    have e0 := hwr i (by omega)
    have e1 := hsr i (by omega)
    refine g_iload_n 36 C 1 dX3_fits_35 rfl rfl ?_
    refine g_bipush 38 C dX3_fits_36 rfl (by decide) ?_
    refine g_icmp_ne 50 41 C dX3_fits_38 (by decide) rfl (by omega) ?_ ?_
    · intro h38
      refine g_iload 52 C 0 dX3_fits_50 rfl rfl ?_
      refine g_iload_n 53 C 1 dX3_fits_52 rfl rfl ?_
      refine g_icmp_eq 58 56 C dX3_fits_53 (by decide) rfl (by omega) ?_ ?_
      · intro h53
        refine g_iinc (lv' := [(2, _), (4, _), (3, _), (1, _), (0, _)]) 61 C 2 dX3_fits_58 rfl rfl (by decide) rfl ?_
        refine g_goto 2 C dX3_fits_61 (by decide) ?_
        exact g_w [0, 3, 4] rfl rfl (ih2 ((i + 1)) (by
            try dsimp only
            exact ⟨by omega, fun d h1 h2 => by
              by_cases z : d = i
              · rw [z]; unfold okD; omega
              · exact hA d h1 (by omega)⟩) (by (try dsimp only); omega))
      · intro h53
        refine g_iconst 57 C dX3_fits_56 rfl ?_
        exact g_zret C hr dX3_fits_57 (by first | rfl | decide | (split <;> rfl)) ⟨g_ri ((cI_f (fun q => by have z := q i (by omega) (by omega); unfold okD at z; omega)).symm), rfl⟩
    · intro h38
      refine g_iload 43 C 0 dX3_fits_41 rfl rfl ?_
      refine g_iconst 44 C dX3_fits_43 rfl ?_
      refine g_icmp_ne 58 47 C dX3_fits_44 (by decide) rfl (by omega) ?_ ?_
      · intro h44
        refine g_iinc (lv' := [(2, _), (4, _), (3, _), (1, _), (0, _)]) 61 C 2 dX3_fits_58 rfl rfl (by decide) rfl ?_
        refine g_goto 2 C dX3_fits_61 (by decide) ?_
        exact g_w [0, 3, 4] rfl rfl (ih2 ((i + 1)) (by
            try dsimp only
            exact ⟨by omega, fun d h1 h2 => by
              by_cases z : d = i
              · rw [z]; unfold okD; omega
              · exact hA d h1 (by omega)⟩) (by (try dsimp only); omega))
      · intro h44
        refine g_goto 56 C dX3_fits_47 (by decide) ?_
        refine g_iconst 57 C dX3_fits_56 rfl ?_
        exact g_zret C hr dX3_fits_57 (by first | rfl | decide | (split <;> rfl)) ⟨g_ri ((cI_f (fun q => by have z := q i (by omega) (by omega); unfold okD at z; omega)).symm), rfl⟩
end
section
/-! a trial's test is what fits; the search's steps against the machine of its trials -/
theorem sdI_fln (W h p e : Nat) (hW : W < 6) (hh : h < 6) (hp : p < 25) (he : e < 4) : 1 ≤ W → 1 ≤ h → p < W * h → ((sdI W h p 0 = -9 ↔ (p : Int) / W = 0) ∧ (sdI W h p 1 = -9 ↔ (p : Int) % W = W - 1) ∧ (sdI W h p 2 = -9 ↔ (p : Int) / W = h - 1) ∧ (sdI W h p 3 = -9 ↔ (p : Int) % W = 0)) := chk4 (P := fun W h p e => 1 ≤ W → 1 ≤ h → p < W * h → ((sdI (W : Nat) (h : Nat) (p : Nat) 0 = -9 ↔ (p : Int) / W = 0) ∧ (sdI W h p 1 = -9 ↔ (p : Int) % W = W - 1) ∧ (sdI W h p 2 = -9 ↔ (p : Int) / W = h - 1) ∧ (sdI W h p 3 = -9 ↔ (p : Int) % W = 0))) (by decide +kernel) W h p e hW hh hp he
theorem sdI_fl {W h p : Int} (hB : 1 ≤ W ∧ W ≤ 5 ∧ 1 ≤ h ∧ h ≤ 5) (hp : 0 ≤ p ∧ p < W * h) : (sdI W h p 0 = -9 ↔ p / W = 0) ∧ (sdI W h p 1 = -9 ↔ p % W = W - 1) ∧ (sdI W h p 2 = -9 ↔ p / W = h - 1) ∧ (sdI W h p 3 = -9 ↔ p % W = 0) := by
  have hn := nsd_b hB
  obtain ⟨w, rfl⟩ := Int.eq_ofNat_of_zero_le (show 0 ≤ W by omega)
  obtain ⟨k, rfl⟩ := Int.eq_ofNat_of_zero_le (show 0 ≤ h by omega)
  obtain ⟨q, rfl⟩ := Int.eq_ofNat_of_zero_le hp.1
  have hq : q < w * k := by
    have := hp.2
    rw [← Int.natCast_mul] at this
    omega
  exact sdI_fln w k q 0 (by omega) (by omega) (by have := hn.2.2.2; omega) (by omega) (by omega) (by omega) hq
theorem shV_m {W h : Int} {hs pc tn : Int → Int} (hh : hB9 hs) (v d : Int) : (shV W h hs pc tn v d = -1 ↔ ftF W h pc tn v d) ∧ -1 ≤ shV W h hs pc tn v d ∧ shV W h hs pc tn v d < 2476099 ∧ (¬ ftF W h pc tn v d → shV W h hs pc tn v d = coI W h hs (pc (v / 4)) (edI tn v d)) := by
  have hb := coI_b (W := W) (h := h) hh (pc (v / 4)) (edI tn v d)
  unfold shV ftF
  by_cases z : sdI W h (pc (v / 4)) (edI tn v d) = -9
  · rw [if_pos z]; exact ⟨⟨fun _ => z, fun _ => rfl⟩, by omega, by omega, fun q => absurd z q⟩
  · rw [if_neg z]; exact ⟨⟨fun q => by omega, fun q => absurd q z⟩, by omega, by omega, fun _ => rfl⟩
theorem fiV_m {W h : Int} {hs pc tn : Int → Int} (hh : hB9 hs) (v d : Int) : -1 ≤ fiV W h hs pc tn v d ∧ fiV W h hs pc tn v d < 2476099 ∧ (¬ ftF W h pc tn v d → fiV W h hs pc tn v d = maI W h hs (pc (v / 4)) (edI tn v d)) := by
  have hb := maI_b (W := W) (h := h) hh (pc (v / 4)) (edI tn v d)
  unfold fiV ftF
  by_cases z : sdI W h (pc (v / 4)) (edI tn v d) = -9
  · rw [if_pos z]; exact ⟨by omega, by omega, fun q => absurd z q⟩
  · rw [if_neg z]; exact ⟨by omega, by omega, fun _ => rfl⟩
theorem kW_f {W k : Int} (hW : 1 ≤ W) (hk : 0 ≤ k) (h : k / W ≠ 0) : 0 ≤ k - W ∧ (k - W) / W = k / W - 1 := by
  have h1 : W ≤ k := by
    by_cases z : k < W
    · exact absurd (Int.ediv_eq_zero_of_lt hk z) h
    · omega
  refine ⟨by omega, ?_⟩
  have := Int.add_mul_ediv_right k (-1) (show W ≠ 0 by omega)
  rw [show k + -1 * W = k - W by omega] at this
  omega
theorem k1_f {W k : Int} (hW : 1 ≤ W) (hk : 0 ≤ k) (h : k % W ≠ 0) : 0 ≤ k - 1 ∧ (k - 1) % W = k % W - 1 := by
  have h0 := Int.emod_nonneg k (show W ≠ 0 by omega)
  have h1 := Int.emod_lt_of_pos k (show 0 < W by omega)
  refine ⟨?_, ?_⟩
  · by_cases z : k = 0
    · rw [z, Int.zero_emod] at h; omega
    · omega
  · have e := Int.mul_ediv_add_emod k W
    rw [show k - 1 = (k % W - 1) + W * (k / W) by omega, Int.add_mul_emod_self_left]
    exact Int.emod_eq_of_lt (by omega) (by omega)
section FI
variable {W h n k v : Int} {hs pc tn fi sh ly wa q : Int → Int}
theorem waV_f (hB : 1 ≤ W ∧ W ≤ 5 ∧ 1 ≤ h ∧ h ≤ 5) (hk : 0 ≤ k ∧ k < W * h) (hh : hB9 hs) (hLY : ∀ j, 0 ≤ j ∧ j < k → 0 ≤ ly j ∧ ly j < n * 4 ∧ FT W h hs pc tn ly j) (hFI : ∀ v d : Int, 0 ≤ v ∧ v < n * 4 → 0 ≤ d ∧ d < 4 → fi (v * 4 + d) = fiV W h hs pc tn v d) :
    (waV W h fi ly k 0 = if k / W = 0 then -1 else maI W h hs (pc (ly (k - W) / 4)) (edI tn (ly (k - W)) 2)) ∧ (k / W ≠ 0 → ¬ ftF W h pc tn (ly (k - W)) 2) ∧ (waV W h fi ly k 1 = if k % W = W - 1 then -1 else -2) ∧ (waV W h fi ly k 2 = if k / W = h - 1 then -1 else -2) ∧ (waV W h fi ly k 3 = if k % W = 0 then -1 else maI W h hs (pc (ly (k - 1) / 4)) (edI tn (ly (k - 1)) 1)) ∧ (k % W ≠ 0 → ¬ ftF W h pc tn (ly (k - 1)) 1) := by
  obtain ⟨f0, f1, f2, f3⟩ := sdI_fl hB hk
  have n2 : k / W ≠ 0 → ¬ ftF W h pc tn (ly (k - W)) 2 := fun z => by
    obtain ⟨a1, a2⟩ := kW_f hB.1 hk.1 z
    obtain ⟨-, -, b⟩ := hLY (k - W) ⟨a1, by omega⟩
    intro y
    have := b.1.2.2.1.mp y
    have h9 : k / W < h := Int.ediv_lt_of_lt_mul (by omega) (by rw [Int.mul_comm]; exact hk.2)
    omega
  have n1 : k % W ≠ 0 → ¬ ftF W h pc tn (ly (k - 1)) 1 := fun z => by
    obtain ⟨a1, a2⟩ := k1_f hB.1 hk.1 z
    obtain ⟨-, -, b⟩ := hLY (k - 1) ⟨a1, by omega⟩
    intro y
    have := b.1.2.1.mp y
    have h9 := Int.emod_lt_of_pos k (show 0 < W by omega)
    omega
  have x0 : nxI W k 0 = k - W := rfl
  have x1 : nxI W k 1 = k + 1 := rfl
  have x2 : nxI W k 2 = k + W := rfl
  have x3 : nxI W k 3 = k - 1 := rfl
  refine ⟨?_, n2, ?_, ?_, ?_, n1⟩
  · unfold waV
    rw [x0]
    by_cases z : k / W = 0
    · rw [if_pos z, if_pos (f0.mpr z)]
    · obtain ⟨a1, a2⟩ := kW_f hB.1 hk.1 z
      obtain ⟨b1, b2, -⟩ := hLY (k - W) ⟨a1, by omega⟩
      rw [if_neg z, if_neg (fun y => z (f0.mp y)), if_pos ⟨a1, by omega⟩, show ((0 : Int) + 2) % 4 = 2 from rfl, hFI _ 2 ⟨b1, b2⟩ (by omega), (fiV_m hh _ _).2.2 (n2 z)]
  · unfold waV
    rw [x1]
    by_cases z : k % W = W - 1
    · rw [if_pos z, if_pos (f1.mpr z)]
    · rw [if_neg z, if_neg (fun y => z (f1.mp y)), if_neg (by omega)]
  · unfold waV
    rw [x2]
    by_cases z : k / W = h - 1
    · rw [if_pos z, if_pos (f2.mpr z)]
    · rw [if_neg z, if_neg (fun y => z (f2.mp y)), if_neg (by omega)]
  · unfold waV
    rw [x3]
    by_cases z : k % W = 0
    · rw [if_pos z, if_pos (f3.mpr z)]
    · obtain ⟨a1, a2⟩ := k1_f hB.1 hk.1 z
      obtain ⟨b1, b2, -⟩ := hLY (k - 1) ⟨a1, by omega⟩
      rw [if_neg z, if_neg (fun y => z (f3.mp y)), if_pos ⟨a1, by omega⟩, show ((3 : Int) + 2) % 4 = 1 from rfl, hFI _ 1 ⟨b1, b2⟩ (by omega), (fiV_m hh _ _).2.2 (n1 z)]
theorem waV_r (hB : 1 ≤ W ∧ W ≤ 5 ∧ 1 ≤ h ∧ h ≤ 5) (hk : 0 ≤ k ∧ k < W * h) (hh : hB9 hs) (hLY : ∀ j, 0 ≤ j ∧ j < k → 0 ≤ ly j ∧ ly j < n * 4 ∧ FT W h hs pc tn ly j) (hFI : ∀ v d : Int, 0 ≤ v ∧ v < n * 4 → 0 ≤ d ∧ d < 4 → fi (v * 4 + d) = fiV W h hs pc tn v d) (d : Int) (hd : 0 ≤ d ∧ d < 4) : -2147483648 ≤ waV W h fi ly k d ∧ waV W h fi ly k d < 2147483648 := by
  obtain ⟨a0, -, a1, a2, a3, -⟩ := waV_f hB hk hh hLY hFI
  have m0 := maI_b (W := W) (h := h) hh (pc (ly (k - W) / 4)) (edI tn (ly (k - W)) 2)
  have m1 := maI_b (W := W) (h := h) hh (pc (ly (k - 1) / 4)) (edI tn (ly (k - 1)) 1)
  have h4 : d = 0 ∨ d = 1 ∨ d = 2 ∨ d = 3 := by omega
  rcases h4 with rfl | rfl | rfl | rfl
  · rw [a0]; split <;> omega
  · rw [a1]; split <;> omega
  · rw [a2]; split <;> omega
  · rw [a3]; split <;> omega
theorem ok_b {a b : Int} {P : Prop} (hb : b = -1 ↔ P) {C : Prop} (hc : (C → a = -1) ∧ (¬ C → a = -2)) : ((a = -2 ∧ b ≠ -1) ∨ (a ≠ -2 ∧ b = a)) ↔ (P ↔ C) := by
  by_cases z : C
  · have := hc.1 z
    constructor
    · intro q
      exact ⟨fun _ => z, fun _ => hb.mp (by omega)⟩
    · intro q
      exact Or.inr ⟨by omega, by have := hb.mpr (q.mpr z); omega⟩
  · have := hc.2 z
    constructor
    · intro q
      exact ⟨fun p => by have := hb.mpr p; omega, fun p => absurd p z⟩
    · intro q
      exact Or.inl ⟨by omega, fun p => z (q.mp (hb.mp p))⟩
theorem ok_m {a b co ma fr : Int} {P C M : Prop} (hb : b = -1 ↔ P) (hbn : ¬ P → b = co) (hc : (C → a = -1) ∧ (¬ C → a = ma)) (hm : 0 ≤ ma) (hM : ¬ C → ¬ M) (hf : co = ma ↔ fr = 0) : ((a = -2 ∧ b ≠ -1) ∨ (a ≠ -2 ∧ b = a)) ↔ ((P ↔ C) ∧ (C ∨ (¬ P ∧ ¬ M ∧ fr = 0))) := by
  by_cases z : C
  · have := hc.1 z
    constructor
    · intro q
      exact ⟨⟨fun _ => z, fun _ => hb.mp (by omega)⟩, Or.inl z⟩
    · intro q
      exact Or.inr ⟨by omega, by have := hb.mpr (q.1.mpr z); omega⟩
  · have ha := hc.2 z
    constructor
    · intro q
      have e : b = a := by omega
      have np : ¬ P := fun p => by have := hb.mpr p; omega
      exact ⟨⟨fun p => absurd p np, fun p => absurd p z⟩, Or.inr ⟨np, hM z, hf.mp (by rw [← hbn np, e, ha])⟩⟩
    · intro q
      rcases q.2 with y | ⟨y1, y2, y3⟩
      · exact absurd y z
      · exact Or.inr ⟨by omega, by rw [hbn y1, ha]; exact hf.mpr y3⟩
theorem fits_iff (hB : 1 ≤ W ∧ W ≤ 5 ∧ 1 ≤ h ∧ h ≤ 5) (hk : 0 ≤ k ∧ k < W * h) (hh : hB9 hs) (hLY : ∀ j, 0 ≤ j ∧ j < k → 0 ≤ ly j ∧ ly j < n * 4 ∧ FT W h hs pc tn ly j) (hSH : ∀ v d : Int, 0 ≤ v ∧ v < n * 4 → 0 ≤ d ∧ d < 4 → sh (v * 4 + d) = shV W h hs pc tn v d) (hFI : ∀ v d : Int, 0 ≤ v ∧ v < n * 4 → 0 ≤ d ∧ d < 4 → fi (v * 4 + d) = fiV W h hs pc tn v d)
    (hwa : ∀ d, 0 ≤ d ∧ d < 4 → wa (k * 4 + d) = waV W h fi ly k d) (hv : 0 ≤ v ∧ v < n * 4) (hq : ∀ j, 0 ≤ j ∧ j < k → q j = ly j) (hqk : q k = v) : (∀ d : Int, 0 ≤ d → d < 4 → okD wa sh v k d) ↔ FT W h hs pc tn q k := by
  obtain ⟨a0, n0, a1, a2, a3, n3⟩ := waV_f hB hk hh hLY hFI
  have s0 := shV_m (W := W) (h := h) (pc := pc) (tn := tn) hh v 0
  have s1 := shV_m (W := W) (h := h) (pc := pc) (tn := tn) hh v 1
  have s2 := shV_m (W := W) (h := h) (pc := pc) (tn := tn) hh v 2
  have s3 := shV_m (W := W) (h := h) (pc := pc) (tn := tn) hh v 3
  have e0 : okD wa sh v k 0 ↔ ((ftF W h pc tn v 0 ↔ k / W = 0) ∧ (k / W = 0 ∨ ftM W h hs pc tn v 0 (ly (k - W)) 2)) := by
    unfold okD
    rw [hwa 0 (by omega), hSH v 0 hv (by omega)]
    exact ok_m s0.1 s0.2.2.2 ⟨fun z => by rw [a0, if_pos z], fun z => by rw [a0, if_neg z]⟩ (maI_b hh _ _).1 n0 (coI_ma hh _ _ _ _)
  have e3 : okD wa sh v k 3 ↔ ((ftF W h pc tn v 3 ↔ k % W = 0) ∧ (k % W = 0 ∨ ftM W h hs pc tn v 3 (ly (k - 1)) 1)) := by
    unfold okD
    rw [hwa 3 (by omega), hSH v 3 hv (by omega)]
    exact ok_m s3.1 s3.2.2.2 ⟨fun z => by rw [a3, if_pos z], fun z => by rw [a3, if_neg z]⟩ (maI_b hh _ _).1 n3 (coI_ma hh _ _ _ _)
  have e1 : okD wa sh v k 1 ↔ (ftF W h pc tn v 1 ↔ k % W = W - 1) := by
    unfold okD
    rw [hwa 1 (by omega), hSH v 1 hv (by omega)]
    exact ok_b s1.1 ⟨fun z => by rw [a1, if_pos z], fun z => by rw [a1, if_neg z]⟩
  have e2 : okD wa sh v k 2 ↔ (ftF W h pc tn v 2 ↔ k / W = h - 1) := by
    unfold okD
    rw [hwa 2 (by omega), hSH v 2 hv (by omega)]
    exact ok_b s2.1 ⟨fun z => by rw [a2, if_pos z], fun z => by rw [a2, if_neg z]⟩
  have hall : (∀ d : Int, 0 ≤ d → d < 4 → okD wa sh v k d) ↔ (okD wa sh v k 0 ∧ okD wa sh v k 1 ∧ okD wa sh v k 2 ∧ okD wa sh v k 3) := by
    constructor
    · exact fun z => ⟨z 0 (by omega) (by omega), z 1 (by omega) (by omega), z 2 (by omega) (by omega), z 3 (by omega) (by omega)⟩
    · rintro ⟨z0, z1, z2, z3⟩ d h1 h2
      have h4 : d = 0 ∨ d = 1 ∨ d = 2 ∨ d = 3 := by omega
      rcases h4 with rfl | rfl | rfl | rfl <;> assumption
  rw [hall, e0, e1, e2, e3]
  unfold FT
  rw [hqk]
  constructor
  · rintro ⟨⟨z0, y0⟩, z1, z2, z3, y3⟩
    refine ⟨⟨z0, z1, z2, z3⟩, ?_, ?_⟩
    · by_cases c : k / W = 0
      · exact Or.inl c
      · rw [hq (k - W) ⟨(kW_f hB.1 hk.1 c).1, by omega⟩]; exact y0
    · by_cases c : k % W = 0
      · exact Or.inl c
      · rw [hq (k - 1) ⟨(k1_f hB.1 hk.1 c).1, by omega⟩]; exact y3
  · rintro ⟨⟨z0, z1, z2, z3⟩, y0, y3⟩
    refine ⟨⟨z0, ?_⟩, z1, z2, z3, ?_⟩
    · by_cases c : k / W = 0
      · exact Or.inl c
      · rw [hq (k - W) ⟨(kW_f hB.1 hk.1 c).1, by omega⟩] at y0; exact y0
    · by_cases c : k % W = 0
      · exact Or.inl c
      · rw [hq (k - 1) ⟨(k1_f hB.1 hk.1 c).1, by omega⟩] at y3; exact y3
end FI
end
section
/-! a level of the search: what holds at its candidates, and how it ends -/
def flI (F : (Int → Int) → Int → Prop) (n N fo k : Int) (us ly wa wv : Int → Int) (e0 : gS) (c : Int) (us1 ly1 wa1 : Int → Int) (fd tc : Int) : Prop :=
  ((0 ≤ fd ∧ fd ≤ tc ∧ tc ≤ 60000) ∧ (fo = 1 → fd = 0)) ∧ (∀ j, 0 ≤ j ∧ j < n → us1 j = us j) ∧ (∀ j, 0 ≤ j ∧ j < k → ly1 j = ly j) ∧ (∀ d, 0 ≤ d ∧ d < 4 → wa1 (k * 4 + d) = wv d) ∧ (∀ j, j < k * 4 → wa1 j = wa j) ∧ ∃ q u : Int → Int, (∀ j, 0 ≤ j ∧ j < k → q j = ly j) ∧ q k = c ∧ (∀ j, 0 ≤ j ∧ j < n → u j = us j) ∧ rcS F n N fo e0 (k, q, u, tc, fd)
def fillR (F : (Int → Int) → Int → Prop) (n N fo k : Int) (us ly wa : Int → Int) (e0 : gS) (us2 ly2 wa2 : Int → Int) (sp2 fd2 tc2 : Int) : Prop :=
  (0 ≤ fd2 ∧ fd2 ≤ tc2 ∧ tc2 ≤ 60000) ∧
  ((sp2 = 1 ∧ ∃ (m : Nat) (q u : Int → Int), itS F n N fo m e0 = (-2, q, u, tc2, fd2))
  ∨ (sp2 = 0 ∧ fo = 1 ∧ fd2 = 1 ∧ (∃ (m : Nat) (q u : Int → Int), itS F n N fo m e0 = (-3, q, u, tc2, fd2) ∧ ∀ j, 0 ≤ j ∧ j < N → q j = ly2 j) ∧ ∀ j, 0 ≤ j ∧ j < N → 0 ≤ ly2 j ∧ ly2 j < 100)
  ∨ (sp2 = 0 ∧ (fo = 1 → fd2 = 0) ∧ (∀ j, 0 ≤ j ∧ j < n → us2 j = us j) ∧ (∀ j, 0 ≤ j ∧ j < k → ly2 j = ly j) ∧ (∀ j, j < k * 4 → wa2 j = wa j) ∧ ∃ (m : Nat) (q u : Int → Int), itS F n N fo m e0 = (k - 1, q, u, tc2, fd2) ∧ (∀ j, 0 ≤ j ∧ j < k → q j = ly j) ∧ (0 < k → ∀ j, 0 ≤ j ∧ j < n → u j = uI us (ly (k - 1) / 4) 0 j)))
theorem uI_2 (f : Int → Int) (z v w : Int) : uI (uI f z v) z w = uI f z w := by
  funext j
  unfold uI
  by_cases e : j = z
  · rw [if_pos e, if_pos e]
  · rw [if_neg e, if_neg e, if_neg e]
theorem skp_ex {u : Int → Int} {n : Int} (hn : n ≤ 25) : ∀ (m : Nat) (a : Int), 0 ≤ a → a ≤ 26 → 26 - a ≤ m → ∃ b, a ≤ b ∧ b ≤ 26 ∧ (∀ j, a ≤ j → j < b → j < n ∧ u j ≠ 0) ∧ (n ≤ b ∨ u b = 0)
  | 0, a, h0, h1, h2 => ⟨a, Int.le_refl _, h1, fun j h3 h4 => by omega, Or.inl (by omega)⟩
  | m + 1, a, h0, h1, h2 => by
    by_cases c : a < n ∧ u a ≠ 0
    · obtain ⟨b, b1, b2, b3, b4⟩ := skp_ex (u := u) hn m (a + 1) (by omega) (by omega) (by omega)
      refine ⟨b, by omega, b2, fun j h3 h4 => ?_, b4⟩
      by_cases z : j = a
      · rw [z]; exact c
      · exact b3 j (by omega) h4
    · refine ⟨a, Int.le_refl _, h1, fun j h3 h4 => by omega, ?_⟩
      by_cases z : a < n
      · exact Or.inr (Classical.byContradiction fun y => c ⟨z, y⟩)
      · exact Or.inl (by omega)
section FL
variable {F : (Int → Int) → Int → Prop} {n N fo k : Int} {us ly wa wv us1 ly1 wa1 : Int → Int} {e0 : gS} {i t fd tc : Int}
theorem stA_q (q u : Int → Int) (a v c : Int) : stA F n N fo k (uI q k c) u tc fd a v = stA F n N fo k q u tc fd a v := by
  unfold stA
  rw [uI_2]
theorem fl_skip (hk : 0 ≤ k) (hn : n ≤ 25) (hi : 0 ≤ i ∧ i < n) (hu : us1 i ≠ 0) (h : flI F n N fo k us ly wa wv e0 (i * 4 - 1) us1 ly1 wa1 fd tc) : flI F n N fo k us ly wa wv e0 ((i + 1) * 4 - 1) us1 ly1 wa1 fd tc := by
  obtain ⟨h1, h2, h3, h4, h5, q, u, hq, hqk, hu2, hr⟩ := h
  refine ⟨h1, h2, h3, h4, h5, uI q k ((i + 1) * 4 - 1), u, fun j hj => by rw [uI_ne (by omega)]; exact hq j hj, uI_eq _ _ _, hu2, rc_eq hr ?_⟩
  obtain ⟨b, b1, b2, b3, b4⟩ := skp_ex (u := u) hn 30 (i + 1) (by omega) (by omega) (by omega)
  have ui : u i ≠ 0 := by rw [hu2 i hi, ← h2 i hi]; exact hu
  have s1 : skp u n ((q k + 1) / 4) = b := by
    rw [hqk, show (i * 4 - 1 + 1) / 4 = i by omega]
    refine skp_u hi.1 hn (by omega) b2 (fun j h6 h7 => ?_) b4
    by_cases z : j = i
    · rw [z]; exact ⟨hi.2, ui⟩
    · exact b3 j (by omega) h7
  have s2 : skp u n ((uI q k ((i + 1) * 4 - 1) k + 1) / 4) = b := by
    rw [uI_eq, show ((i + 1) * 4 - 1 + 1) / 4 = i + 1 by omega]
    exact skp_u (by omega) hn b1 b2 b3 b4
  rw [st_go hk s1, st_go hk s2, stA_q, uI_eq, hqk, show (i * 4 - 1 + 1) % 4 = 0 by omega, show ((i + 1) * 4 - 1 + 1) % 4 = 0 by omega]
theorem fl_exit (hk : 0 ≤ k) (hn : 0 ≤ n ∧ n ≤ 25) (h : flI F n N fo k us ly wa wv e0 (n * 4 - 1) us1 ly1 wa1 fd tc) : fillR F n N fo k us ly wa e0 us1 ly1 wa1 0 fd tc := by
  obtain ⟨h1, h2, h3, h4, h5, q, u, hq, hqk, hu2, hr⟩ := h
  have s1 : skp u n ((q k + 1) / 4) = n := by
    rw [hqk, show (n * 4 - 1 + 1) / 4 = n by omega]
    exact skp_u hn.1 hn.2 (Int.le_refl _) (by omega) (fun j h6 h7 => by omega) (Or.inl (Int.le_refl _))
  refine ⟨h1.1, Or.inr (Or.inr ⟨rfl, h1.2, h2, h3, h5, ?_⟩)⟩
  by_cases z : k = 0
  · obtain ⟨m, e⟩ := rc_st hr (st_back0 z s1 (Int.le_refl _))
    exact ⟨m, _, _, by rw [e, z]; rfl, fun j hj => by omega, fun y => by omega⟩
  · obtain ⟨m, e⟩ := rc_st hr (st_back (by omega) s1 (Int.le_refl _))
    refine ⟨m, _, _, e, fun j hj => by rw [uI_ne (by omega)]; exact hq j hj, fun _ j hj => ?_⟩
    rw [hq (k - 1) (by omega)]
    unfold uI
    split
    · rfl
    · exact hu2 j hj
theorem fl_at (hn : n ≤ 25) (hi : 0 ≤ i ∧ i < n) (ht : 0 ≤ t ∧ t < 4) {u : Int → Int} {c : Int} (hc : c = i * 4 + t - 1) (hu : u i = 0) : skp u n ((c + 1) / 4) = i ∧ i * 4 + (c + 1) % 4 = i * 4 + t := by
  subst hc
  refine ⟨?_, by omega⟩
  rw [show (i * 4 + t - 1 + 1) / 4 = i by omega]
  exact skp_u hi.1 hn (Int.le_refl _) (by omega) (fun j h6 h7 => by omega) (Or.inr hu)
theorem fl_spent (hk : 0 ≤ k) (hn : n ≤ 25) (hi : 0 ≤ i ∧ i < n) (ht : 0 ≤ t ∧ t < 4) (hu : us1 i = 0) (htc : 60000 ≤ tc) (h : flI F n N fo k us ly wa wv e0 (i * 4 + t - 1) us1 ly1 wa1 fd tc) {us3 ly3 wa3 : Int → Int} : fillR F n N fo k us ly wa e0 us3 ly3 wa3 1 fd tc := by
  obtain ⟨h1, h2, h3, h4, h5, q, u, hq, hqk, hu2, hr⟩ := h
  obtain ⟨s1, s2⟩ := fl_at hn hi ht hqk ((hu2 i hi).trans ((h2 i hi).symm.trans hu))
  obtain ⟨m, e⟩ := rc_st hr (st_spent hk s1 hi.2 (by omega))
  exact ⟨h1.1, Or.inl ⟨rfl, m, _, _, e⟩⟩
theorem fl_not (hk : 0 ≤ k) (hn : n ≤ 25) (hi : 0 ≤ i ∧ i < n) (ht : 0 ≤ t ∧ t < 4) (hu : us1 i = 0) (htc : tc < 60000) (hF : ∀ q : Int → Int, (∀ j, 0 ≤ j ∧ j < k → q j = ly j) → q k = i * 4 + t → ¬ F q k) (h : flI F n N fo k us ly wa wv e0 (i * 4 + t - 1) us1 ly1 wa1 fd tc) : flI F n N fo k us ly wa wv e0 (i * 4 + (t + 1) - 1) us1 (uI ly1 k (i * 4 + t)) wa1 fd (tc + 1) := by
  obtain ⟨h1, h2, h3, h4, h5, q, u, hq, hqk, hu2, hr⟩ := h
  obtain ⟨s1, s2⟩ := fl_at hn hi ht hqk ((hu2 i hi).trans ((h2 i hi).symm.trans hu))
  have hq1 : ∀ j, 0 ≤ j ∧ j < k → uI q k (i * 4 + (q k + 1) % 4) j = ly j := fun j hj => by rw [uI_ne (by omega)]; exact hq j hj
  have hq2 : uI q k (i * 4 + (q k + 1) % 4) k = i * 4 + t := by rw [uI_eq]; exact s2
  have e := st_not (tc := tc) (fd := fd) (N := N) (fo := fo) hk s1 hi.2 (by omega) (hF _ hq1 hq2)
  exact ⟨⟨by omega, h1.2⟩, h2, fun j hj => by rw [uI_ne (by omega)]; exact h3 j hj, h4, h5, _, _, hq1, by rw [hq2]; omega, hu2, rc_it (rc_st hr e)⟩
theorem fl_last1 (hk : 0 ≤ k) (hn : n ≤ 25) (hi : 0 ≤ i ∧ i < n) (ht : 0 ≤ t ∧ t < 4) (hu : us1 i = 0) (htc : tc < 60000) (hN : k + 1 = N) (hfo : fo = 1) (hlb : ∀ j, 0 ≤ j ∧ j < k → 0 ≤ ly j ∧ ly j < 100) (hF : ∀ q : Int → Int, (∀ j, 0 ≤ j ∧ j < k → q j = ly j) → q k = i * 4 + t → F q k) (h : flI F n N fo k us ly wa wv e0 (i * 4 + t - 1) us1 ly1 wa1 fd tc) {us3 wa3 : Int → Int} : fillR F n N fo k us ly wa e0 us3 (uI ly1 k (i * 4 + t)) wa3 0 (fd + 1) (tc + 1) := by
  obtain ⟨h1, h2, h3, h4, h5, q, u, hq, hqk, hu2, hr⟩ := h
  obtain ⟨s1, s2⟩ := fl_at hn hi ht hqk ((hu2 i hi).trans ((h2 i hi).symm.trans hu))
  have hq1 : ∀ j, 0 ≤ j ∧ j < k → uI q k (i * 4 + (q k + 1) % 4) j = ly j := fun j hj => by rw [uI_ne (by omega)]; exact hq j hj
  have hq2 : uI q k (i * 4 + (q k + 1) % 4) k = i * 4 + t := by rw [uI_eq]; exact s2
  have hf0 := h1.2 hfo
  obtain ⟨m, e⟩ := rc_st hr (st_last1 hk s1 hi.2 (by omega) (hF _ hq1 hq2) (by omega) ⟨hfo, by omega⟩)
  have hly : ∀ j, 0 ≤ j ∧ j < N → uI q k (i * 4 + (q k + 1) % 4) j = uI ly1 k (i * 4 + t) j := fun j hj => by
    by_cases z : j = k
    · rw [z, uI_eq, uI_eq]; exact s2
    · rw [uI_ne z, uI_ne z, hq j (by omega), h3 j (by omega)]
  refine ⟨by omega, Or.inr (Or.inl ⟨rfl, hfo, by omega, ⟨m, _, _, e, hly⟩, fun j hj => ?_⟩)⟩
  by_cases z : j = k
  · rw [z, uI_eq]; omega
  · rw [uI_ne z, h3 j (by omega)]; exact hlb j (by omega)
theorem fl_last (hk : 0 ≤ k) (hn : n ≤ 25) (hi : 0 ≤ i ∧ i < n) (ht : 0 ≤ t ∧ t < 4) (hu : us1 i = 0) (htc : tc < 60000) (hN : k + 1 = N) (hfo : fo ≠ 1) (hF : ∀ q : Int → Int, (∀ j, 0 ≤ j ∧ j < k → q j = ly j) → q k = i * 4 + t → F q k) (h : flI F n N fo k us ly wa wv e0 (i * 4 + t - 1) us1 ly1 wa1 fd tc) : flI F n N fo k us ly wa wv e0 (i * 4 + (t + 1) - 1) (uI (uI us1 i 1) i 0) (uI ly1 k (i * 4 + t)) wa1 (fd + 1) (tc + 1) := by
  obtain ⟨h1, h2, h3, h4, h5, q, u, hq, hqk, hu2, hr⟩ := h
  obtain ⟨s1, s2⟩ := fl_at hn hi ht hqk ((hu2 i hi).trans ((h2 i hi).symm.trans hu))
  have hq1 : ∀ j, 0 ≤ j ∧ j < k → uI q k (i * 4 + (q k + 1) % 4) j = ly j := fun j hj => by rw [uI_ne (by omega)]; exact hq j hj
  have hq2 : uI q k (i * 4 + (q k + 1) % 4) k = i * 4 + t := by rw [uI_eq]; exact s2
  have e := st_last (tc := tc) (fd := fd) (N := N) (fo := fo) hk s1 hi.2 (by omega) (hF _ hq1 hq2) (by omega) (by omega)
  refine ⟨⟨by omega, fun z => absurd z hfo⟩, fun j hj => ?_, fun j hj => by rw [uI_ne (by omega)]; exact h3 j hj, h4, h5, _, _, hq1, by rw [hq2]; omega, hu2, rc_it (rc_st hr e)⟩
  rw [uI_2]
  by_cases z : j = i
  · rw [z, uI_eq, ← h2 i hi, hu]
  · rw [uI_ne z]; exact h2 j hj
/-- one level further down -/
theorem fl_down (hk : 0 ≤ k) (hn : n ≤ 25) (hi : 0 ≤ i ∧ i < n) (ht : 0 ≤ t ∧ t < 4) (hu : us1 i = 0) (htc : tc < 60000) (hN : k + 1 ≠ N) (hF : ∀ q : Int → Int, (∀ j, 0 ≤ j ∧ j < k → q j = ly j) → q k = i * 4 + t → F q k) (h : flI F n N fo k us ly wa wv e0 (i * 4 + t - 1) us1 ly1 wa1 fd tc) :
    ∃ q1 u1 : Int → Int, (∀ j, 0 ≤ j ∧ j < k + 1 → q1 j = uI ly1 k (i * 4 + t) j) ∧ q1 (k + 1) = -1 ∧ (∀ j, 0 ≤ j ∧ j < n → u1 j = uI us1 i 1 j) ∧ ∃ m : Nat, itS F n N fo m e0 = (k + 1, q1, u1, tc + 1, fd) := by
  obtain ⟨h1, h2, h3, h4, h5, q, u, hq, hqk, hu2, hr⟩ := h
  obtain ⟨s1, s2⟩ := fl_at hn hi ht hqk ((hu2 i hi).trans ((h2 i hi).symm.trans hu))
  have hq1 : ∀ j, 0 ≤ j ∧ j < k → uI q k (i * 4 + (q k + 1) % 4) j = ly j := fun j hj => by rw [uI_ne (by omega)]; exact hq j hj
  have hq2 : uI q k (i * 4 + (q k + 1) % 4) k = i * 4 + t := by rw [uI_eq]; exact s2
  have e := st_down (tc := tc) (fd := fd) (N := N) (fo := fo) hk s1 hi.2 (by omega) (hF _ hq1 hq2) (by omega)
  refine ⟨_, _, fun j hj => ?_, uI_eq _ _ _, fun j hj => ?_, rc_st hr e⟩
  · rw [uI_ne (by omega)]
    by_cases z : j = k
    · rw [z, hq2, uI_eq]
    · rw [hq1 j (by omega), uI_ne z, h3 j (by omega)]
  · by_cases z : j = i
    · rw [z, uI_eq, uI_eq]
    · rw [uI_ne z, uI_ne z, hu2 j hj, h2 j hj]
theorem fl_up1 {e1 : gS} {us2 ly2 wa2 us3 ly3 wa3 : Int → Int} {sp2 fd2 tc2 : Int} (hb : 0 ≤ fd2 ∧ fd2 ≤ tc2 ∧ tc2 ≤ 60000) (hm : ∃ m : Nat, itS F n N fo m e0 = e1) (h : ∃ (m : Nat) (q u : Int → Int), itS F n N fo m e1 = (-2, q, u, tc2, fd2)) : fillR F n N fo k us ly wa e0 us3 ly3 wa3 1 fd2 tc2 := by
  obtain ⟨m, q, u, e⟩ := h
  obtain ⟨m2, e2⟩ := it_tr hm ⟨m, e⟩
  exact ⟨hb, Or.inl ⟨rfl, m2, q, u, e2⟩⟩
theorem fl_up2 {e1 : gS} {us3 ly2 wa3 : Int → Int} {fd2 tc2 : Int} (hb : 0 ≤ fd2 ∧ fd2 ≤ tc2 ∧ tc2 ≤ 60000) (hfo : fo = 1) (hfd : fd2 = 1) (hm : ∃ m : Nat, itS F n N fo m e0 = e1) (h : ∃ (m : Nat) (q u : Int → Int), itS F n N fo m e1 = (-3, q, u, tc2, fd2) ∧ ∀ j, 0 ≤ j ∧ j < N → q j = ly2 j) (hl : ∀ j, 0 ≤ j ∧ j < N → 0 ≤ ly2 j ∧ ly2 j < 100) : fillR F n N fo k us ly wa e0 us3 ly2 wa3 0 fd2 tc2 := by
  obtain ⟨m, q, u, e, hq⟩ := h
  obtain ⟨m2, e2⟩ := it_tr hm ⟨m, e⟩
  exact ⟨hb, Or.inr (Or.inl ⟨rfl, hfo, hfd, ⟨m2, q, u, e2, hq⟩, hl⟩)⟩
theorem fl_up3 {e1 : gS} {us2 ly2 wa2 : Int → Int} {fd2 tc2 : Int} (hk : 0 ≤ k) (hi : 0 ≤ i ∧ i < n) (ht : 0 ≤ t ∧ t < 4) (hu : us1 i = 0) (hb : 0 ≤ fd2 ∧ fd2 ≤ tc2 ∧ tc2 ≤ 60000) (hff : fo = 1 → fd2 = 0) (hus : ∀ j, 0 ≤ j ∧ j < n → us2 j = uI us1 i 1 j) (hly : ∀ j, 0 ≤ j ∧ j < k + 1 → ly2 j = uI ly1 k (i * 4 + t) j) (hwa : ∀ j, j < (k + 1) * 4 → wa2 j = wa1 j) (hm : ∃ m : Nat, itS F n N fo m e0 = e1)
    (hr : ∃ (m : Nat) (q u : Int → Int), itS F n N fo m e1 = (k + 1 - 1, q, u, tc2, fd2) ∧ (∀ j, 0 ≤ j ∧ j < k + 1 → q j = uI ly1 k (i * 4 + t) j) ∧ (0 < k + 1 → ∀ j, 0 ≤ j ∧ j < n → u j = uI (uI us1 i 1) (uI ly1 k (i * 4 + t) (k + 1 - 1) / 4) 0 j)) (h : flI F n N fo k us ly wa wv e0 (i * 4 + t - 1) us1 ly1 wa1 fd tc) : flI F n N fo k us ly wa wv e0 (i * 4 + (t + 1) - 1) (uI us2 i 0) ly2 wa2 fd2 tc2 := by
  obtain ⟨h1, h2, h3, h4, h5, -⟩ := h
  obtain ⟨m, q, u, e, hq, hu3⟩ := hr
  rw [show k + 1 - 1 = k by omega, uI_eq, show (i * 4 + t) / 4 = i by omega] at hu3
  rw [show k + 1 - 1 = k by omega] at e
  refine ⟨⟨hb, hff⟩, fun j hj => ?_, fun j hj => by rw [hly j (by omega), uI_ne (by omega)]; exact h3 j hj, fun d hd => by rw [hwa _ (by omega)]; exact h4 d hd, fun j hj => by rw [hwa j (by omega)]; exact h5 j hj, q, u, fun j hj => by rw [hq j (by omega), uI_ne (by omega)]; exact h3 j hj, by rw [hq k (by omega), uI_eq]; omega, fun j hj => ?_, rc_it (it_tr hm ⟨m, e⟩)⟩
  · by_cases z : j = i
    · rw [z, uI_eq, ← h2 i hi, hu]
    · rw [uI_ne z, hus j hj, uI_ne z]; exact h2 j hj
  · rw [hu3 (by omega) j hj]
    by_cases z : j = i
    · rw [z, uI_eq, ← h2 i hi, hu]
    · rw [uI_ne z, uI_ne z]; exact h2 j hj
end FL
end
section
/-! THE SEARCH: the contract of one level, by the levels that are left -/
def rmF (d : Nat) : Room := { frames := d + 4, cells := 0, slots := 0, locals := d * 40 + 200 }
theorem fl_init {F : (Int → Int) → Int → Prop} {n N fo k : Int} {us ly wa wv q0 u0 : Int → Int} {fd tc : Int} (hc : (0 ≤ fd ∧ fd ≤ tc ∧ tc ≤ 60000) ∧ (fo = 1 → fd = 0)) (hq0 : ∀ j : Int, 0 ≤ j ∧ j < k → q0 j = ly j) (hq1 : q0 k = -1) (hu0 : ∀ j : Int, 0 ≤ j ∧ j < n → u0 j = us j) : flI F n N fo k us ly wa wv (k, q0, u0, tc, fd) (0 * 4 - 1) us ly (laI wa k wv 4) fd tc :=
  ⟨hc, fun _ _ => rfl, fun _ _ => rfl, fun d hd => by
    unfold laI
    rw [if_pos (by omega), show k * 4 + d - k * 4 = d by omega], fun j hj => by
    unfold laI
    rw [if_neg (by omega)], q0, u0, hq0, hq1, hu0, rc_rf _⟩
def fillC (E : gE) (l : Launch) (d : Nat) : Prop := ∀ {a_L a_P a_R a_fi a_hs a_jl a_ly a_pc a_se a_sh a_tn a_us a_wa : Nat} {W h n k : Int} {hs se pc tn sh fi wa us ly q0 u0 : Int → Int} {jo fo fd tc : Int}, (1 ≤ W ∧ W ≤ 5 ∧ 1 ≤ h ∧ h ≤ 5) → (0 ≤ k ∧ k < W * h ∧ k + (d : Int) = W * h) → (∀ p e : Int, 0 ≤ p ∧ p < W * h → 0 ≤ e ∧ e < 4 → se (p * 4 + e) = sdI W h p e) → (hB9 hs) → (0 ≤ n ∧ n ≤ 25) → (∀ j : Int, 0 ≤ j ∧ j < n → (0 ≤ pc j ∧ pc j < W * h) ∧ 0 ≤ tn j ∧ tn j < 4) → (∀ j : Int, 0 ≤ j ∧ j < k → 0 ≤ ly j ∧ ly j < n * 4 ∧ FT W h hs pc tn ly j) → (∀ v d : Int, 0 ≤ v ∧ v < n * 4 → 0 ≤ d ∧ d < 4 → sh (v * 4 + d) = shV W h hs pc tn v d) → (∀ v d : Int, 0 ≤ v ∧ v < n * 4 → 0 ≤ d ∧ d < 4 → fi (v * 4 + d) = fiV W h hs pc tn v d) → (∀ j : Int, 0 ≤ j ∧ j < n → us j = 0 ∨ us j = 1) → ((0 ≤ fd ∧ fd ≤ tc ∧ tc ≤ 60000) ∧ (fo = 1 → fd = 0)) → (fo = 0 ∨ fo = 1) → (∀ j : Int, 0 ≤ j ∧ j < k → q0 j = ly j) → (q0 k = -1) → (∀ j : Int, 0 ≤ j ∧ j < n → u0 j = us j) → gMet E l yX3_fillFrom wsX3_fillFrom (rmF d) 0 0 [.ref a_R, .int (iI k)] [(a_R, .inr (3, [.ref a_P, .ref a_L, .ref a_sh, .ref a_fi, .ref a_wa, .ref a_us, .ref a_ly, .ref a_jl, .int (iI jo), .int (iI fo), .int (iI 0), .int (iI fd), .int (iI tc)])), (a_P, .inr (1, [.ref a_hs, .ref a_se, .int (iI W), .int (iI h)])), (a_se, aI E 100 se), (a_L, .inr (2, [.ref a_pc, .ref a_tn, .int (iI n)])), (a_sh, aI E 400 sh), (a_fi, aI E 400 fi), (a_wa, aI E 100 wa), (a_us, aZ E 25 us), (a_ly, aI E 25 ly)] (fun v w => ∃ (us2 ly2 wa2 : Int → Int) (sp2 fd2 tc2 : Int), (v = none ∧ fillR (FT W h hs pc tn) n (W * h) fo k us ly wa (k, q0, u0, tc, fd) us2 ly2 wa2 sp2 fd2 tc2) ∧ w = [(a_R, .inr (3, [.ref a_P, .ref a_L, .ref a_sh, .ref a_fi, .ref a_wa, .ref a_us, .ref a_ly, .ref a_jl, .int (iI jo), .int (iI fo), .int (iI sp2), .int (iI fd2), .int (iI tc2)])), (a_P, .inr (1, [.ref a_hs, .ref a_se, .int (iI W), .int (iI h)])), (a_se, aI E 100 se), (a_L, .inr (2, [.ref a_pc, .ref a_tn, .int (iI n)])), (a_sh, aI E 400 sh), (a_fi, aI E 400 fi), (a_wa, aI E 100 wa2), (a_us, aZ E 25 us2), (a_ly, aI E 25 ly2)])
theorem lX3_fillFrom_31 : Cond.fieldLink RX3 31 (TX3 0).1 (TX3 0).2.1 (TX3 0).2.2.1 ∈ wsX3_fillFrom := by decide +kernel
theorem lX3_fillFrom_60 : Cond.fieldLink RX3 60 (TX3 11).1 (TX3 11).2.1 (TX3 11).2.2.1 ∈ wsX3_fillFrom := by decide +kernel
theorem iX3_fillFrom_X3 : ∀ w ∈ u_ws RX3 TX3 13, w ∈ wsX3_fillFrom := by decide +kernel
set_option maxHeartbeats 4000000 in
set_option maxRecDepth 100000 in
theorem k_X3_fillFrom_0 (E : gE) (l : Launch) {a_L a_P a_R a_fi a_hs a_jl a_ly a_se a_sh a_us a_wa : Nat} {W h k : Int} {jo fo sp fd tc : Int} (hB : 1 ≤ W ∧ W ≤ 5 ∧ 1 ≤ h ∧ h ≤ 5) (hk : k = W * h) : gUpd E l yX3_fillFrom wsX3_fillFrom ({ frames := 4, cells := 0, slots := 0, locals := 100 } : Room) [.ref a_R, .int (iI k)] [(a_R, .inr (3, [.ref a_P, .ref a_L, .ref a_sh, .ref a_fi, .ref a_wa, .ref a_us, .ref a_ly, .ref a_jl, .int (iI jo), .int (iI fo), .int (iI sp), .int (iI fd), .int (iI tc)])), (a_P, .inr (1, [.ref a_hs, .ref a_se, .int (iI W), .int (iI h)]))] none [(a_R, .inr (3, [.ref a_P, .ref a_L, .ref a_sh, .ref a_fi, .ref a_wa, .ref a_us, .ref a_ly, .ref a_jl, .int (iI jo), .int (iI fo), .int (iI sp), .int (iI (fd + 1)), .int (iI tc)])), (a_P, .inr (1, [.ref a_hs, .ref a_se, .int (iI W), .int (iI h)]))] := by
  refine g_start (cc := cX3_fillFrom) (maxL := 4) (ret := none) (by decide) rfl (Nat.le_of_ble_eq_true rfl) ?_
  intro p_ e_ s_ m_ args_ below_ meth_ c_ A_ C hr hnm
  have hn := nsd_b hB
  refine g_iload_n 1 C 1 dX3_fillFrom_0 rfl rfl ?_
  refine g_aload_n 2 C 0 dX3_fillFrom_1 rfl rfl ?_
  refine g_get 5 C 0 0 3 iX3_fillFrom_X3 lX3_fillFrom_31 dX3_fillFrom_2 rfl rfl rfl (by decide) rfl ?_
  refine g_callVF 8 C [1] dX3_fillFrom_5 rfl (k_X1_pieces E l  ) (cwV 0 C.2.2.2.2.1 gX3_fillFrom_X1_pieces rfl rfl rfl cdX1_pieces ⟨Nat.le_of_ble_eq_true rfl, Nat.le_of_ble_eq_true rfl⟩) rfl rfl rfl rfl (Nat.le_of_ble_eq_true rfl) 1 1 rfl rfl rfl ⟨Nat.le_of_ble_eq_true rfl, Nat.le_of_ble_eq_true rfl⟩ ?_
  refine g_icmp_lt 22 11 C dX3_fillFrom_8 (by decide) rfl (by omega) (fun h8 => absurd h8 (by omega)) ?_
  intro h8
  refine g_aload_n 12 C 0 dX3_fillFrom_11 rfl rfl ?_
  refine g_dup 13 C dX3_fillFrom_12 rfl rfl ?_
  refine g_get 16 C 0 11 3 iX3_fillFrom_X3 lX3_fillFrom_60 dX3_fillFrom_13 rfl rfl rfl (by decide) rfl ?_
  refine g_iconst 17 C dX3_fillFrom_16 rfl ?_
  refine g_iadd 18 C dX3_fillFrom_17 rfl ?_
  refine g_put (ws' := [(_, .inr (3, [_, _, _, _, _, _, _, _, _, _, _, _, _])), (_, .inr (1, [_, _, _, _]))]) 21 C 0 11 3 tyX3 tyX3_ok nmX3 iX3_fillFrom_X3 lX3_fillFrom_60 dX3_fillFrom_18 rfl rfl rfl (by decide) rfl rfl rfl (Nat.le_of_ble_eq_true rfl) rfl ?_
  exact g_vret C hr dX3_fillFrom_21 ⟨rfl, rfl⟩
theorem lX3_fillFrom_107 : Cond.constant RX3 107 (60000) ∈ wsX3_fillFrom := by decide +kernel
theorem cdX2_size : yX2_size.cls = RX2 ∧ yX2_size.cls ≠ "java/lang/invoke/MethodHandle" ∧ yX2_size.cls ≠ "java/lang/invoke/VarHandle" ∧ (parseMethodDescriptor yX2_size.desc).map (fun d => d.parameters.length) = some 0 := by decide +kernel
theorem cdX3_fillFrom : yX3_fillFrom.cls = RX3 ∧ yX3_fillFrom.cls ≠ "java/lang/invoke/MethodHandle" ∧ yX3_fillFrom.cls ≠ "java/lang/invoke/VarHandle" ∧ (parseMethodDescriptor yX3_fillFrom.desc).map (fun d => d.parameters.length) = some 1 := by decide +kernel
theorem cdX3_fits : yX3_fits.cls = RX3 ∧ yX3_fits.cls ≠ "java/lang/invoke/MethodHandle" ∧ yX3_fits.cls ≠ "java/lang/invoke/VarHandle" ∧ (parseMethodDescriptor yX3_fits.desc).map (fun d => d.parameters.length) = some 1 := by decide +kernel
theorem cdX3_lookAround : yX3_lookAround.cls = RX3 ∧ yX3_lookAround.cls ≠ "java/lang/invoke/MethodHandle" ∧ yX3_lookAround.cls ≠ "java/lang/invoke/VarHandle" ∧ (parseMethodDescriptor yX3_lookAround.desc).map (fun d => d.parameters.length) = some 1 := by decide +kernel
theorem lX3_fillFrom_21 : Cond.fieldLink RX3 21 (TX3 5).1 (TX3 5).2.1 (TX3 5).2.2.1 ∈ wsX3_fillFrom := by decide +kernel
theorem lX3_fillFrom_25 : Cond.fieldLink RX3 25 (TX3 6).1 (TX3 6).2.1 (TX3 6).2.2.1 ∈ wsX3_fillFrom := by decide +kernel
theorem lX3_fillFrom_35 : Cond.fieldLink RX3 35 (TX3 1).1 (TX3 1).2.1 (TX3 1).2.2.1 ∈ wsX3_fillFrom := by decide +kernel
theorem lX3_fillFrom_39 : Cond.fieldLink RX3 39 (TX3 12).1 (TX3 12).2.1 (TX3 12).2.2.1 ∈ wsX3_fillFrom := by decide +kernel
theorem lX3_fillFrom_57 : Cond.fieldLink RX3 57 (TX3 10).1 (TX3 10).2.1 (TX3 10).2.2.1 ∈ wsX3_fillFrom := by decide +kernel
theorem lX3_fillFrom_76 : Cond.fieldLink RX3 76 (TX3 9).1 (TX3 9).2.1 (TX3 9).2.2.1 ∈ wsX3_fillFrom := by decide +kernel
set_option maxHeartbeats 4000000 in
set_option maxRecDepth 100000 in
theorem k_X3_fillFrom_s (E : gE) (l : Launch) {a_L a_P a_R a_fi a_hs a_jl a_ly a_pc a_se a_sh a_tn a_us a_wa : Nat} {d : Nat} (ihF : fillC E l d) {W h n k : Int} {hs se pc tn sh fi wa us ly q0 u0 : Int → Int} {jo fo fd tc : Int} (hB : 1 ≤ W ∧ W ≤ 5 ∧ 1 ≤ h ∧ h ≤ 5) (hk : 0 ≤ k ∧ k < W * h ∧ k + ((d : Int) + 1) = W * h) (hse : ∀ p e : Int, 0 ≤ p ∧ p < W * h → 0 ≤ e ∧ e < 4 → se (p * 4 + e) = sdI W h p e) (hh : hB9 hs) (hn : 0 ≤ n ∧ n ≤ 25) (hpw : ∀ j : Int, 0 ≤ j ∧ j < n → (0 ≤ pc j ∧ pc j < W * h) ∧ 0 ≤ tn j ∧ tn j < 4) (hLY : ∀ j : Int, 0 ≤ j ∧ j < k → 0 ≤ ly j ∧ ly j < n * 4 ∧ FT W h hs pc tn ly j) (hSH : ∀ v d : Int, 0 ≤ v ∧ v < n * 4 → 0 ≤ d ∧ d < 4 → sh (v * 4 + d) = shV W h hs pc tn v d) (hFI : ∀ v d : Int, 0 ≤ v ∧ v < n * 4 → 0 ≤ d ∧ d < 4 → fi (v * 4 + d) = fiV W h hs pc tn v d) (hUS : ∀ j : Int, 0 ≤ j ∧ j < n → us j = 0 ∨ us j = 1) (hc : (0 ≤ fd ∧ fd ≤ tc ∧ tc ≤ 60000) ∧ (fo = 1 → fd = 0)) (hfo : fo = 0 ∨ fo = 1) (hq0 : ∀ j : Int, 0 ≤ j ∧ j < k → q0 j = ly j) (hq1 : q0 k = -1) (hu0 : ∀ j : Int, 0 ≤ j ∧ j < n → u0 j = us j) : gMet E l yX3_fillFrom wsX3_fillFrom (rmF (d + 1)) 0 0 [.ref a_R, .int (iI k)] [(a_R, .inr (3, [.ref a_P, .ref a_L, .ref a_sh, .ref a_fi, .ref a_wa, .ref a_us, .ref a_ly, .ref a_jl, .int (iI jo), .int (iI fo), .int (iI 0), .int (iI fd), .int (iI tc)])), (a_P, .inr (1, [.ref a_hs, .ref a_se, .int (iI W), .int (iI h)])), (a_se, aI E 100 se), (a_L, .inr (2, [.ref a_pc, .ref a_tn, .int (iI n)])), (a_sh, aI E 400 sh), (a_fi, aI E 400 fi), (a_wa, aI E 100 wa), (a_us, aZ E 25 us), (a_ly, aI E 25 ly)] (fun v w => ∃ (us2 ly2 wa2 : Int → Int) (sp2 fd2 tc2 : Int), (v = none ∧ fillR (FT W h hs pc tn) n (W * h) fo k us ly wa (k, q0, u0, tc, fd) us2 ly2 wa2 sp2 fd2 tc2) ∧ w = [(a_R, .inr (3, [.ref a_P, .ref a_L, .ref a_sh, .ref a_fi, .ref a_wa, .ref a_us, .ref a_ly, .ref a_jl, .int (iI jo), .int (iI fo), .int (iI sp2), .int (iI fd2), .int (iI tc2)])), (a_P, .inr (1, [.ref a_hs, .ref a_se, .int (iI W), .int (iI h)])), (a_se, aI E 100 se), (a_L, .inr (2, [.ref a_pc, .ref a_tn, .int (iI n)])), (a_sh, aI E 400 sh), (a_fi, aI E 400 fi), (a_wa, aI E 100 wa2), (a_us, aZ E 25 us2), (a_ly, aI E 25 ly2)]) := by
  refine g_start (cc := cX3_fillFrom) (maxL := 4) (ret := none) (by decide) rfl (Nat.le_of_ble_eq_true rfl) ?_
  intro p_ e_ s_ m_ args_ below_ meth_ c_ A_ C hr hnm
  have hn := nsd_b hB
  unfold fillC at ihF
  refine g_iload_n 1 C 1 dX3_fillFrom_0 rfl rfl ?_
  refine g_aload_n 2 C 0 dX3_fillFrom_1 rfl rfl ?_
  refine g_get 5 C 0 0 3 iX3_fillFrom_X3 lX3_fillFrom_31 dX3_fillFrom_2 rfl rfl rfl (by decide) rfl ?_
  refine g_callVF 8 C [1] dX3_fillFrom_5 rfl (k_X1_pieces E l  ) (cwV 0 C.2.2.2.2.1 gX3_fillFrom_X1_pieces rfl rfl rfl cdX1_pieces ⟨Nat.le_of_ble_eq_true rfl, Nat.le_of_ble_eq_true rfl⟩) rfl rfl rfl rfl (Nat.le_of_ble_eq_true rfl) 1 1 rfl rfl rfl ⟨Nat.le_of_ble_eq_true rfl, Nat.le_of_ble_eq_true rfl⟩ ?_
  refine g_icmp_lt 22 11 C dX3_fillFrom_8 (by decide) rfl (by omega) ?_ (fun h8 => absurd h8 (by omega))
  intro h8
  refine g_aload_n 23 C 0 dX3_fillFrom_22 rfl rfl ?_
  refine g_iload_n 24 C 1 dX3_fillFrom_23 rfl rfl ?_
  refine g_callVU (ws' := [(_, .inr (3, [_, _, _, _, _, _, _, _, _, _, _, _, _])), (_, .inr (1, [_, _, _, _])), (_, aI _ _ _), (_, .inr (2, [_, _, _])), (_, aI _ _ _), (_, aI _ _ _), (_, aI _ _ _), (_, aZ _ _ _), (_, aI _ _ _)]) 27 C [0, 1, 2, 5, 6, 8] dX3_fillFrom_24 rfl (k_X3_lookAround E l  (by first | assumption | omega) (by omega) (by first | assumption | omega) (fun j q => by have := hLY j q; omega)) (cwV 1 C.2.2.2.2.1 gX3_fillFrom_X3_lookAround rfl rfl rfl cdX3_lookAround ⟨Nat.le_of_ble_eq_true rfl, Nat.le_of_ble_eq_true rfl⟩) rfl rfl rfl rfl (Nat.le_of_ble_eq_true rfl) 0 3 rfl rfl rfl ⟨Nat.le_of_ble_eq_true rfl, Nat.le_of_ble_eq_true rfl⟩ rfl rfl ?_
  refine g_iconst 28 C dX3_fillFrom_27 rfl ?_
  refine g_istore_n (lv' := [(2, _), (0, _), (1, _)]) 29 C dX3_fillFrom_28 rfl rfl (by decide) rfl ?_
  refine g_loop (α := (Int → Int) × (Int → Int) × (Int → Int) × Int × Int × Int) (fun zz => [(a_R, .inr (3, [.ref a_P, .ref a_L, .ref a_sh, .ref a_fi, .ref a_wa, .ref a_us, .ref a_ly, .ref a_jl, .int (iI jo), .int (iI fo), .int (iI 0), .int (iI zz.2.2.2.1), .int (iI zz.2.2.2.2.1)])), (a_P, .inr (1, [.ref a_hs, .ref a_se, .int (iI W), .int (iI h)])), (a_se, aI E 100 se), (a_L, .inr (2, [.ref a_pc, .ref a_tn, .int (iI n)])), (a_sh, aI E 400 sh), (a_fi, aI E 400 fi), (a_wa, aI E 100 zz.2.2.1), (a_us, aZ E 25 zz.1), (a_ly, aI E 25 zz.2.1)]) (fun zz => [(2, .int (iI zz.2.2.2.2.2)), (1, .int (iI k)), (0, .ref a_R)]) (fun zz => (0 ≤ zz.2.2.2.2.2 ∧ zz.2.2.2.2.2 ≤ n) ∧ flI (FT W h hs pc tn) n (W * h) fo k us ly wa (waV W h fi ly k) (k, q0, u0, tc, fd) (zz.2.2.2.2.2 * 4 - 1) zz.1 zz.2.1 zz.2.2.1 zz.2.2.2.1 zz.2.2.2.2.1) (fun zz => (n - zz.2.2.2.2.2).toNat) (us, ly, (laI wa k (waV W h fi ly k) 4), fd, tc, 0) (by
            try dsimp only
            exact ⟨by omega, fl_init hc hq0 hq1 hu0⟩) [0, 2, 1] rfl rfl ?_
  rintro ⟨us1, ly1, wa1, fd1, tc1, i⟩ hI ih29
  try dsimp only at hI ih29 ⊢
  obtain ⟨hi, hI⟩ := hI
  refine g_iload_n 30 C 0 dX3_fillFrom_29 rfl rfl ?_
  refine g_aload_n 31 C 2 dX3_fillFrom_30 rfl rfl ?_
  refine g_get 34 C 0 1 3 iX3_fillFrom_X3 lX3_fillFrom_35 dX3_fillFrom_31 rfl rfl rfl (by decide) rfl ?_
  refine g_callVF 37 C [3] dX3_fillFrom_34 rfl (k_X2_size E l  ) (cwV 0 C.2.2.2.2.1 gX3_fillFrom_X2_size rfl rfl rfl cdX2_size ⟨Nat.le_of_ble_eq_true rfl, Nat.le_of_ble_eq_true rfl⟩) rfl rfl rfl rfl (Nat.le_of_ble_eq_true rfl) 3 2 rfl rfl rfl ⟨Nat.le_of_ble_eq_true rfl, Nat.le_of_ble_eq_true rfl⟩ ?_
  refine g_icmp_ge 155 40 C dX3_fillFrom_37 (by decide) rfl (by omega) ?_ ?_
  · intro h37
    exact g_vret C hr dX3_fillFrom_155 ⟨_, _, _, _, _, _, ⟨rfl, fl_exit (by omega) (by omega) (by rw [show n * 4 - 1 = i * 4 - 1 by omega]; exact hI)⟩, rfl⟩
  · intro h37
    refine g_iconst 41 C dX3_fillFrom_40 rfl ?_
    refine g_istore_n (lv' := [(3, _), (2, _), (1, _), (0, _)]) 42 C dX3_fillFrom_41 rfl rfl (by decide) rfl ?_
    refine g_loop (α := (Int → Int) × (Int → Int) × (Int → Int) × Int × Int × Int) (fun zz => [(a_R, .inr (3, [.ref a_P, .ref a_L, .ref a_sh, .ref a_fi, .ref a_wa, .ref a_us, .ref a_ly, .ref a_jl, .int (iI jo), .int (iI fo), .int (iI 0), .int (iI zz.2.2.2.1), .int (iI zz.2.2.2.2.1)])), (a_P, .inr (1, [.ref a_hs, .ref a_se, .int (iI W), .int (iI h)])), (a_se, aI E 100 se), (a_L, .inr (2, [.ref a_pc, .ref a_tn, .int (iI n)])), (a_sh, aI E 400 sh), (a_fi, aI E 400 fi), (a_wa, aI E 100 zz.2.2.1), (a_us, aZ E 25 zz.1), (a_ly, aI E 25 zz.2.1)]) (fun zz => [(3, .int (iI zz.2.2.2.2.2)), (2, .int (iI i)), (1, .int (iI k)), (0, .ref a_R)]) (fun zz => ((0 ≤ zz.2.2.2.2.2 ∧ zz.2.2.2.2.2 ≤ 4) ∧ (0 < zz.2.2.2.2.2 → zz.1 i = 0)) ∧ flI (FT W h hs pc tn) n (W * h) fo k us ly wa (waV W h fi ly k) (k, q0, u0, tc, fd) (i * 4 + zz.2.2.2.2.2 - 1) zz.1 zz.2.1 zz.2.2.1 zz.2.2.2.1 zz.2.2.2.2.1) (fun zz => (4 - zz.2.2.2.2.2).toNat) (us1, ly1, wa1, fd1, tc1, 0) (by
            try dsimp only
            exact ⟨⟨by omega, fun q => by omega⟩, by rw [show i * 4 + 0 - 1 = i * 4 - 1 by omega]; exact hI⟩) [0, 1, 2, 3] rfl rfl ?_
    rintro ⟨us1, ly1, wa1, fd1, tc1, t⟩ hI ih42
    try dsimp only at hI ih42 ⊢
    obtain ⟨ht, hJ⟩ := hI
    refine g_iload_n 43 C 0 dX3_fillFrom_42 rfl rfl ?_
    refine g_iconst 44 C dX3_fillFrom_43 rfl ?_
    refine g_icmp_ge 149 47 C dX3_fillFrom_44 (by decide) rfl (by omega) ?_ ?_
    · intro h44
      refine g_iinc (lv' := [(2, _), (3, _), (1, _), (0, _)]) 152 C 1 dX3_fillFrom_149 rfl rfl (by decide) rfl ?_
      refine g_goto 29 C dX3_fillFrom_152 (by decide) ?_
      exact g_w [0, 2, 3] rfl rfl (ih29 (us1, ly1, wa1, fd1, tc1, (i + 1)) (by
            try dsimp only
            exact ⟨by omega, by first | (rw [show (i + 1) * 4 - 1 = i * 4 + t - 1 by omega]; exact hJ) | exact fl_skip (by omega) (by omega) (by omega) (by assumption) (by rw [show i * 4 - 1 = i * 4 + t - 1 by omega]; exact hJ)⟩) (by (try dsimp only); omega))
    · intro h44
      refine g_aload_n 48 C 3 dX3_fillFrom_47 rfl rfl ?_
      refine g_get 51 C 0 5 3 iX3_fillFrom_X3 lX3_fillFrom_21 dX3_fillFrom_48 rfl rfl rfl (by decide) rfl ?_
      refine g_iload_n 52 C 1 dX3_fillFrom_51 rfl rfl ?_
      refine g_baload 53 C 7 dX3_fillFrom_52 rfl rfl (by omega) ?_
      have hu1 : us1 i = 0 ∨ us1 i = 1 := by rw [hJ.2.1 i (by omega)]; exact hUS i (by omega)
      refine g_if_ne 149 56 C dX3_fillFrom_53 (by decide) rfl (by omega) ?_ ?_
      · intro h53
        refine g_iinc (lv' := [(2, _), (3, _), (1, _), (0, _)]) 152 C 1 dX3_fillFrom_149 rfl rfl (by decide) rfl ?_
        refine g_goto 29 C dX3_fillFrom_152 (by decide) ?_
        exact g_w [0, 2, 3] rfl rfl (ih29 (us1, ly1, wa1, fd1, tc1, (i + 1)) (by
            try dsimp only
            exact ⟨by omega, by first | (rw [show (i + 1) * 4 - 1 = i * 4 + t - 1 by omega]; exact hJ) | exact fl_skip (by omega) (by omega) (by omega) (by assumption) (by rw [show i * 4 - 1 = i * 4 + t - 1 by omega]; exact hJ)⟩) (by (try dsimp only); omega))
      · intro h53
        refine g_aload_n 57 C 3 dX3_fillFrom_56 rfl rfl ?_
        refine g_get 60 C 0 12 3 iX3_fillFrom_X3 lX3_fillFrom_39 dX3_fillFrom_57 rfl rfl rfl (by decide) rfl ?_
        have hb1 := hJ.1
        refine g_ldc 62 C (60000) dX3_fillFrom_60 rfl lX3_fillFrom_107 (by decide) ?_
        refine g_icmp_lt 71 65 C dX3_fillFrom_62 (by decide) rfl (by omega) ?_ ?_
        · intro h62
          refine g_aload_n 72 C 3 dX3_fillFrom_71 rfl rfl ?_
          refine g_dup 73 C dX3_fillFrom_72 rfl rfl ?_
          refine g_get 76 C 0 12 3 iX3_fillFrom_X3 lX3_fillFrom_39 dX3_fillFrom_73 rfl rfl rfl (by decide) rfl ?_
          refine g_iconst 77 C dX3_fillFrom_76 rfl ?_
          refine g_iadd 78 C dX3_fillFrom_77 rfl ?_
          refine g_put (ws' := [(_, .inr (3, [_, _, _, _, _, _, _, _, _, _, _, _, _])), (_, .inr (1, [_, _, _, _])), (_, aI _ _ _), (_, .inr (2, [_, _, _])), (_, aI _ _ _), (_, aI _ _ _), (_, aI _ _ _), (_, aZ _ _ _), (_, aI _ _ _)]) 81 C 0 12 3 tyX3 tyX3_ok nmX3 iX3_fillFrom_X3 lX3_fillFrom_39 dX3_fillFrom_78 rfl rfl rfl (by decide) rfl rfl rfl (Nat.le_of_ble_eq_true rfl) rfl ?_
          refine g_aload_n 82 C 3 dX3_fillFrom_81 rfl rfl ?_
          refine g_get 85 C 0 6 3 iX3_fillFrom_X3 lX3_fillFrom_25 dX3_fillFrom_82 rfl rfl rfl (by decide) rfl ?_
          refine g_iload_n 86 C 2 dX3_fillFrom_85 rfl rfl ?_
          refine g_iload_n 87 C 1 dX3_fillFrom_86 rfl rfl ?_
          refine g_iconst 88 C dX3_fillFrom_87 rfl ?_
          refine g_imul 89 C dX3_fillFrom_88 rfl ?_
          refine g_iload_n 90 C 0 dX3_fillFrom_89 rfl rfl ?_
          refine g_iadd 91 C dX3_fillFrom_90 rfl ?_
          refine g_iastore (ws' := [(_, .inr (3, [_, _, _, _, _, _, _, _, _, _, _, _, _])), (_, .inr (1, [_, _, _, _])), (_, aI _ _ _), (_, .inr (2, [_, _, _])), (_, aI _ _ _), (_, aI _ _ _), (_, aI _ _ _), (_, aZ _ _ _), (_, aI _ _ _)]) 92 C 8 dX3_fillFrom_91 rfl rfl (by omega) rfl ?_
          refine g_aload_n 93 C 3 dX3_fillFrom_92 rfl rfl ?_
          refine g_iload_n 94 C 2 dX3_fillFrom_93 rfl rfl ?_
          refine g_callVF 97 C [0, 4, 6, 8] dX3_fillFrom_94 rfl (k_X3_fits E l  (by omega) (by rw [uI_eq]; omega) (fun d hd => by rw [hJ.2.2.2.1 d hd]; exact waV_r hB (by omega) hh hLY hFI d hd) (fun d hd => by rw [uI_eq, hSH _ d (by omega) hd]; have := shV_m (W := W) (h := h) (pc := pc) (tn := tn) hh (i * 4 + t) d; omega)) (cwV 1 C.2.2.2.2.1 gX3_fillFrom_X3_fits rfl rfl rfl cdX3_fits ⟨Nat.le_of_ble_eq_true rfl, Nat.le_of_ble_eq_true rfl⟩) rfl rfl rfl rfl (Nat.le_of_ble_eq_true rfl) 0 3 rfl rfl rfl ⟨Nat.le_of_ble_eq_true rfl, Nat.le_of_ble_eq_true rfl⟩ ?_
          have hFi : ∀ q : Int → Int, (∀ j : Int, 0 ≤ j ∧ j < k → q j = ly j) → q k = i * 4 + t → ((∀ d : Int, 0 ≤ d → d < 4 → okD wa1 sh (uI ly1 k (i * 4 + t) k) k d) ↔ FT W h hs pc tn q k) := fun q a b => fits_iff hB (by omega) hh hLY hSH hFI hJ.2.2.2.1 (by rw [uI_eq]; omega) a (by rw [uI_eq]; exact b)
          refine g_ifb_eq 121 100 C dX3_fillFrom_97 (by decide) rfl ?_ ?_
          · intro h97
            refine g_aload_n 122 C 3 dX3_fillFrom_121 rfl rfl ?_
            refine g_get 125 C 0 10 3 iX3_fillFrom_X3 lX3_fillFrom_57 dX3_fillFrom_122 rfl rfl rfl (by decide) rfl ?_
            refine g_if_ne 142 128 C dX3_fillFrom_125 (by decide) rfl (by omega) (fun q => absurd q (by omega)) ?_
            intro _
            refine g_aload_n 129 C 3 dX3_fillFrom_128 rfl rfl ?_
            refine g_get 132 C 0 9 3 iX3_fillFrom_X3 lX3_fillFrom_76 dX3_fillFrom_129 rfl rfl rfl (by decide) rfl ?_
            refine g_if_eq 143 135 C dX3_fillFrom_132 (by decide) rfl (by omega) ?_ ?_
            · intro h132
              refine g_iinc (lv' := [(3, _), (2, _), (1, _), (0, _)]) 146 C 0 dX3_fillFrom_143 rfl rfl (by decide) rfl ?_
              refine g_goto 42 C dX3_fillFrom_146 (by decide) ?_
              exact g_w [0, 1, 2, 3] rfl rfl (ih42 (us1, (uI ly1 k (i * 4 + t)), wa1, fd1, (tc1 + 1), (t + 1)) (by
            try dsimp only
            exact ⟨⟨by omega, fun _ => by omega⟩, fl_not (by omega) (by omega) (by omega) (by omega) (by omega) (by omega) (fun q a b z => h97 ((hFi q a b).mpr z)) hJ⟩) (by (try dsimp only); omega))
            · intro h132
              refine g_aload_n 136 C 3 dX3_fillFrom_135 rfl rfl ?_
              refine g_get 139 C 0 11 3 iX3_fillFrom_X3 lX3_fillFrom_60 dX3_fillFrom_136 rfl rfl rfl (by decide) rfl ?_
              refine g_if_le 143 142 C dX3_fillFrom_139 (by decide) rfl (by omega) ?_ (fun h139 => absurd h139 (by omega))
              intro h139
              refine g_iinc (lv' := [(3, _), (2, _), (1, _), (0, _)]) 146 C 0 dX3_fillFrom_143 rfl rfl (by decide) rfl ?_
              refine g_goto 42 C dX3_fillFrom_146 (by decide) ?_
              exact g_w [0, 1, 2, 3] rfl rfl (ih42 (us1, (uI ly1 k (i * 4 + t)), wa1, fd1, (tc1 + 1), (t + 1)) (by
            try dsimp only
            exact ⟨⟨by omega, fun _ => by omega⟩, fl_not (by omega) (by omega) (by omega) (by omega) (by omega) (by omega) (fun q a b z => h97 ((hFi q a b).mpr z)) hJ⟩) (by (try dsimp only); omega))
          · intro h97
            refine g_aload_n 101 C 3 dX3_fillFrom_100 rfl rfl ?_
            refine g_get 104 C 0 5 3 iX3_fillFrom_X3 lX3_fillFrom_21 dX3_fillFrom_101 rfl rfl rfl (by decide) rfl ?_
            refine g_iload_n 105 C 1 dX3_fillFrom_104 rfl rfl ?_
            refine g_iconst 106 C dX3_fillFrom_105 rfl ?_
            refine g_bastore (ws' := [(_, .inr (3, [_, _, _, _, _, _, _, _, _, _, _, _, _])), (_, .inr (1, [_, _, _, _])), (_, aI _ _ _), (_, .inr (2, [_, _, _])), (_, aI _ _ _), (_, aI _ _ _), (_, aI _ _ _), (_, aZ _ _ _), (_, aI _ _ _)]) 107 C 7 dX3_fillFrom_106 rfl rfl (by omega) (by decide) rfl ?_
            rcases (by omega : (k + 1 = W * h ∧ fo = 1) ∨ (k + 1 = W * h ∧ fo ≠ 1) ∨ k + 1 ≠ W * h) with hl | hl | hl
            · skip
              refine g_aload_n 108 C 3 dX3_fillFrom_107 rfl rfl ?_
              refine g_iload_n 109 C 2 dX3_fillFrom_108 rfl rfl ?_
              refine g_iconst 110 C dX3_fillFrom_109 rfl ?_
              refine g_iadd 111 C dX3_fillFrom_110 rfl ?_
              refine g_callVU (ws' := [(_, .inr (3, [_, _, _, _, _, _, _, _, _, _, _, _, _])), (_, .inr (1, [_, _, _, _])), (_, aI _ _ _), (_, .inr (2, [_, _, _])), (_, aI _ _ _), (_, aI _ _ _), (_, aI _ _ _), (_, aZ _ _ _), (_, aI _ _ _)]) 114 C [0, 1] dX3_fillFrom_111 rfl (k_X3_fillFrom_0 E l  (by first | assumption | omega) (by first | assumption | omega)) (cwV 1 C.2.2.2.2.1 gX3_fillFrom_X3_fillFrom rfl rfl rfl cdX3_fillFrom ⟨Nat.le_of_ble_eq_true rfl, Nat.le_of_ble_eq_true rfl⟩) rfl rfl rfl rfl (Nat.le_of_ble_eq_true rfl) 0 3 rfl rfl rfl ⟨Nat.le_of_ble_eq_true rfl, Nat.le_of_ble_eq_true rfl⟩ rfl rfl ?_
              refine g_aload_n 115 C 3 dX3_fillFrom_114 rfl rfl ?_
              refine g_get 118 C 0 5 3 iX3_fillFrom_X3 lX3_fillFrom_21 dX3_fillFrom_115 rfl rfl rfl (by decide) rfl ?_
              refine g_iload_n 119 C 1 dX3_fillFrom_118 rfl rfl ?_
              refine g_iconst 120 C dX3_fillFrom_119 rfl ?_
              refine g_bastore (ws' := [(_, .inr (3, [_, _, _, _, _, _, _, _, _, _, _, _, _])), (_, .inr (1, [_, _, _, _])), (_, aI _ _ _), (_, .inr (2, [_, _, _])), (_, aI _ _ _), (_, aI _ _ _), (_, aI _ _ _), (_, aZ _ _ _), (_, aI _ _ _)]) 121 C 7 dX3_fillFrom_120 rfl rfl (by omega) (by decide) rfl ?_
              refine g_aload_n 122 C 3 dX3_fillFrom_121 rfl rfl ?_
              refine g_get 125 C 0 10 3 iX3_fillFrom_X3 lX3_fillFrom_57 dX3_fillFrom_122 rfl rfl rfl (by decide) rfl ?_
              refine g_if_ne 142 128 C dX3_fillFrom_125 (by decide) rfl (by omega) (fun q => absurd q (by omega)) ?_
              intro _
              refine g_aload_n 129 C 3 dX3_fillFrom_128 rfl rfl ?_
              refine g_get 132 C 0 9 3 iX3_fillFrom_X3 lX3_fillFrom_76 dX3_fillFrom_129 rfl rfl rfl (by decide) rfl ?_
              refine g_if_eq 143 135 C dX3_fillFrom_132 (by decide) rfl (by omega) (fun h132 => absurd h132 (by omega)) ?_
              intro h132
              refine g_aload_n 136 C 3 dX3_fillFrom_135 rfl rfl ?_
              refine g_get 139 C 0 11 3 iX3_fillFrom_X3 lX3_fillFrom_60 dX3_fillFrom_136 rfl rfl rfl (by decide) rfl ?_
              refine g_if_le 143 142 C dX3_fillFrom_139 (by decide) rfl (by omega) (fun h139 => absurd h139 (by omega)) ?_
              intro h139
              exact g_vret C hr dX3_fillFrom_142 ⟨_, _, _, _, _, _, ⟨rfl, fl_last1 (by omega) (by omega) (by omega) (by omega) (by omega) (by omega) hl.1 hl.2 (fun j q => by have := hLY j q; omega) (fun q a b => (hFi q a b).mp h97) hJ⟩, rfl⟩
            · skip
              refine g_aload_n 108 C 3 dX3_fillFrom_107 rfl rfl ?_
              refine g_iload_n 109 C 2 dX3_fillFrom_108 rfl rfl ?_
              refine g_iconst 110 C dX3_fillFrom_109 rfl ?_
              refine g_iadd 111 C dX3_fillFrom_110 rfl ?_
              refine g_callVU (ws' := [(_, .inr (3, [_, _, _, _, _, _, _, _, _, _, _, _, _])), (_, .inr (1, [_, _, _, _])), (_, aI _ _ _), (_, .inr (2, [_, _, _])), (_, aI _ _ _), (_, aI _ _ _), (_, aI _ _ _), (_, aZ _ _ _), (_, aI _ _ _)]) 114 C [0, 1] dX3_fillFrom_111 rfl (k_X3_fillFrom_0 E l  (by first | assumption | omega) (by first | assumption | omega)) (cwV 1 C.2.2.2.2.1 gX3_fillFrom_X3_fillFrom rfl rfl rfl cdX3_fillFrom ⟨Nat.le_of_ble_eq_true rfl, Nat.le_of_ble_eq_true rfl⟩) rfl rfl rfl rfl (Nat.le_of_ble_eq_true rfl) 0 3 rfl rfl rfl ⟨Nat.le_of_ble_eq_true rfl, Nat.le_of_ble_eq_true rfl⟩ rfl rfl ?_
              refine g_aload_n 115 C 3 dX3_fillFrom_114 rfl rfl ?_
              refine g_get 118 C 0 5 3 iX3_fillFrom_X3 lX3_fillFrom_21 dX3_fillFrom_115 rfl rfl rfl (by decide) rfl ?_
              refine g_iload_n 119 C 1 dX3_fillFrom_118 rfl rfl ?_
              refine g_iconst 120 C dX3_fillFrom_119 rfl ?_
              refine g_bastore (ws' := [(_, .inr (3, [_, _, _, _, _, _, _, _, _, _, _, _, _])), (_, .inr (1, [_, _, _, _])), (_, aI _ _ _), (_, .inr (2, [_, _, _])), (_, aI _ _ _), (_, aI _ _ _), (_, aI _ _ _), (_, aZ _ _ _), (_, aI _ _ _)]) 121 C 7 dX3_fillFrom_120 rfl rfl (by omega) (by decide) rfl ?_
              refine g_aload_n 122 C 3 dX3_fillFrom_121 rfl rfl ?_
              refine g_get 125 C 0 10 3 iX3_fillFrom_X3 lX3_fillFrom_57 dX3_fillFrom_122 rfl rfl rfl (by decide) rfl ?_
              refine g_if_ne 142 128 C dX3_fillFrom_125 (by decide) rfl (by omega) (fun q => absurd q (by omega)) ?_
              intro _
              refine g_aload_n 129 C 3 dX3_fillFrom_128 rfl rfl ?_
              refine g_get 132 C 0 9 3 iX3_fillFrom_X3 lX3_fillFrom_76 dX3_fillFrom_129 rfl rfl rfl (by decide) rfl ?_
              refine g_if_eq 143 135 C dX3_fillFrom_132 (by decide) rfl (by omega) ?_ (fun h132 => absurd h132 (by omega))
              intro h132
              refine g_iinc (lv' := [(3, _), (2, _), (1, _), (0, _)]) 146 C 0 dX3_fillFrom_143 rfl rfl (by decide) rfl ?_
              refine g_goto 42 C dX3_fillFrom_146 (by decide) ?_
              exact g_w [0, 1, 2, 3] rfl rfl (ih42 ((uI (uI us1 i 1) i 0), (uI ly1 k (i * 4 + t)), wa1, (fd1 + 1), (tc1 + 1), (t + 1)) (by
            try dsimp only
            exact ⟨⟨by omega, fun _ => uI_eq _ _ _⟩, fl_last (by omega) (by omega) (by omega) (by omega) (by omega) (by omega) hl.1 hl.2 (fun q a b => (hFi q a b).mp h97) hJ⟩) (by (try dsimp only); omega))
            · skip
              obtain ⟨q1, u1, hd1, hd2, hd3, hd4⟩ := fl_down (by omega) (by omega) (by omega) (by omega) (by omega) (by omega) hl (fun q a b => (hFi q a b).mp h97) hJ
              have hLY2 : ∀ j : Int, 0 ≤ j ∧ j < k + 1 → 0 ≤ uI ly1 k (i * 4 + t) j ∧ uI ly1 k (i * 4 + t) j < n * 4 ∧ FT W h hs pc tn (uI ly1 k (i * 4 + t)) j := fun j hj => by
                by_cases z : j = k
                · rw [z]
                  exact ⟨by rw [uI_eq]; omega, by rw [uI_eq]; omega, (hFi _ (fun j hj => by rw [uI_ne (by omega)]; exact hJ.2.2.1 j hj) (uI_eq _ _ _)).mp h97⟩
                · have hz := hLY j (by omega)
                  have hz2 : uI ly1 k (i * 4 + t) j = ly j := by rw [uI_ne z]; exact hJ.2.2.1 j (by omega)
                  exact ⟨by omega, by omega, (FT_c hB hj.1 (fun y hy => by rw [uI_ne (by omega)]; exact hJ.2.2.1 y (by omega))).mpr hz.2.2⟩
              have hUS2 : ∀ j : Int, 0 ≤ j ∧ j < n → uI us1 i 1 j = 0 ∨ uI us1 i 1 j = 1 := fun j hj => by
                by_cases z : j = i
                · rw [z, uI_eq]; exact Or.inr rfl
                · rw [uI_ne z, hJ.2.1 j hj]; exact hUS j hj
              refine g_aload_n 108 C 3 dX3_fillFrom_107 rfl rfl ?_
              refine g_iload_n 109 C 2 dX3_fillFrom_108 rfl rfl ?_
              refine g_iconst 110 C dX3_fillFrom_109 rfl ?_
              refine g_iadd 111 C dX3_fillFrom_110 rfl ?_
              refine g_callV 114 C [0, 1, 2, 3, 4, 5, 6, 7, 8] dX3_fillFrom_111 rfl (ihF (by first | assumption | omega) (by omega) (by first | assumption | omega) (by first | assumption | omega) (by first | assumption | omega) (by first | assumption | omega) hLY2 (by first | assumption | omega) (by first | assumption | omega) hUS2 ⟨by omega, hJ.1.2⟩ (by first | assumption | omega) hd1 hd2 hd3) (cwV 1 C.2.2.2.2.1 gX3_fillFrom_X3_fillFrom rfl rfl rfl cdX3_fillFrom ⟨by show d + 4 + 1 ≤ d + 1 + 4; omega, by show 8 + (4 + 11) + (d * 40 + 200) ≤ (d + 1) * 40 + 200; omega⟩) rfl rfl rfl rfl (Nat.le_of_ble_eq_true rfl) 0 3 rfl rfl rfl ⟨Nat.le_of_ble_eq_true rfl, Nat.le_of_ble_eq_true rfl⟩ (fun v w q => by obtain ⟨_, _, _, _, _, _, -, rfl⟩ := q; rfl) ?_
              rintro _ _ ⟨us2, ly2, wa2, sp2, fd2, tc2, ⟨rfl, hb2, hR⟩, rfl⟩
              rcases hR with ⟨rfl, hR⟩ | ⟨rfl, hf1, hf2, hR, hR2⟩ | ⟨rfl, hf3, hR1, hR2, hR3, hR4⟩
              · skip
                refine g_w (ws' := [(_, .inr (3, [_, _, _, _, _, _, _, _, _, _, _, _, _])), (_, .inr (1, [_, _, _, _])), (_, aI _ _ _), (_, .inr (2, [_, _, _])), (_, aI _ _ _), (_, aI _ _ _), (_, aI _ _ _), (_, aZ _ _ _), (_, aI _ _ _)]) [0, 1, 2, 3] rfl rfl ?_
                refine g_aload_n 115 C 3 dX3_fillFrom_114 rfl rfl ?_
                refine g_get 118 C 0 5 3 iX3_fillFrom_X3 lX3_fillFrom_21 dX3_fillFrom_115 rfl rfl rfl (by decide) rfl ?_
                refine g_iload_n 119 C 1 dX3_fillFrom_118 rfl rfl ?_
                refine g_iconst 120 C dX3_fillFrom_119 rfl ?_
                refine g_bastore (ws' := [(_, .inr (3, [_, _, _, _, _, _, _, _, _, _, _, _, _])), (_, .inr (1, [_, _, _, _])), (_, aI _ _ _), (_, .inr (2, [_, _, _])), (_, aI _ _ _), (_, aI _ _ _), (_, aI _ _ _), (_, aZ _ _ _), (_, aI _ _ _)]) 121 C 7 dX3_fillFrom_120 rfl rfl (by omega) (by decide) rfl ?_
                refine g_aload_n 122 C 3 dX3_fillFrom_121 rfl rfl ?_
                refine g_get 125 C 0 10 3 iX3_fillFrom_X3 lX3_fillFrom_57 dX3_fillFrom_122 rfl rfl rfl (by decide) rfl ?_
                refine g_if_ne 142 128 C dX3_fillFrom_125 (by decide) rfl (by omega) ?_ (fun q => absurd q (by omega))
                intro _
                exact g_vret C hr dX3_fillFrom_142 ⟨_, _, _, _, _, _, ⟨rfl, fl_up1 (us2 := us2) (ly2 := ly2) (wa2 := wa2) (sp2 := 1) hb2 hd4 hR⟩, rfl⟩
              · skip
                refine g_w (ws' := [(_, .inr (3, [_, _, _, _, _, _, _, _, _, _, _, _, _])), (_, .inr (1, [_, _, _, _])), (_, aI _ _ _), (_, .inr (2, [_, _, _])), (_, aI _ _ _), (_, aI _ _ _), (_, aI _ _ _), (_, aZ _ _ _), (_, aI _ _ _)]) [0, 1, 2, 3] rfl rfl ?_
                refine g_aload_n 115 C 3 dX3_fillFrom_114 rfl rfl ?_
                refine g_get 118 C 0 5 3 iX3_fillFrom_X3 lX3_fillFrom_21 dX3_fillFrom_115 rfl rfl rfl (by decide) rfl ?_
                refine g_iload_n 119 C 1 dX3_fillFrom_118 rfl rfl ?_
                refine g_iconst 120 C dX3_fillFrom_119 rfl ?_
                refine g_bastore (ws' := [(_, .inr (3, [_, _, _, _, _, _, _, _, _, _, _, _, _])), (_, .inr (1, [_, _, _, _])), (_, aI _ _ _), (_, .inr (2, [_, _, _])), (_, aI _ _ _), (_, aI _ _ _), (_, aI _ _ _), (_, aZ _ _ _), (_, aI _ _ _)]) 121 C 7 dX3_fillFrom_120 rfl rfl (by omega) (by decide) rfl ?_
                refine g_aload_n 122 C 3 dX3_fillFrom_121 rfl rfl ?_
                refine g_get 125 C 0 10 3 iX3_fillFrom_X3 lX3_fillFrom_57 dX3_fillFrom_122 rfl rfl rfl (by decide) rfl ?_
                refine g_if_ne 142 128 C dX3_fillFrom_125 (by decide) rfl (by omega) (fun q => absurd q (by omega)) ?_
                intro _
                refine g_aload_n 129 C 3 dX3_fillFrom_128 rfl rfl ?_
                refine g_get 132 C 0 9 3 iX3_fillFrom_X3 lX3_fillFrom_76 dX3_fillFrom_129 rfl rfl rfl (by decide) rfl ?_
                refine g_if_eq 143 135 C dX3_fillFrom_132 (by decide) rfl (by omega) (fun h132 => absurd h132 (by omega)) ?_
                intro h132
                refine g_aload_n 136 C 3 dX3_fillFrom_135 rfl rfl ?_
                refine g_get 139 C 0 11 3 iX3_fillFrom_X3 lX3_fillFrom_60 dX3_fillFrom_136 rfl rfl rfl (by decide) rfl ?_
                refine g_if_le 143 142 C dX3_fillFrom_139 (by decide) rfl (by omega) (fun h139 => absurd h139 (by omega)) ?_
                intro h139
                exact g_vret C hr dX3_fillFrom_142 ⟨_, _, _, _, _, _, ⟨rfl, fl_up2 hb2 hf1 hf2 hd4 hR hR2⟩, rfl⟩
              · skip
                refine g_w (ws' := [(_, .inr (3, [_, _, _, _, _, _, _, _, _, _, _, _, _])), (_, .inr (1, [_, _, _, _])), (_, aI _ _ _), (_, .inr (2, [_, _, _])), (_, aI _ _ _), (_, aI _ _ _), (_, aI _ _ _), (_, aZ _ _ _), (_, aI _ _ _)]) [0, 1, 2, 3] rfl rfl ?_
                refine g_aload_n 115 C 3 dX3_fillFrom_114 rfl rfl ?_
                refine g_get 118 C 0 5 3 iX3_fillFrom_X3 lX3_fillFrom_21 dX3_fillFrom_115 rfl rfl rfl (by decide) rfl ?_
                refine g_iload_n 119 C 1 dX3_fillFrom_118 rfl rfl ?_
                refine g_iconst 120 C dX3_fillFrom_119 rfl ?_
                refine g_bastore (ws' := [(_, .inr (3, [_, _, _, _, _, _, _, _, _, _, _, _, _])), (_, .inr (1, [_, _, _, _])), (_, aI _ _ _), (_, .inr (2, [_, _, _])), (_, aI _ _ _), (_, aI _ _ _), (_, aI _ _ _), (_, aZ _ _ _), (_, aI _ _ _)]) 121 C 7 dX3_fillFrom_120 rfl rfl (by omega) (by decide) rfl ?_
                refine g_aload_n 122 C 3 dX3_fillFrom_121 rfl rfl ?_
                refine g_get 125 C 0 10 3 iX3_fillFrom_X3 lX3_fillFrom_57 dX3_fillFrom_122 rfl rfl rfl (by decide) rfl ?_
                refine g_if_ne 142 128 C dX3_fillFrom_125 (by decide) rfl (by omega) (fun q => absurd q (by omega)) ?_
                intro _
                refine g_aload_n 129 C 3 dX3_fillFrom_128 rfl rfl ?_
                refine g_get 132 C 0 9 3 iX3_fillFrom_X3 lX3_fillFrom_76 dX3_fillFrom_129 rfl rfl rfl (by decide) rfl ?_
                refine g_if_eq 143 135 C dX3_fillFrom_132 (by decide) rfl (by omega) ?_ ?_
                · intro h132
                  refine g_iinc (lv' := [(3, _), (2, _), (1, _), (0, _)]) 146 C 0 dX3_fillFrom_143 rfl rfl (by decide) rfl ?_
                  refine g_goto 42 C dX3_fillFrom_146 (by decide) ?_
                  exact g_w [0, 1, 2, 3] rfl rfl (ih42 ((uI us2 i 0), ly2, wa2, fd2, tc2, (t + 1)) (by
            try dsimp only
            exact ⟨⟨by omega, fun _ => uI_eq _ _ _⟩, fl_up3 (by omega) (by omega) (by omega) (by omega) hb2 hf3 hR1 hR2 hR3 hd4 hR4 hJ⟩) (by (try dsimp only); omega))
                · intro h132
                  refine g_aload_n 136 C 3 dX3_fillFrom_135 rfl rfl ?_
                  refine g_get 139 C 0 11 3 iX3_fillFrom_X3 lX3_fillFrom_60 dX3_fillFrom_136 rfl rfl rfl (by decide) rfl ?_
                  refine g_if_le 143 142 C dX3_fillFrom_139 (by decide) rfl (by omega) ?_ (fun h139 => absurd h139 (by omega))
                  intro h139
                  refine g_iinc (lv' := [(3, _), (2, _), (1, _), (0, _)]) 146 C 0 dX3_fillFrom_143 rfl rfl (by decide) rfl ?_
                  refine g_goto 42 C dX3_fillFrom_146 (by decide) ?_
                  exact g_w [0, 1, 2, 3] rfl rfl (ih42 ((uI us2 i 0), ly2, wa2, fd2, tc2, (t + 1)) (by
            try dsimp only
            exact ⟨⟨by omega, fun _ => uI_eq _ _ _⟩, fl_up3 (by omega) (by omega) (by omega) (by omega) hb2 hf3 hR1 hR2 hR3 hd4 hR4 hJ⟩) (by (try dsimp only); omega))
        · intro h62
          refine g_aload_n 66 C 3 dX3_fillFrom_65 rfl rfl ?_
          refine g_iconst 67 C dX3_fillFrom_66 rfl ?_
          refine g_put (ws' := [(_, .inr (3, [_, _, _, _, _, _, _, _, _, _, _, _, _])), (_, .inr (1, [_, _, _, _])), (_, aI _ _ _), (_, .inr (2, [_, _, _])), (_, aI _ _ _), (_, aI _ _ _), (_, aI _ _ _), (_, aZ _ _ _), (_, aI _ _ _)]) 70 C 0 10 3 tyX3 tyX3_ok nmX3 iX3_fillFrom_X3 lX3_fillFrom_57 dX3_fillFrom_67 rfl rfl rfl (by decide) rfl (by decide) rfl (Nat.le_of_ble_eq_true rfl) rfl ?_
          exact g_vret C hr dX3_fillFrom_70 ⟨_, _, _, _, _, _, ⟨rfl, fl_spent (by omega) (by omega) (by omega) (by omega) (by omega) (by omega) hJ⟩, rfl⟩
theorem k_X3_fillFrom (E : gE) (l : Launch) : ∀ d : Nat, fillC E l d := by
  intro d
  induction d with
  | zero =>
    unfold fillC
    intros
    omega
  | succ d ih =>
    unfold fillC
    intro _ _ _ _ _ _ _ _ _ _ _ _ _ W h n k hs se pc tn sh fi wa us ly q0 u0 jo fo fd tc h1 h2 h3 h4 h5 h6 h7 h8 h9 h10 h11 h12 h13 h14 h15
    exact k_X3_fillFrom_s E l ih h1 (by omega) h3 h4 h5 h6 h7 h8 h9 h10 h11 h12 h13 h14 h15
end
section
theorem k_X3_fillFrom_e (E : gE) (l : Launch) (d : Nat) {a_L a_P a_R a_fi a_hs a_jl a_ly a_pc a_se a_sh a_tn a_us a_wa : Nat} {W h n k : Int} {hs se pc tn sh fi wa us ly q0 u0 : Int → Int} {jo fo fd tc : Int} (hB : 1 ≤ W ∧ W ≤ 5 ∧ 1 ≤ h ∧ h ≤ 5) (hk : 0 ≤ k ∧ k < W * h ∧ k + (d : Int) = W * h) (hse : ∀ p e : Int, 0 ≤ p ∧ p < W * h → 0 ≤ e ∧ e < 4 → se (p * 4 + e) = sdI W h p e) (hh : hB9 hs) (hn : 0 ≤ n ∧ n ≤ 25) (hpw : ∀ j : Int, 0 ≤ j ∧ j < n → (0 ≤ pc j ∧ pc j < W * h) ∧ 0 ≤ tn j ∧ tn j < 4) (hLY : ∀ j : Int, 0 ≤ j ∧ j < k → 0 ≤ ly j ∧ ly j < n * 4 ∧ FT W h hs pc tn ly j) (hSH : ∀ v d : Int, 0 ≤ v ∧ v < n * 4 → 0 ≤ d ∧ d < 4 → sh (v * 4 + d) = shV W h hs pc tn v d) (hFI : ∀ v d : Int, 0 ≤ v ∧ v < n * 4 → 0 ≤ d ∧ d < 4 → fi (v * 4 + d) = fiV W h hs pc tn v d) (hUS : ∀ j : Int, 0 ≤ j ∧ j < n → us j = 0 ∨ us j = 1) (hc : (0 ≤ fd ∧ fd ≤ tc ∧ tc ≤ 60000) ∧ (fo = 1 → fd = 0)) (hfo : fo = 0 ∨ fo = 1) (hq0 : ∀ j : Int, 0 ≤ j ∧ j < k → q0 j = ly j) (hq1 : q0 k = -1) (hu0 : ∀ j : Int, 0 ≤ j ∧ j < n → u0 j = us j) : gMet E l yX3_fillFrom wsX3_fillFrom (rmF d) 0 0 [.ref a_R, .int (iI k)] [(a_R, .inr (3, [.ref a_P, .ref a_L, .ref a_sh, .ref a_fi, .ref a_wa, .ref a_us, .ref a_ly, .ref a_jl, .int (iI jo), .int (iI fo), .int (iI 0), .int (iI fd), .int (iI tc)])), (a_P, .inr (1, [.ref a_hs, .ref a_se, .int (iI W), .int (iI h)])), (a_se, aI E 100 se), (a_L, .inr (2, [.ref a_pc, .ref a_tn, .int (iI n)])), (a_sh, aI E 400 sh), (a_fi, aI E 400 fi), (a_wa, aI E 100 wa), (a_us, aZ E 25 us), (a_ly, aI E 25 ly)] (fun v w => ∃ (us2 ly2 wa2 : Int → Int) (sp2 fd2 tc2 : Int), (v = none ∧ fillR (FT W h hs pc tn) n (W * h) fo k us ly wa (k, q0, u0, tc, fd) us2 ly2 wa2 sp2 fd2 tc2) ∧ w = [(a_R, .inr (3, [.ref a_P, .ref a_L, .ref a_sh, .ref a_fi, .ref a_wa, .ref a_us, .ref a_ly, .ref a_jl, .int (iI jo), .int (iI fo), .int (iI sp2), .int (iI fd2), .int (iI tc2)])), (a_P, .inr (1, [.ref a_hs, .ref a_se, .int (iI W), .int (iI h)])), (a_se, aI E 100 se), (a_L, .inr (2, [.ref a_pc, .ref a_tn, .int (iI n)])), (a_sh, aI E 400 sh), (a_fi, aI E 400 fi), (a_wa, aI E 100 wa2), (a_us, aZ E 25 us2), (a_ly, aI E 25 ly2)]) := by
  have q : fillC E l d := k_X3_fillFrom E l d
  unfold fillC at q
  exact q hB hk hse hh hn hpw hLY hSH hFI hUS hc hfo hq0 hq1 hu0
/-- how a run of the search ends, from its start -/
def runR (F : (Int → Int) → Int → Prop) (n N fo : Int) (ly2 : Int → Int) (sp2 fd2 tc2 : Int) : Prop :=
  (0 ≤ fd2 ∧ fd2 ≤ tc2 ∧ tc2 ≤ 60000) ∧
  ((sp2 = 1 ∧ ∃ (m : Nat) (q u : Int → Int), itS F n N fo m (0, (fun _ => -1), (fun _ => 0), 0, 0) = (-2, q, u, tc2, fd2))
  ∨ (sp2 = 0 ∧ fo = 1 ∧ fd2 = 1 ∧ (∃ (m : Nat) (q u : Int → Int), itS F n N fo m (0, (fun _ => -1), (fun _ => 0), 0, 0) = (-3, q, u, tc2, fd2) ∧ ∀ j, 0 ≤ j ∧ j < N → q j = ly2 j) ∧ ∀ j, 0 ≤ j ∧ j < N → 0 ≤ ly2 j ∧ ly2 j < 100)
  ∨ (sp2 = 0 ∧ (fo = 1 → fd2 = 0) ∧ ∃ (m : Nat) (q u : Int → Int), itS F n N fo m (0, (fun _ => -1), (fun _ => 0), 0, 0) = (-1, q, u, tc2, fd2)))
theorem runR_of {F : (Int → Int) → Int → Prop} {n N fo : Int} {us ly wa us2 ly2 wa2 : Int → Int} {sp2 fd2 tc2 : Int} (h : fillR F n N fo 0 us ly wa (0, (fun _ => -1), (fun _ => 0), 0, 0) us2 ly2 wa2 sp2 fd2 tc2) : runR F n N fo ly2 sp2 fd2 tc2 := by
  obtain ⟨hb, h | h | ⟨h1, h2, -, -, -, m, q, u, e, -⟩⟩ := h
  · exact ⟨hb, Or.inl h⟩
  · exact ⟨hb, Or.inr (Or.inl h)⟩
  · exact ⟨hb, Or.inr (Or.inr ⟨h1, h2, m, q, u, e⟩)⟩
theorem runR_sp {F : (Int → Int) → Int → Prop} {n N fo : Int} {ly2 : Int → Int} {sp2 fd2 tc2 : Int} (h : runR F n N fo ly2 sp2 fd2 tc2) : (sp2 = 0 ∨ sp2 = 1) ∧ 0 ≤ fd2 ∧ fd2 ≤ tc2 ∧ tc2 ≤ 60000 := by
  obtain ⟨hb, ⟨h, -⟩ | ⟨h, -⟩ | ⟨h, -⟩⟩ := h <;> exact ⟨by omega, hb⟩
theorem runR_fd {F : (Int → Int) → Int → Prop} {n N : Int} {ly2 : Int → Int} {sp2 fd2 tc2 : Int} (h : runR F n N 1 ly2 sp2 fd2 tc2) (h0 : sp2 = 0) : fd2 = 0 ∨ fd2 = 1 := by
  obtain ⟨hb, ⟨h, -⟩ | ⟨-, -, h, -⟩ | ⟨-, h, -⟩⟩ := h
  · omega
  · exact Or.inr h
  · exact Or.inl (h rfl)
theorem okN_sh {W h i : Int} {hs pc tn f f2 : Int → Int} (hi : 0 ≤ i) (hT : 0 ≤ tn i ∧ tn i < 4) (hF : ∀ v d : Int, 0 ≤ v ∧ v < i * 4 → 0 ≤ d ∧ d < 4 → f (v * 4 + d) = shV W h hs pc tn v d) (hA : okN (fun x => if sdI W h (pc i) x = -9 then -1 else coI W h hs (pc i) x) f f2 i (tn i) 4 0) : ∀ v d : Int, 0 ≤ v ∧ v < (i + 1) * 4 → 0 ≤ d ∧ d < 4 → f2 (v * 4 + d) = shV W h hs pc tn v d := by
  intro v d hv hd
  by_cases z : v < i * 4
  · rw [hA.2 _ (by omega)]; exact hF v d (by omega) hd
  · have e := okN_f hT (Int.le_refl _) hA (t := v % 4) (d := d) (by omega) hd
    rw [show i * 4 + v % 4 = v by omega] at e
    rw [e]
    unfold shV edI
    rw [show v / 4 = i by omega]
theorem okN_fi {W h i : Int} {hs pc tn f f2 : Int → Int} (hi : 0 ≤ i) (hT : 0 ≤ tn i ∧ tn i < 4) (hF : ∀ v d : Int, 0 ≤ v ∧ v < i * 4 → 0 ≤ d ∧ d < 4 → f (v * 4 + d) = fiV W h hs pc tn v d) (hA : okN (fun x => if sdI W h (pc i) x = -9 then -1 else maI W h hs (pc i) x) f f2 i (tn i) 4 0) : ∀ v d : Int, 0 ≤ v ∧ v < (i + 1) * 4 → 0 ≤ d ∧ d < 4 → f2 (v * 4 + d) = fiV W h hs pc tn v d := by
  intro v d hv hd
  by_cases z : v < i * 4
  · rw [hA.2 _ (by omega)]; exact hF v d (by omega) hd
  · have e := okN_f hT (Int.le_refl _) hA (t := v % 4) (d := d) (by omega) hd
    rw [show i * 4 + v % 4 = v by omega] at e
    rw [e]
    unfold fiV edI
    rw [show v / 4 = i by omega]
theorem cdX3_readEdges : yX3_readEdges.cls = RX3 ∧ yX3_readEdges.cls ≠ "java/lang/invoke/MethodHandle" ∧ yX3_readEdges.cls ≠ "java/lang/invoke/VarHandle" ∧ (parseMethodDescriptor yX3_readEdges.desc).map (fun d => d.parameters.length) = some 1 := by decide +kernel
theorem lX3_run_21 : Cond.fieldLink RX3 21 (TX3 5).1 (TX3 5).2.1 (TX3 5).2.2.1 ∈ wsX3_run := by decide +kernel
theorem lX3_run_35 : Cond.fieldLink RX3 35 (TX3 1).1 (TX3 1).2.1 (TX3 1).2.2.1 ∈ wsX3_run := by decide +kernel
theorem lX3_run_39 : Cond.fieldLink RX3 39 (TX3 12).1 (TX3 12).2.1 (TX3 12).2.2.1 ∈ wsX3_run := by decide +kernel
theorem lX3_run_57 : Cond.fieldLink RX3 57 (TX3 10).1 (TX3 10).2.1 (TX3 10).2.2.1 ∈ wsX3_run := by decide +kernel
theorem lX3_run_60 : Cond.fieldLink RX3 60 (TX3 11).1 (TX3 11).2.1 (TX3 11).2.2.1 ∈ wsX3_run := by decide +kernel
theorem lX3_run_76 : Cond.fieldLink RX3 76 (TX3 9).1 (TX3 9).2.1 (TX3 9).2.2.1 ∈ wsX3_run := by decide +kernel
theorem iX3_run_X3 : ∀ w ∈ u_ws RX3 TX3 13, w ∈ wsX3_run := by decide +kernel
set_option maxHeartbeats 4000000 in
set_option maxRecDepth 100000 in
theorem k_X3_run (E : gE) (l : Launch) {a_L a_P a_R a_fi a_hs a_jl a_ly a_pc a_se a_sh a_tn a_us a_wa : Nat} {W h n b : Int} {hs se pc tn sh fi wa us ly : Int → Int} {jo fo sp fd tc : Int} (hB : 1 ≤ W ∧ W ≤ 5 ∧ 1 ≤ h ∧ h ≤ 5) (hse : ∀ p e : Int, 0 ≤ p ∧ p < W * h → 0 ≤ e ∧ e < 4 → se (p * 4 + e) = sdI W h p e) (hh : hB9 hs) (hn : 0 ≤ n ∧ n ≤ 25) (hpw : ∀ j : Int, 0 ≤ j ∧ j < n → (0 ≤ pc j ∧ pc j < W * h) ∧ 0 ≤ tn j ∧ tn j < 4) (hb : b = 0 ∨ b = 1) : gMet E l yX3_run wsX3_run { frames := 40, cells := 0, slots := 0, locals := 1300 } 0 0 [.ref a_R, .int (iI b)] [(a_R, .inr (3, [.ref a_P, .ref a_L, .ref a_sh, .ref a_fi, .ref a_wa, .ref a_us, .ref a_ly, .ref a_jl, .int (iI jo), .int (iI fo), .int (iI sp), .int (iI fd), .int (iI tc)])), (a_P, .inr (1, [.ref a_hs, .ref a_se, .int (iI W), .int (iI h)])), (a_hs, aI E 200 hs), (a_se, aI E 100 se), (a_L, .inr (2, [.ref a_pc, .ref a_tn, .int (iI n)])), (a_pc, aI E 25 pc), (a_tn, aI E 25 tn), (a_sh, aI E 400 sh), (a_fi, aI E 400 fi), (a_wa, aI E 100 wa), (a_us, aZ E 25 us), (a_ly, aI E 25 ly)] (fun v w => ∃ (sh2 fi2 wa2 us2 ly2 : Int → Int) (sp2 fd2 tc2 : Int), (v = none ∧ runR (FT W h hs pc tn) n (W * h) b ly2 sp2 fd2 tc2) ∧ w = [(a_R, .inr (3, [.ref a_P, .ref a_L, .ref a_sh, .ref a_fi, .ref a_wa, .ref a_us, .ref a_ly, .ref a_jl, .int (iI jo), .int (iI b), .int (iI sp2), .int (iI fd2), .int (iI tc2)])), (a_P, .inr (1, [.ref a_hs, .ref a_se, .int (iI W), .int (iI h)])), (a_hs, aI E 200 hs), (a_se, aI E 100 se), (a_L, .inr (2, [.ref a_pc, .ref a_tn, .int (iI n)])), (a_pc, aI E 25 pc), (a_tn, aI E 25 tn), (a_sh, aI E 400 sh2), (a_fi, aI E 400 fi2), (a_wa, aI E 100 wa2), (a_us, aZ E 25 us2), (a_ly, aI E 25 ly2)]) := by
  refine g_start (cc := cX3_run) (maxL := 3) (ret := none) (by decide) rfl (Nat.le_of_ble_eq_true rfl) ?_
  intro p_ e_ s_ m_ args_ below_ meth_ c_ A_ C hr hnm
  have hn := nsd_b hB
  refine g_iconst 1 C dX3_run_0 rfl ?_
  refine g_istore_n (lv' := [(2, _), (0, _), (1, _)]) 2 C dX3_run_1 rfl rfl (by decide) rfl ?_
  refine g_loop (α := (Int → Int) × (Int → Int) × Int) (fun zz => [(a_R, .inr (3, [.ref a_P, .ref a_L, .ref a_sh, .ref a_fi, .ref a_wa, .ref a_us, .ref a_ly, .ref a_jl, .int (iI jo), .int (iI fo), .int (iI sp), .int (iI fd), .int (iI tc)])), (a_P, .inr (1, [.ref a_hs, .ref a_se, .int (iI W), .int (iI h)])), (a_hs, aI E 200 hs), (a_se, aI E 100 se), (a_L, .inr (2, [.ref a_pc, .ref a_tn, .int (iI n)])), (a_pc, aI E 25 pc), (a_tn, aI E 25 tn), (a_sh, aI E 400 zz.1), (a_fi, aI E 400 zz.2.1), (a_wa, aI E 100 wa), (a_us, aZ E 25 (zrI us zz.2.2)), (a_ly, aI E 25 ly)]) (fun zz => [(2, .int (iI zz.2.2)), (1, .int (iI b)), (0, .ref a_R)]) (fun zz => (0 ≤ zz.2.2 ∧ zz.2.2 ≤ n) ∧ (∀ v d : Int, 0 ≤ v ∧ v < zz.2.2 * 4 → 0 ≤ d ∧ d < 4 → zz.1 (v * 4 + d) = shV W h hs pc tn v d) ∧ (∀ v d : Int, 0 ≤ v ∧ v < zz.2.2 * 4 → 0 ≤ d ∧ d < 4 → zz.2.1 (v * 4 + d) = fiV W h hs pc tn v d)) (fun zz => (n - zz.2.2).toNat) (sh, fi, 0) (by
            try dsimp only
            exact ⟨by omega, fun v d hv => by omega, fun v d hv => by omega⟩) [0, 2, 1] (by rw [zrI_0]) rfl ?_
  rintro ⟨f, g, i⟩ hI ih2
  try dsimp only at hI ih2 ⊢
  obtain ⟨hi, hF, hG⟩ := hI
  refine g_iload_n 3 C 0 dX3_run_2 rfl rfl ?_
  refine g_aload_n 4 C 2 dX3_run_3 rfl rfl ?_
  refine g_get 7 C 0 1 3 iX3_run_X3 lX3_run_35 dX3_run_4 rfl rfl rfl (by decide) rfl ?_
  refine g_callVF 10 C [4] dX3_run_7 rfl (k_X2_size E l  ) (cwV 0 C.2.2.2.2.1 gX3_run_X2_size rfl rfl rfl cdX2_size ⟨Nat.le_of_ble_eq_true rfl, Nat.le_of_ble_eq_true rfl⟩) rfl rfl rfl rfl (Nat.le_of_ble_eq_true rfl) 4 2 rfl rfl rfl ⟨Nat.le_of_ble_eq_true rfl, Nat.le_of_ble_eq_true rfl⟩ ?_
  refine g_icmp_ge 31 13 C dX3_run_10 (by decide) rfl (by omega) ?_ ?_
  · intro h10
    refine g_aload_n 32 C 2 dX3_run_31 rfl rfl ?_
    refine g_iload_n 33 C 1 dX3_run_32 rfl rfl ?_
    refine g_put (ws' := [(_, .inr (3, [_, _, _, _, _, _, _, _, _, _, _, _, _])), (_, .inr (1, [_, _, _, _])), (_, aI _ _ _), (_, aI _ _ _), (_, .inr (2, [_, _, _])), (_, aI _ _ _), (_, aI _ _ _), (_, aI _ _ _), (_, aI _ _ _), (_, aI _ _ _), (_, aZ _ _ _), (_, aI _ _ _)]) 36 C 0 9 3 tyX3 tyX3_ok nmX3 iX3_run_X3 lX3_run_76 dX3_run_33 rfl rfl rfl (by decide) rfl (by rcases hb with rfl | rfl <;> rfl) (by rcases hb with rfl | rfl <;> rfl) (Nat.le_of_ble_eq_true rfl) rfl ?_
    refine g_aload_n 37 C 2 dX3_run_36 rfl rfl ?_
    refine g_iconst 38 C dX3_run_37 rfl ?_
    refine g_put (ws' := [(_, .inr (3, [_, _, _, _, _, _, _, _, _, _, _, _, _])), (_, .inr (1, [_, _, _, _])), (_, aI _ _ _), (_, aI _ _ _), (_, .inr (2, [_, _, _])), (_, aI _ _ _), (_, aI _ _ _), (_, aI _ _ _), (_, aI _ _ _), (_, aI _ _ _), (_, aZ _ _ _), (_, aI _ _ _)]) 41 C 0 10 3 tyX3 tyX3_ok nmX3 iX3_run_X3 lX3_run_57 dX3_run_38 rfl rfl rfl (by decide) rfl (by decide) rfl (Nat.le_of_ble_eq_true rfl) rfl ?_
    refine g_aload_n 42 C 2 dX3_run_41 rfl rfl ?_
    refine g_iconst 43 C dX3_run_42 rfl ?_
    refine g_put (ws' := [(_, .inr (3, [_, _, _, _, _, _, _, _, _, _, _, _, _])), (_, .inr (1, [_, _, _, _])), (_, aI _ _ _), (_, aI _ _ _), (_, .inr (2, [_, _, _])), (_, aI _ _ _), (_, aI _ _ _), (_, aI _ _ _), (_, aI _ _ _), (_, aI _ _ _), (_, aZ _ _ _), (_, aI _ _ _)]) 46 C 0 11 3 tyX3 tyX3_ok nmX3 iX3_run_X3 lX3_run_60 dX3_run_43 rfl rfl rfl (by decide) rfl rfl rfl (Nat.le_of_ble_eq_true rfl) rfl ?_
    refine g_aload_n 47 C 2 dX3_run_46 rfl rfl ?_
    refine g_iconst 48 C dX3_run_47 rfl ?_
    refine g_put (ws' := [(_, .inr (3, [_, _, _, _, _, _, _, _, _, _, _, _, _])), (_, .inr (1, [_, _, _, _])), (_, aI _ _ _), (_, aI _ _ _), (_, .inr (2, [_, _, _])), (_, aI _ _ _), (_, aI _ _ _), (_, aI _ _ _), (_, aI _ _ _), (_, aI _ _ _), (_, aZ _ _ _), (_, aI _ _ _)]) 51 C 0 12 3 tyX3 tyX3_ok nmX3 iX3_run_X3 lX3_run_39 dX3_run_48 rfl rfl rfl (by decide) rfl rfl rfl (Nat.le_of_ble_eq_true rfl) rfl ?_
    refine g_aload_n 52 C 2 dX3_run_51 rfl rfl ?_
    refine g_iconst 53 C dX3_run_52 rfl ?_
    refine g_callV 56 C [0, 1, 3, 4, 7, 8, 9, 10, 11] dX3_run_53 rfl (k_X3_fillFrom_e E l (W * h).toNat (q0 := fun _ => -1) (u0 := fun _ => 0) (by first | assumption | omega) (by omega) (by first | assumption | omega) (by first | assumption | omega) (by first | assumption | omega) (by first | assumption | omega) (fun j hj => absurd hj (by omega)) (fun v d hv hd => hF v d (by omega) hd) (fun v d hv hd => hG v d (by omega) hd) (fun j hj => Or.inl (if_pos (by omega))) ⟨by omega, fun _ => rfl⟩ hb (fun j hj => absurd hj (by omega)) rfl (fun j hj => (if_pos (by omega)).symm)) (cwV 1 C.2.2.2.2.1 gX3_run_X3_fillFrom rfl rfl rfl cdX3_fillFrom ⟨by show (W * h).toNat + 4 + 1 ≤ 40; omega, by show 8 + (4 + 11) + ((W * h).toNat * 40 + 200) ≤ 1300; omega⟩) rfl rfl rfl rfl (Nat.le_of_ble_eq_true rfl) 0 3 rfl rfl rfl ⟨Nat.le_of_ble_eq_true rfl, Nat.le_of_ble_eq_true rfl⟩ (fun v w q => by obtain ⟨_, _, _, _, _, _, -, rfl⟩ := q; rfl) ?_
    rintro _ _ ⟨us2, ly2, wa2, sp2, fd2, tc2, ⟨rfl, hR⟩, rfl⟩
    refine g_w (ws' := [(_, .inr (3, [_, _, _, _, _, _, _, _, _, _, _, _, _])), (_, .inr (1, [_, _, _, _])), (_, aI _ _ _), (_, aI _ _ _), (_, .inr (2, [_, _, _])), (_, aI _ _ _), (_, aI _ _ _), (_, aI _ _ _), (_, aI _ _ _), (_, aI _ _ _), (_, aZ _ _ _), (_, aI _ _ _)]) [0, 1, 2] rfl rfl ?_
    exact g_vret C hr dX3_run_56 ⟨_, _, _, _, _, _, _, _, ⟨rfl, runR_of hR⟩, rfl⟩
  · intro h10
    refine g_aload_n 14 C 2 dX3_run_13 rfl rfl ?_
    refine g_get 17 C 0 5 3 iX3_run_X3 lX3_run_21 dX3_run_14 rfl rfl rfl (by decide) rfl ?_
    refine g_iload_n 18 C 0 dX3_run_17 rfl rfl ?_
    refine g_iconst 19 C dX3_run_18 rfl ?_
    refine g_bastore (ws' := [(_, .inr (3, [_, _, _, _, _, _, _, _, _, _, _, _, _])), (_, .inr (1, [_, _, _, _])), (_, aI _ _ _), (_, aI _ _ _), (_, .inr (2, [_, _, _])), (_, aI _ _ _), (_, aI _ _ _), (_, aI _ _ _), (_, aI _ _ _), (_, aI _ _ _), (_, aZ _ _ _), (_, aI _ _ _)]) 20 C 10 dX3_run_19 rfl rfl (by omega) (by decide) rfl ?_
    refine g_aload_n 21 C 2 dX3_run_20 rfl rfl ?_
    refine g_iload_n 22 C 0 dX3_run_21 rfl rfl ?_
    refine g_callV 25 C [0, 1, 2, 3, 4, 5, 6, 7, 8] dX3_run_22 rfl (k_X3_readEdges E l  (by first | assumption | omega) (by first | assumption | omega) (by first | assumption | omega) (by first | assumption | omega) (by first | assumption | omega) (by first | assumption | omega)) (cwV 1 C.2.2.2.2.1 gX3_run_X3_readEdges rfl rfl rfl cdX3_readEdges ⟨Nat.le_of_ble_eq_true rfl, Nat.le_of_ble_eq_true rfl⟩) rfl rfl rfl rfl (Nat.le_of_ble_eq_true rfl) 0 3 rfl rfl rfl ⟨Nat.le_of_ble_eq_true rfl, Nat.le_of_ble_eq_true rfl⟩ (fun v w q => by obtain ⟨f, g, -, rfl⟩ := q; rfl) ?_
    rintro _ _ ⟨f2, g2, ⟨rfl, hA, hA2⟩, rfl⟩
    refine g_w (ws' := [(_, .inr (3, [_, _, _, _, _, _, _, _, _, _, _, _, _])), (_, .inr (1, [_, _, _, _])), (_, aI _ _ _), (_, aI _ _ _), (_, .inr (2, [_, _, _])), (_, aI _ _ _), (_, aI _ _ _), (_, aI _ _ _), (_, aI _ _ _), (_, aI _ _ _), (_, aZ _ _ _), (_, aI _ _ _)]) [0, 1, 2] rfl rfl ?_
    refine g_iinc (lv' := [(2, _), (1, _), (0, _)]) 28 C 0 dX3_run_25 rfl rfl (by decide) rfl ?_
    refine g_goto 2 C dX3_run_28 (by decide) ?_
    exact g_w [0, 1, 2] (by (try dsimp only); rw [zrI_s us hi.1]) rfl (ih2 (f2, g2, (i + 1)) (by
            try dsimp only
            exact ⟨by omega, okN_sh (by omega) (hpw i (by omega)).2 hF hA, okN_fi (by omega) (hpw i (by omega)).2 hG hA2⟩) (by (try dsimp only); omega))
theorem cdX3_run : yX3_run.cls = RX3 ∧ yX3_run.cls ≠ "java/lang/invoke/MethodHandle" ∧ yX3_run.cls ≠ "java/lang/invoke/VarHandle" ∧ (parseMethodDescriptor yX3_run.desc).map (fun d => d.parameters.length) = some 1 := by decide +kernel
theorem lX3_countWays_57 : Cond.fieldLink RX3 57 (TX3 10).1 (TX3 10).2.1 (TX3 10).2.2.1 ∈ wsX3_countWays := by decide +kernel
theorem lX3_countWays_60 : Cond.fieldLink RX3 60 (TX3 11).1 (TX3 11).2.1 (TX3 11).2.2.1 ∈ wsX3_countWays := by decide +kernel
theorem iX3_countWays_X3 : ∀ w ∈ u_ws RX3 TX3 13, w ∈ wsX3_countWays := by decide +kernel
set_option maxHeartbeats 4000000 in
set_option maxRecDepth 100000 in
theorem k_X3_countWays (E : gE) (l : Launch) {a_L a_P a_R a_fi a_hs a_jl a_ly a_pc a_se a_sh a_tn a_us a_wa : Nat} {W h n : Int} {hs se pc tn sh fi wa us ly : Int → Int} {jo fo sp fd tc : Int} (hB : 1 ≤ W ∧ W ≤ 5 ∧ 1 ≤ h ∧ h ≤ 5) (hse : ∀ p e : Int, 0 ≤ p ∧ p < W * h → 0 ≤ e ∧ e < 4 → se (p * 4 + e) = sdI W h p e) (hh : hB9 hs) (hn : 0 ≤ n ∧ n ≤ 25) (hpw : ∀ j : Int, 0 ≤ j ∧ j < n → (0 ≤ pc j ∧ pc j < W * h) ∧ 0 ≤ tn j ∧ tn j < 4) : gMet E l yX3_countWays wsX3_countWays { frames := 41, cells := 0, slots := 0, locals := 1322 } 0 0 [.ref a_R] [(a_R, .inr (3, [.ref a_P, .ref a_L, .ref a_sh, .ref a_fi, .ref a_wa, .ref a_us, .ref a_ly, .ref a_jl, .int (iI jo), .int (iI fo), .int (iI sp), .int (iI fd), .int (iI tc)])), (a_P, .inr (1, [.ref a_hs, .ref a_se, .int (iI W), .int (iI h)])), (a_hs, aI E 200 hs), (a_se, aI E 100 se), (a_L, .inr (2, [.ref a_pc, .ref a_tn, .int (iI n)])), (a_pc, aI E 25 pc), (a_tn, aI E 25 tn), (a_sh, aI E 400 sh), (a_fi, aI E 400 fi), (a_wa, aI E 100 wa), (a_us, aZ E 25 us), (a_ly, aI E 25 ly)] (fun v w => ∃ (sh2 fi2 wa2 us2 ly2 : Int → Int) (sp2 fd2 tc2 : Int), (v = some (.int (iI (if sp2 = 1 then -6 else fd2))) ∧ runR (FT W h hs pc tn) n (W * h) 0 ly2 sp2 fd2 tc2) ∧ w = [(a_R, .inr (3, [.ref a_P, .ref a_L, .ref a_sh, .ref a_fi, .ref a_wa, .ref a_us, .ref a_ly, .ref a_jl, .int (iI jo), .int (iI 0), .int (iI sp2), .int (iI fd2), .int (iI tc2)])), (a_P, .inr (1, [.ref a_hs, .ref a_se, .int (iI W), .int (iI h)])), (a_hs, aI E 200 hs), (a_se, aI E 100 se), (a_L, .inr (2, [.ref a_pc, .ref a_tn, .int (iI n)])), (a_pc, aI E 25 pc), (a_tn, aI E 25 tn), (a_sh, aI E 400 sh2), (a_fi, aI E 400 fi2), (a_wa, aI E 100 wa2), (a_us, aZ E 25 us2), (a_ly, aI E 25 ly2)]) := by
  refine g_start (cc := cX3_countWays) (maxL := 1) (ret := (some .int)) (by decide) rfl (Nat.le_of_ble_eq_true rfl) ?_
  intro p_ e_ s_ m_ args_ below_ meth_ c_ A_ C hr hnm
  refine g_aload_n 1 C 0 dX3_countWays_0 rfl rfl ?_
  refine g_iconst 2 C dX3_countWays_1 rfl ?_
  refine g_callV 5 C [0, 1, 2, 3, 4, 5, 6, 7, 8, 9, 10, 11] dX3_countWays_2 rfl (k_X3_run E l  (by first | assumption | omega) (by first | assumption | omega) (by first | assumption | omega) (by first | assumption | omega) (by first | assumption | omega) (by omega)) (cwV 1 C.2.2.2.2.1 gX3_countWays_X3_run rfl rfl rfl cdX3_run ⟨Nat.le_of_ble_eq_true rfl, Nat.le_of_ble_eq_true rfl⟩) rfl rfl rfl rfl (Nat.le_of_ble_eq_true rfl) 0 3 rfl rfl rfl ⟨Nat.le_of_ble_eq_true rfl, Nat.le_of_ble_eq_true rfl⟩ (fun v w q => by obtain ⟨_, _, _, _, _, _, _, _, -, rfl⟩ := q; rfl) ?_
  rintro _ _ ⟨sh2, fi2, wa2, us2, ly2, sp2, fd2, tc2, ⟨rfl, hR⟩, rfl⟩
  refine g_w (ws' := [(_, .inr (3, [_, _, _, _, _, _, _, _, _, _, _, _, _])), (_, .inr (1, [_, _, _, _])), (_, aI _ _ _), (_, aI _ _ _), (_, .inr (2, [_, _, _])), (_, aI _ _ _), (_, aI _ _ _), (_, aI _ _ _), (_, aI _ _ _), (_, aI _ _ _), (_, aZ _ _ _), (_, aI _ _ _)]) [0] rfl rfl ?_
  refine g_aload_n 6 C 0 dX3_countWays_5 rfl rfl ?_
  refine g_get 9 C 0 10 3 iX3_countWays_X3 lX3_countWays_57 dX3_countWays_6 rfl rfl rfl (by decide) rfl ?_
  have hs2 := runR_sp hR
  refine g_if_eq 17 12 C dX3_countWays_9 (by decide) rfl (by omega) ?_ ?_
  · intro h9
    refine g_aload_n 18 C 0 dX3_countWays_17 rfl rfl ?_
    refine g_get 21 C 0 11 3 iX3_countWays_X3 lX3_countWays_60 dX3_countWays_18 rfl rfl rfl (by decide) rfl ?_
    exact g_iret C hr dX3_countWays_21 ⟨_, _, _, _, _, _, _, _, ⟨g_ri (by first | exact (if_pos (by omega)).symm | exact (if_neg (by omega)).symm), hR⟩, rfl⟩
  · intro h9
    refine g_bipush 14 C dX3_countWays_12 rfl (by decide) ?_
    refine g_goto 21 C dX3_countWays_14 (by decide) ?_
    exact g_iret C hr dX3_countWays_21 ⟨_, _, _, _, _, _, _, _, ⟨g_ri (by first | exact (if_pos (by omega)).symm | exact (if_neg (by omega)).symm), hR⟩, rfl⟩
theorem lX3_findFirst_25 : Cond.fieldLink RX3 25 (TX3 6).1 (TX3 6).2.1 (TX3 6).2.2.1 ∈ wsX3_findFirst := by decide +kernel
theorem lX3_findFirst_28 : Cond.fieldLink RX3 28 (TX3 7).1 (TX3 7).2.1 (TX3 7).2.2.1 ∈ wsX3_findFirst := by decide +kernel
theorem lX3_findFirst_31 : Cond.fieldLink RX3 31 (TX3 0).1 (TX3 0).2.1 (TX3 0).2.2.1 ∈ wsX3_findFirst := by decide +kernel
theorem lX3_findFirst_43 : Cond.fieldLink RX3 43 (TX3 8).1 (TX3 8).2.1 (TX3 8).2.2.1 ∈ wsX3_findFirst := by decide +kernel
theorem lX3_findFirst_57 : Cond.fieldLink RX3 57 (TX3 10).1 (TX3 10).2.1 (TX3 10).2.2.1 ∈ wsX3_findFirst := by decide +kernel
theorem lX3_findFirst_60 : Cond.fieldLink RX3 60 (TX3 11).1 (TX3 11).2.1 (TX3 11).2.2.1 ∈ wsX3_findFirst := by decide +kernel
theorem iX3_findFirst_X3 : ∀ w ∈ u_ws RX3 TX3 13, w ∈ wsX3_findFirst := by decide +kernel
set_option maxHeartbeats 4000000 in
set_option maxRecDepth 100000 in
theorem k_X3_findFirst (E : gE) (l : Launch) {a_L a_P a_R a_fi a_hs a_jl a_ly a_pc a_se a_sh a_tn a_us a_wa : Nat} {W h n : Int} {hs se pc tn sh fi wa us ly : Int → Int} {jo fo sp fd tc : Int} {jl : Int → Int} (hB : 1 ≤ W ∧ W ≤ 5 ∧ 1 ≤ h ∧ h ≤ 5) (hse : ∀ p e : Int, 0 ≤ p ∧ p < W * h → 0 ≤ e ∧ e < 4 → se (p * 4 + e) = sdI W h p e) (hh : hB9 hs) (hn : 0 ≤ n ∧ n ≤ 25) (hpw : ∀ j : Int, 0 ≤ j ∧ j < n → (0 ≤ pc j ∧ pc j < W * h) ∧ 0 ≤ tn j ∧ tn j < 4) : gMet E l yX3_findFirst wsX3_findFirst { frames := 41, cells := 0, slots := 0, locals := 1322 } 0 0 [.ref a_R] [(a_R, .inr (3, [.ref a_P, .ref a_L, .ref a_sh, .ref a_fi, .ref a_wa, .ref a_us, .ref a_ly, .ref a_jl, .int (iI jo), .int (iI fo), .int (iI sp), .int (iI fd), .int (iI tc)])), (a_P, .inr (1, [.ref a_hs, .ref a_se, .int (iI W), .int (iI h)])), (a_hs, aI E 200 hs), (a_se, aI E 100 se), (a_L, .inr (2, [.ref a_pc, .ref a_tn, .int (iI n)])), (a_pc, aI E 25 pc), (a_tn, aI E 25 tn), (a_sh, aI E 400 sh), (a_fi, aI E 400 fi), (a_wa, aI E 100 wa), (a_us, aZ E 25 us), (a_ly, aI E 25 ly), (a_jl, aI E 25 jl)] (fun v w => ∃ (sh2 fi2 wa2 us2 ly2 : Int → Int) (sp2 fd2 tc2 : Int) (r jo2 : Int) (jl2 : Int → Int), (v = some (.int (iI r)) ∧ runR (FT W h hs pc tn) n (W * h) 1 ly2 sp2 fd2 tc2 ∧ ((sp2 = 1 ∧ r = -6 ∧ jo2 = jo ∧ jl2 = jl) ∨ (sp2 = 0 ∧ r = 0 ∧ fd2 = 0 ∧ jo2 = 0 ∧ jl2 = jl) ∨ (sp2 = 0 ∧ r = 1 ∧ fd2 = 1 ∧ jo2 = 1 ∧ ∀ j : Int, 0 ≤ j ∧ j < W * h → jl2 j = ly2 j))) ∧ w = [(a_R, .inr (3, [.ref a_P, .ref a_L, .ref a_sh, .ref a_fi, .ref a_wa, .ref a_us, .ref a_ly, .ref a_jl, .int (iI jo2), .int (iI 1), .int (iI sp2), .int (iI fd2), .int (iI tc2)])), (a_P, .inr (1, [.ref a_hs, .ref a_se, .int (iI W), .int (iI h)])), (a_hs, aI E 200 hs), (a_se, aI E 100 se), (a_L, .inr (2, [.ref a_pc, .ref a_tn, .int (iI n)])), (a_pc, aI E 25 pc), (a_tn, aI E 25 tn), (a_sh, aI E 400 sh2), (a_fi, aI E 400 fi2), (a_wa, aI E 100 wa2), (a_us, aZ E 25 us2), (a_ly, aI E 25 ly2), (a_jl, aI E 25 jl2)]) := by
  refine g_start (cc := cX3_findFirst) (maxL := 2) (ret := (some .int)) (by decide) rfl (Nat.le_of_ble_eq_true rfl) ?_
  intro p_ e_ s_ m_ args_ below_ meth_ c_ A_ C hr hnm
  have hn := nsd_b hB
  refine g_aload_n 1 C 0 dX3_findFirst_0 rfl rfl ?_
  refine g_iconst 2 C dX3_findFirst_1 rfl ?_
  refine g_callV 5 C [0, 1, 2, 3, 4, 5, 6, 7, 8, 9, 10, 11] dX3_findFirst_2 rfl (k_X3_run E l  (by first | assumption | omega) (by first | assumption | omega) (by first | assumption | omega) (by first | assumption | omega) (by first | assumption | omega) (by omega)) (cwV 1 C.2.2.2.2.1 gX3_findFirst_X3_run rfl rfl rfl cdX3_run ⟨Nat.le_of_ble_eq_true rfl, Nat.le_of_ble_eq_true rfl⟩) rfl rfl rfl rfl (Nat.le_of_ble_eq_true rfl) 0 3 rfl rfl rfl ⟨Nat.le_of_ble_eq_true rfl, Nat.le_of_ble_eq_true rfl⟩ (fun v w q => by obtain ⟨_, _, _, _, _, _, _, _, -, rfl⟩ := q; rfl) ?_
  rintro _ _ ⟨sh2, fi2, wa2, us2, ly2, sp2, fd2, tc2, ⟨rfl, hR⟩, rfl⟩
  refine g_w (ws' := [(_, .inr (3, [_, _, _, _, _, _, _, _, _, _, _, _, _])), (_, .inr (1, [_, _, _, _])), (_, aI _ _ _), (_, aI _ _ _), (_, .inr (2, [_, _, _])), (_, aI _ _ _), (_, aI _ _ _), (_, aI _ _ _), (_, aI _ _ _), (_, aI _ _ _), (_, aZ _ _ _), (_, aI _ _ _), (_, aI _ _ _)]) [0] rfl rfl ?_
  refine g_aload_n 6 C 0 dX3_findFirst_5 rfl rfl ?_
  refine g_get 9 C 0 10 3 iX3_findFirst_X3 lX3_findFirst_57 dX3_findFirst_6 rfl rfl rfl (by decide) rfl ?_
  have hs2 := runR_sp hR
  refine g_if_eq 15 12 C dX3_findFirst_9 (by decide) rfl (by omega) ?_ ?_
  · intro h9
    refine g_aload_n 16 C 0 dX3_findFirst_15 rfl rfl ?_
    refine g_aload_n 17 C 0 dX3_findFirst_16 rfl rfl ?_
    have hs3 := runR_fd hR (by omega)
    refine g_get 20 C 0 11 3 iX3_findFirst_X3 lX3_findFirst_60 dX3_findFirst_17 rfl rfl rfl (by decide) rfl ?_
    refine g_if_le 27 23 C dX3_findFirst_20 (by decide) rfl (by omega) ?_ ?_
    · intro h20
      refine g_iconst 28 C dX3_findFirst_27 rfl ?_
      refine g_put (ws' := [(_, .inr (3, [_, _, _, _, _, _, _, _, _, _, _, _, _])), (_, .inr (1, [_, _, _, _])), (_, aI _ _ _), (_, aI _ _ _), (_, .inr (2, [_, _, _])), (_, aI _ _ _), (_, aI _ _ _), (_, aI _ _ _), (_, aI _ _ _), (_, aI _ _ _), (_, aZ _ _ _), (_, aI _ _ _), (_, aI _ _ _)]) 31 C 0 8 3 tyX3 tyX3_ok nmX3 iX3_findFirst_X3 lX3_findFirst_43 dX3_findFirst_28 rfl rfl rfl (by decide) rfl (by decide) rfl (Nat.le_of_ble_eq_true rfl) rfl ?_
      refine g_iconst 32 C dX3_findFirst_31 rfl ?_
      refine g_istore_n (lv' := [(1, _), (0, _)]) 33 C dX3_findFirst_32 rfl rfl (by decide) rfl ?_
      refine g_aload_n 34 C 1 dX3_findFirst_33 rfl rfl ?_
      refine g_get 37 C 0 8 3 iX3_findFirst_X3 lX3_findFirst_43 dX3_findFirst_34 rfl rfl rfl (by decide) rfl ?_
      refine g_if_eq 69 40 C dX3_findFirst_37 (by decide) rfl (by omega) ?_ (fun q => absurd q (by omega))
      intro _
      refine g_aload_n 70 C 1 dX3_findFirst_69 rfl rfl ?_
      refine g_get 73 C 0 11 3 iX3_findFirst_X3 lX3_findFirst_60 dX3_findFirst_70 rfl rfl rfl (by decide) rfl ?_
      exact g_iret C hr dX3_findFirst_73 ⟨_, _, _, _, _, _, _, _, fd2, _, _, ⟨rfl, hR, Or.inr (Or.inl ⟨by omega, by omega, by omega, rfl, rfl⟩)⟩, rfl⟩
    · intro h20
      refine g_iconst 24 C dX3_findFirst_23 rfl ?_
      refine g_goto 28 C dX3_findFirst_24 (by decide) ?_
      refine g_put (ws' := [(_, .inr (3, [_, _, _, _, _, _, _, _, _, _, _, _, _])), (_, .inr (1, [_, _, _, _])), (_, aI _ _ _), (_, aI _ _ _), (_, .inr (2, [_, _, _])), (_, aI _ _ _), (_, aI _ _ _), (_, aI _ _ _), (_, aI _ _ _), (_, aI _ _ _), (_, aZ _ _ _), (_, aI _ _ _), (_, aI _ _ _)]) 31 C 0 8 3 tyX3 tyX3_ok nmX3 iX3_findFirst_X3 lX3_findFirst_43 dX3_findFirst_28 rfl rfl rfl (by decide) rfl (by decide) rfl (Nat.le_of_ble_eq_true rfl) rfl ?_
      refine g_iconst 32 C dX3_findFirst_31 rfl ?_
      refine g_istore_n (lv' := [(1, _), (0, _)]) 33 C dX3_findFirst_32 rfl rfl (by decide) rfl ?_
      refine g_loop (α := (Int → Int) × Int) (fun zz => [(a_R, .inr (3, [.ref a_P, .ref a_L, .ref a_sh, .ref a_fi, .ref a_wa, .ref a_us, .ref a_ly, .ref a_jl, .int (iI 1), .int (iI 1), .int (iI sp2), .int (iI fd2), .int (iI tc2)])), (a_P, .inr (1, [.ref a_hs, .ref a_se, .int (iI W), .int (iI h)])), (a_hs, aI E 200 hs), (a_se, aI E 100 se), (a_L, .inr (2, [.ref a_pc, .ref a_tn, .int (iI n)])), (a_pc, aI E 25 pc), (a_tn, aI E 25 tn), (a_sh, aI E 400 sh2), (a_fi, aI E 400 fi2), (a_wa, aI E 100 wa2), (a_us, aZ E 25 us2), (a_ly, aI E 25 ly2), (a_jl, aI E 25 zz.1)]) (fun zz => [(1, .int (iI zz.2)), (0, .ref a_R)]) (fun zz => (0 ≤ zz.2 ∧ zz.2 ≤ W * h) ∧ ∀ j : Int, 0 ≤ j ∧ j < zz.2 → zz.1 j = ly2 j) (fun zz => (W * h - zz.2).toNat) (jl, 0) (by
            try dsimp only
            exact ⟨by omega, fun j hj => by omega⟩) [0, 1] rfl rfl ?_
      rintro ⟨f, z⟩ hI ih33
      try dsimp only at hI ih33 ⊢
      obtain ⟨hz, hf⟩ := hI
      refine g_aload_n 34 C 1 dX3_findFirst_33 rfl rfl ?_
      refine g_get 37 C 0 8 3 iX3_findFirst_X3 lX3_findFirst_43 dX3_findFirst_34 rfl rfl rfl (by decide) rfl ?_
      refine g_if_eq 69 40 C dX3_findFirst_37 (by decide) rfl (by omega) (fun q => absurd q (by omega)) ?_
      intro _
      refine g_iload_n 41 C 0 dX3_findFirst_40 rfl rfl ?_
      refine g_aload_n 42 C 1 dX3_findFirst_41 rfl rfl ?_
      refine g_get 45 C 0 0 3 iX3_findFirst_X3 lX3_findFirst_31 dX3_findFirst_42 rfl rfl rfl (by decide) rfl ?_
      refine g_callVF 48 C [1] dX3_findFirst_45 rfl (k_X1_pieces E l  ) (cwV 0 C.2.2.2.2.1 gX3_findFirst_X1_pieces rfl rfl rfl cdX1_pieces ⟨Nat.le_of_ble_eq_true rfl, Nat.le_of_ble_eq_true rfl⟩) rfl rfl rfl rfl (Nat.le_of_ble_eq_true rfl) 1 1 rfl rfl rfl ⟨Nat.le_of_ble_eq_true rfl, Nat.le_of_ble_eq_true rfl⟩ ?_
      refine g_icmp_ge 69 51 C dX3_findFirst_48 (by decide) rfl (by omega) ?_ ?_
      · intro h48
        refine g_aload_n 70 C 1 dX3_findFirst_69 rfl rfl ?_
        refine g_get 73 C 0 11 3 iX3_findFirst_X3 lX3_findFirst_60 dX3_findFirst_70 rfl rfl rfl (by decide) rfl ?_
        exact g_iret C hr dX3_findFirst_73 ⟨_, _, _, _, _, _, _, _, fd2, _, _, ⟨rfl, hR, Or.inr (Or.inr ⟨by omega, by omega, by omega, rfl, fun j hj => hf j (by omega)⟩)⟩, rfl⟩
      · intro h48
        refine g_aload_n 52 C 1 dX3_findFirst_51 rfl rfl ?_
        refine g_get 55 C 0 7 3 iX3_findFirst_X3 lX3_findFirst_28 dX3_findFirst_52 rfl rfl rfl (by decide) rfl ?_
        refine g_iload_n 56 C 0 dX3_findFirst_55 rfl rfl ?_
        refine g_aload_n 57 C 1 dX3_findFirst_56 rfl rfl ?_
        refine g_get 60 C 0 6 3 iX3_findFirst_X3 lX3_findFirst_25 dX3_findFirst_57 rfl rfl rfl (by decide) rfl ?_
        refine g_iload_n 61 C 0 dX3_findFirst_60 rfl rfl ?_
        refine g_iaload 62 C 11 dX3_findFirst_61 rfl rfl (by omega) ?_
        refine g_iastore (ws' := [(_, .inr (3, [_, _, _, _, _, _, _, _, _, _, _, _, _])), (_, .inr (1, [_, _, _, _])), (_, aI _ _ _), (_, aI _ _ _), (_, .inr (2, [_, _, _])), (_, aI _ _ _), (_, aI _ _ _), (_, aI _ _ _), (_, aI _ _ _), (_, aI _ _ _), (_, aZ _ _ _), (_, aI _ _ _), (_, aI _ _ _)]) 63 C 12 dX3_findFirst_62 rfl rfl (by omega) rfl ?_
        refine g_iinc (lv' := [(1, _), (0, _)]) 66 C 0 dX3_findFirst_63 rfl rfl (by decide) rfl ?_
        refine g_goto 33 C dX3_findFirst_66 (by decide) ?_
        exact g_w [0, 1] rfl rfl (ih33 ((uI f z (ly2 z)), (z + 1)) (by
            try dsimp only
            exact ⟨by omega, fun j hj => by
              by_cases e : j = z
              · rw [e, uI_eq]
              · rw [uI_ne e]; exact hf j (by omega)⟩) (by (try dsimp only); omega))
  · intro h9
    refine g_bipush 14 C dX3_findFirst_12 rfl (by decide) ?_
    exact g_iret C hr dX3_findFirst_14 ⟨_, _, _, _, _, _, _, _, -6, _, _, ⟨rfl, hR, Or.inl ⟨by omega, rfl, rfl, rfl⟩⟩, rfl⟩
end
