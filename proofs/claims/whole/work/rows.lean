section
-- ===== PART A: goes FIRST, ahead of the names: the tables' words, and 'selects' of the private methods out of them =====
/-- a private method of a class that the tables say can be made, by its rows of tables_1 -/
def lw_okq (q : MethodName × Nat) : Prop := (q.1.cls ≠ "java/lang/invoke/MethodHandle" ∧ q.1.cls ≠ "java/lang/invoke/VarHandle") ∧ Cond.instantiable q.1.cls q.2 ∈ tables_1 ∧ Cond.privateMethod q.1 ∈ tables_1 ∧ Cond.instanceMethod q.1 ∈ tables_1
theorem lw_p0 : lw_okq (⟨"ZoneSampler$History", "stateAt", "(I)LZoneSampler$State;"⟩, 5) := ⟨⟨by decide +kernel, by decide +kernel⟩, List.mem_of_getElem? (i := 62) (by decide +kernel), List.mem_of_getElem? (i := 205) (by decide +kernel), List.mem_of_getElem? (i := 206) (by decide +kernel)⟩
theorem lw_p1 : lw_okq (⟨"ZoneSampler$State", "grow", "(II)V"⟩, 5) := ⟨⟨by decide +kernel, by decide +kernel⟩, List.mem_of_getElem? (i := 19) (by decide +kernel), List.mem_of_getElem? (i := 272) (by decide +kernel), List.mem_of_getElem? (i := 273) (by decide +kernel)⟩
theorem lw_p2 : lw_okq (⟨"ZoneSampler$State", "moveHeld", "(II)I"⟩, 5) := ⟨⟨by decide +kernel, by decide +kernel⟩, List.mem_of_getElem? (i := 19) (by decide +kernel), List.mem_of_getElem? (i := 295) (by decide +kernel), List.mem_of_getElem? (i := 296) (by decide +kernel)⟩
theorem lw_p3 : lw_okq (⟨"ZoneSampler$State", "begin", "(III)V"⟩, 5) := ⟨⟨by decide +kernel, by decide +kernel⟩, List.mem_of_getElem? (i := 19) (by decide +kernel), List.mem_of_getElem? (i := 307) (by decide +kernel), List.mem_of_getElem? (i := 308) (by decide +kernel)⟩
theorem lw_p4 : lw_okq (⟨"ZoneSampler$State", "choke", "(I)V"⟩, 5) := ⟨⟨by decide +kernel, by decide +kernel⟩, List.mem_of_getElem? (i := 19) (by decide +kernel), List.mem_of_getElem? (i := 311) (by decide +kernel), List.mem_of_getElem? (i := 312) (by decide +kernel)⟩
theorem lw_p5 : lw_okq (⟨"ZoneSampler$State", "stealRank", "(I)I"⟩, 5) := ⟨⟨by decide +kernel, by decide +kernel⟩, List.mem_of_getElem? (i := 19) (by decide +kernel), List.mem_of_getElem? (i := 319) (by decide +kernel), List.mem_of_getElem? (i := 320) (by decide +kernel)⟩
theorem lw_p6 : lw_okq (⟨"ZoneSampler$State", "passTurns", "(II)V"⟩, 5) := ⟨⟨by decide +kernel, by decide +kernel⟩, List.mem_of_getElem? (i := 19) (by decide +kernel), List.mem_of_getElem? (i := 323) (by decide +kernel), List.mem_of_getElem? (i := 324) (by decide +kernel)⟩
theorem lw_p7 : lw_okq (⟨"ZoneSampler$State", "wear", "(I)V"⟩, 5) := ⟨⟨by decide +kernel, by decide +kernel⟩, List.mem_of_getElem? (i := 19) (by decide +kernel), List.mem_of_getElem? (i := 351) (by decide +kernel), List.mem_of_getElem? (i := 352) (by decide +kernel)⟩
theorem lw_p8 : lw_okq (⟨"ZoneSampler$State", "fadeOf", "(I)I"⟩, 5) := ⟨⟨by decide +kernel, by decide +kernel⟩, List.mem_of_getElem? (i := 19) (by decide +kernel), List.mem_of_getElem? (i := 355) (by decide +kernel), List.mem_of_getElem? (i := 356) (by decide +kernel)⟩
theorem lw_p9 : lw_okq (⟨"ZoneSampler$Pad", "readNumber", "(II)Z"⟩, 14) := ⟨⟨by decide +kernel, by decide +kernel⟩, List.mem_of_getElem? (i := 86) (by decide +kernel), List.mem_of_getElem? (i := 421) (by decide +kernel), List.mem_of_getElem? (i := 422) (by decide +kernel)⟩
theorem lw_p10 : lw_okq (⟨"ZoneSampler$Pad", "sign", "()I"⟩, 14) := ⟨⟨by decide +kernel, by decide +kernel⟩, List.mem_of_getElem? (i := 86) (by decide +kernel), List.mem_of_getElem? (i := 425) (by decide +kernel), List.mem_of_getElem? (i := 426) (by decide +kernel)⟩
theorem lw_p11 : lw_okq (⟨"ZoneSampler$Pad", "readMark", "(II)Z"⟩, 14) := ⟨⟨by decide +kernel, by decide +kernel⟩, List.mem_of_getElem? (i := 86) (by decide +kernel), List.mem_of_getElem? (i := 436) (by decide +kernel), List.mem_of_getElem? (i := 437) (by decide +kernel)⟩
theorem lw_p12 : lw_okq (⟨"ZoneSampler$Pad", "readDeedKey", "()Z"⟩, 14) := ⟨⟨by decide +kernel, by decide +kernel⟩, List.mem_of_getElem? (i := 86) (by decide +kernel), List.mem_of_getElem? (i := 444) (by decide +kernel), List.mem_of_getElem? (i := 445) (by decide +kernel)⟩
theorem lw_p13 : lw_okq (⟨"ZoneSampler$Pad", "readAmount", "(I)Z"⟩, 14) := ⟨⟨by decide +kernel, by decide +kernel⟩, List.mem_of_getElem? (i := 86) (by decide +kernel), List.mem_of_getElem? (i := 448) (by decide +kernel), List.mem_of_getElem? (i := 449) (by decide +kernel)⟩
theorem lw_p14 : lw_okq (⟨"ZoneSampler", "doDeed", "()V"⟩, 7) := ⟨⟨by decide +kernel, by decide +kernel⟩, List.mem_of_getElem? (i := 11) (by decide +kernel), List.mem_of_getElem? (i := 465) (by decide +kernel), List.mem_of_getElem? (i := 466) (by decide +kernel)⟩
theorem lw_p15 : lw_okq (⟨"ZoneSampler$Survey", "start", "()V"⟩, 5) := ⟨⟨by decide +kernel, by decide +kernel⟩, List.mem_of_getElem? (i := 146) (by decide +kernel), List.mem_of_getElem? (i := 502) (by decide +kernel), List.mem_of_getElem? (i := 503) (by decide +kernel)⟩
def lw_privs_1 : List (MethodName × Nat) := [(⟨"ZoneSampler$History", "stateAt", "(I)LZoneSampler$State;"⟩, 5), (⟨"ZoneSampler$State", "grow", "(II)V"⟩, 5), (⟨"ZoneSampler$State", "moveHeld", "(II)I"⟩, 5), (⟨"ZoneSampler$State", "begin", "(III)V"⟩, 5), (⟨"ZoneSampler$State", "choke", "(I)V"⟩, 5), (⟨"ZoneSampler$State", "stealRank", "(I)I"⟩, 5), (⟨"ZoneSampler$State", "passTurns", "(II)V"⟩, 5), (⟨"ZoneSampler$State", "wear", "(I)V"⟩, 5), (⟨"ZoneSampler$State", "fadeOf", "(I)I"⟩, 5), (⟨"ZoneSampler$Pad", "readNumber", "(II)Z"⟩, 14), (⟨"ZoneSampler$Pad", "sign", "()I"⟩, 14), (⟨"ZoneSampler$Pad", "readMark", "(II)Z"⟩, 14), (⟨"ZoneSampler$Pad", "readDeedKey", "()Z"⟩, 14), (⟨"ZoneSampler$Pad", "readAmount", "(I)Z"⟩, 14), (⟨"ZoneSampler", "doDeed", "()V"⟩, 7), (⟨"ZoneSampler$Survey", "start", "()V"⟩, 5)]
theorem lw_r1 : ∀ q ∈ lw_privs_1, lw_okq q := List.forall_mem_cons.mpr ⟨lw_p0, List.forall_mem_cons.mpr ⟨lw_p1, List.forall_mem_cons.mpr ⟨lw_p2, List.forall_mem_cons.mpr ⟨lw_p3, List.forall_mem_cons.mpr ⟨lw_p4, List.forall_mem_cons.mpr ⟨lw_p5, List.forall_mem_cons.mpr ⟨lw_p6, List.forall_mem_cons.mpr ⟨lw_p7, List.forall_mem_cons.mpr ⟨lw_p8, List.forall_mem_cons.mpr ⟨lw_p9, List.forall_mem_cons.mpr ⟨lw_p10, List.forall_mem_cons.mpr ⟨lw_p11, List.forall_mem_cons.mpr ⟨lw_p12, List.forall_mem_cons.mpr ⟨lw_p13, List.forall_mem_cons.mpr ⟨lw_p14, List.forall_mem_cons.mpr ⟨lw_p15, fun _ h => absurd h List.not_mem_nil⟩⟩⟩⟩⟩⟩⟩⟩⟩⟩⟩⟩⟩⟩⟩⟩
theorem lw_p16 : lw_okq (⟨"ZoneSampler$Survey", "see", "(II)V"⟩, 5) := ⟨⟨by decide +kernel, by decide +kernel⟩, List.mem_of_getElem? (i := 146) (by decide +kernel), List.mem_of_getElem? (i := 507) (by decide +kernel), List.mem_of_getElem? (i := 508) (by decide +kernel)⟩
theorem lw_p17 : lw_okq (⟨"ZoneSampler$Survey", "deepen", "(LZoneSampler$Table;II)V"⟩, 5) := ⟨⟨by decide +kernel, by decide +kernel⟩, List.mem_of_getElem? (i := 146) (by decide +kernel), List.mem_of_getElem? (i := 520) (by decide +kernel), List.mem_of_getElem? (i := 521) (by decide +kernel)⟩
theorem lw_p18 : lw_okq (⟨"ZoneSamplerModel", "records", "()V"⟩, 17) := ⟨⟨by decide +kernel, by decide +kernel⟩, List.mem_of_getElem? (i := 588) (by decide +kernel), List.mem_of_getElem? (i := 654) (by decide +kernel), List.mem_of_getElem? (i := 655) (by decide +kernel)⟩
theorem lw_p19 : lw_okq (⟨"ZoneSamplerModel", "addsZone", "(IIII)V"⟩, 17) := ⟨⟨by decide +kernel, by decide +kernel⟩, List.mem_of_getElem? (i := 588) (by decide +kernel), List.mem_of_getElem? (i := 661) (by decide +kernel), List.mem_of_getElem? (i := 662) (by decide +kernel)⟩
theorem lw_p20 : lw_okq (⟨"ZoneSamplerModel", "laysZone", "(III)V"⟩, 17) := ⟨⟨by decide +kernel, by decide +kernel⟩, List.mem_of_getElem? (i := 588) (by decide +kernel), List.mem_of_getElem? (i := 665) (by decide +kernel), List.mem_of_getElem? (i := 666) (by decide +kernel)⟩
theorem lw_p21 : lw_okq (⟨"ZoneSamplerModel", "isZone", "(I)Z"⟩, 17) := ⟨⟨by decide +kernel, by decide +kernel⟩, List.mem_of_getElem? (i := 588) (by decide +kernel), List.mem_of_getElem? (i := 673) (by decide +kernel), List.mem_of_getElem? (i := 674) (by decide +kernel)⟩
theorem lw_p22 : lw_okq (⟨"ZoneSamplerModel", "ofZone", "(II)I"⟩, 17) := ⟨⟨by decide +kernel, by decide +kernel⟩, List.mem_of_getElem? (i := 588) (by decide +kernel), List.mem_of_getElem? (i := 677) (by decide +kernel), List.mem_of_getElem? (i := 678) (by decide +kernel)⟩
theorem lw_p23 : lw_okq (⟨"ZoneSamplerModel", "of", "(II)I"⟩, 17) := ⟨⟨by decide +kernel, by decide +kernel⟩, List.mem_of_getElem? (i := 588) (by decide +kernel), List.mem_of_getElem? (i := 685) (by decide +kernel), List.mem_of_getElem? (i := 686) (by decide +kernel)⟩
theorem lw_p24 : lw_okq (⟨"ZoneSamplerModel", "dropsVoice", "(I)V"⟩, 17) := ⟨⟨by decide +kernel, by decide +kernel⟩, List.mem_of_getElem? (i := 588) (by decide +kernel), List.mem_of_getElem? (i := 689) (by decide +kernel), List.mem_of_getElem? (i := 690) (by decide +kernel)⟩
theorem lw_p25 : lw_okq (⟨"ZoneSamplerModel", "lays", "(III)V"⟩, 17) := ⟨⟨by decide +kernel, by decide +kernel⟩, List.mem_of_getElem? (i := 588) (by decide +kernel), List.mem_of_getElem? (i := 693) (by decide +kernel), List.mem_of_getElem? (i := 694) (by decide +kernel)⟩
theorem lw_p26 : lw_okq (⟨"ZoneSamplerModel", "goHit", "(II)I"⟩, 17) := ⟨⟨by decide +kernel, by decide +kernel⟩, List.mem_of_getElem? (i := 588) (by decide +kernel), List.mem_of_getElem? (i := 704) (by decide +kernel), List.mem_of_getElem? (i := 705) (by decide +kernel)⟩
theorem lw_p27 : lw_okq (⟨"ZoneSamplerModel", "isSounding", "(III)Z"⟩, 17) := ⟨⟨by decide +kernel, by decide +kernel⟩, List.mem_of_getElem? (i := 588) (by decide +kernel), List.mem_of_getElem? (i := 708) (by decide +kernel), List.mem_of_getElem? (i := 709) (by decide +kernel)⟩
theorem lw_p28 : lw_okq (⟨"ZoneSamplerModel", "isAnswer", "(III)Z"⟩, 17) := ⟨⟨by decide +kernel, by decide +kernel⟩, List.mem_of_getElem? (i := 588) (by decide +kernel), List.mem_of_getElem? (i := 712) (by decide +kernel), List.mem_of_getElem? (i := 713) (by decide +kernel)⟩
theorem lw_p29 : lw_okq (⟨"ZoneSamplerModel", "ofRobin", "(IIII)I"⟩, 17) := ⟨⟨by decide +kernel, by decide +kernel⟩, List.mem_of_getElem? (i := 588) (by decide +kernel), List.mem_of_getElem? (i := 716) (by decide +kernel), List.mem_of_getElem? (i := 717) (by decide +kernel)⟩
theorem lw_p30 : lw_okq (⟨"ZoneSamplerModel", "begins", "(III)V"⟩, 17) := ⟨⟨by decide +kernel, by decide +kernel⟩, List.mem_of_getElem? (i := 588) (by decide +kernel), List.mem_of_getElem? (i := 720) (by decide +kernel), List.mem_of_getElem? (i := 721) (by decide +kernel)⟩
theorem lw_p31 : lw_okq (⟨"ZoneSamplerModel", "chokes", "(I)V"⟩, 17) := ⟨⟨by decide +kernel, by decide +kernel⟩, List.mem_of_getElem? (i := 588) (by decide +kernel), List.mem_of_getElem? (i := 724) (by decide +kernel), List.mem_of_getElem? (i := 725) (by decide +kernel)⟩
def lw_privs_2 : List (MethodName × Nat) := [(⟨"ZoneSampler$Survey", "see", "(II)V"⟩, 5), (⟨"ZoneSampler$Survey", "deepen", "(LZoneSampler$Table;II)V"⟩, 5), (⟨"ZoneSamplerModel", "records", "()V"⟩, 17), (⟨"ZoneSamplerModel", "addsZone", "(IIII)V"⟩, 17), (⟨"ZoneSamplerModel", "laysZone", "(III)V"⟩, 17), (⟨"ZoneSamplerModel", "isZone", "(I)Z"⟩, 17), (⟨"ZoneSamplerModel", "ofZone", "(II)I"⟩, 17), (⟨"ZoneSamplerModel", "of", "(II)I"⟩, 17), (⟨"ZoneSamplerModel", "dropsVoice", "(I)V"⟩, 17), (⟨"ZoneSamplerModel", "lays", "(III)V"⟩, 17), (⟨"ZoneSamplerModel", "goHit", "(II)I"⟩, 17), (⟨"ZoneSamplerModel", "isSounding", "(III)Z"⟩, 17), (⟨"ZoneSamplerModel", "isAnswer", "(III)Z"⟩, 17), (⟨"ZoneSamplerModel", "ofRobin", "(IIII)I"⟩, 17), (⟨"ZoneSamplerModel", "begins", "(III)V"⟩, 17), (⟨"ZoneSamplerModel", "chokes", "(I)V"⟩, 17)]
theorem lw_r2 : ∀ q ∈ lw_privs_2, lw_okq q := List.forall_mem_cons.mpr ⟨lw_p16, List.forall_mem_cons.mpr ⟨lw_p17, List.forall_mem_cons.mpr ⟨lw_p18, List.forall_mem_cons.mpr ⟨lw_p19, List.forall_mem_cons.mpr ⟨lw_p20, List.forall_mem_cons.mpr ⟨lw_p21, List.forall_mem_cons.mpr ⟨lw_p22, List.forall_mem_cons.mpr ⟨lw_p23, List.forall_mem_cons.mpr ⟨lw_p24, List.forall_mem_cons.mpr ⟨lw_p25, List.forall_mem_cons.mpr ⟨lw_p26, List.forall_mem_cons.mpr ⟨lw_p27, List.forall_mem_cons.mpr ⟨lw_p28, List.forall_mem_cons.mpr ⟨lw_p29, List.forall_mem_cons.mpr ⟨lw_p30, List.forall_mem_cons.mpr ⟨lw_p31, fun _ h => absurd h List.not_mem_nil⟩⟩⟩⟩⟩⟩⟩⟩⟩⟩⟩⟩⟩⟩⟩⟩
theorem lw_p32 : lw_okq (⟨"ZoneSamplerModel", "steals", "()V"⟩, 17) := ⟨⟨by decide +kernel, by decide +kernel⟩, List.mem_of_getElem? (i := 588) (by decide +kernel), List.mem_of_getElem? (i := 728) (by decide +kernel), List.mem_of_getElem? (i := 729) (by decide +kernel)⟩
theorem lw_p33 : lw_okq (⟨"ZoneSamplerModel", "soon", "(I)I"⟩, 17) := ⟨⟨by decide +kernel, by decide +kernel⟩, List.mem_of_getElem? (i := 588) (by decide +kernel), List.mem_of_getElem? (i := 732) (by decide +kernel), List.mem_of_getElem? (i := 733) (by decide +kernel)⟩
theorem lw_p34 : lw_okq (⟨"ZoneSamplerModel", "goLet", "(I)I"⟩, 17) := ⟨⟨by decide +kernel, by decide +kernel⟩, List.mem_of_getElem? (i := 588) (by decide +kernel), List.mem_of_getElem? (i := 740) (by decide +kernel), List.mem_of_getElem? (i := 741) (by decide +kernel)⟩
theorem lw_p35 : lw_okq (⟨"ZoneSamplerModel", "goPedal", "()I"⟩, 17) := ⟨⟨by decide +kernel, by decide +kernel⟩, List.mem_of_getElem? (i := 588) (by decide +kernel), List.mem_of_getElem? (i := 748) (by decide +kernel), List.mem_of_getElem? (i := 749) (by decide +kernel)⟩
theorem lw_p36 : lw_okq (⟨"ZoneSamplerModel", "goPass", "(I)I"⟩, 17) := ⟨⟨by decide +kernel, by decide +kernel⟩, List.mem_of_getElem? (i := 588) (by decide +kernel), List.mem_of_getElem? (i := 756) (by decide +kernel), List.mem_of_getElem? (i := 757) (by decide +kernel)⟩
theorem lw_p37 : lw_okq (⟨"ZoneSamplerModel", "tick", "()I"⟩, 17) := ⟨⟨by decide +kernel, by decide +kernel⟩, List.mem_of_getElem? (i := 588) (by decide +kernel), List.mem_of_getElem? (i := 760) (by decide +kernel), List.mem_of_getElem? (i := 761) (by decide +kernel)⟩
theorem lw_p38 : lw_okq (⟨"ZoneSamplerModel", "areZones", "()Z"⟩, 17) := ⟨⟨by decide +kernel, by decide +kernel⟩, List.mem_of_getElem? (i := 588) (by decide +kernel), List.mem_of_getElem? (i := 790) (by decide +kernel), List.mem_of_getElem? (i := 791) (by decide +kernel)⟩
theorem lw_p39 : lw_okq (⟨"ZoneSamplerModel", "takesZone", "()V"⟩, 17) := ⟨⟨by decide +kernel, by decide +kernel⟩, List.mem_of_getElem? (i := 588) (by decide +kernel), List.mem_of_getElem? (i := 794) (by decide +kernel), List.mem_of_getElem? (i := 795) (by decide +kernel)⟩
theorem lw_p40 : lw_okq (⟨"ZoneSamplerModel", "takesRange", "(III)V"⟩, 17) := ⟨⟨by decide +kernel, by decide +kernel⟩, List.mem_of_getElem? (i := 588) (by decide +kernel), List.mem_of_getElem? (i := 798) (by decide +kernel), List.mem_of_getElem? (i := 799) (by decide +kernel)⟩
theorem lw_p41 : lw_okq (⟨"ZoneSamplerModel", "takesNumber", "(II)I"⟩, 17) := ⟨⟨by decide +kernel, by decide +kernel⟩, List.mem_of_getElem? (i := 588) (by decide +kernel), List.mem_of_getElem? (i := 802) (by decide +kernel), List.mem_of_getElem? (i := 803) (by decide +kernel)⟩
theorem lw_p42 : lw_okq (⟨"ZoneSamplerModel", "here", "()I"⟩, 17) := ⟨⟨by decide +kernel, by decide +kernel⟩, List.mem_of_getElem? (i := 588) (by decide +kernel), List.mem_of_getElem? (i := 806) (by decide +kernel), List.mem_of_getElem? (i := 807) (by decide +kernel)⟩
theorem lw_p43 : lw_okq (⟨"ZoneSamplerModel", "takes", "(Z)V"⟩, 17) := ⟨⟨by decide +kernel, by decide +kernel⟩, List.mem_of_getElem? (i := 588) (by decide +kernel), List.mem_of_getElem? (i := 813) (by decide +kernel), List.mem_of_getElem? (i := 814) (by decide +kernel)⟩
theorem lw_p44 : lw_okq (⟨"ZoneSamplerModel", "takesMark", "(II)I"⟩, 17) := ⟨⟨by decide +kernel, by decide +kernel⟩, List.mem_of_getElem? (i := 588) (by decide +kernel), List.mem_of_getElem? (i := 817) (by decide +kernel), List.mem_of_getElem? (i := 818) (by decide +kernel)⟩
theorem lw_p45 : lw_okq (⟨"ZoneSamplerModel", "isScore", "()Z"⟩, 17) := ⟨⟨by decide +kernel, by decide +kernel⟩, List.mem_of_getElem? (i := 588) (by decide +kernel), List.mem_of_getElem? (i := 821) (by decide +kernel), List.mem_of_getElem? (i := 822) (by decide +kernel)⟩
theorem lw_p46 : lw_okq (⟨"ZoneSamplerModel", "takesDeed", "()V"⟩, 17) := ⟨⟨by decide +kernel, by decide +kernel⟩, List.mem_of_getElem? (i := 588) (by decide +kernel), List.mem_of_getElem? (i := 825) (by decide +kernel), List.mem_of_getElem? (i := 826) (by decide +kernel)⟩
theorem lw_p47 : lw_okq (⟨"ZoneSamplerModel", "doesDeed", "()V"⟩, 17) := ⟨⟨by decide +kernel, by decide +kernel⟩, List.mem_of_getElem? (i := 588) (by decide +kernel), List.mem_of_getElem? (i := 837) (by decide +kernel), List.mem_of_getElem? (i := 838) (by decide +kernel)⟩
def lw_privs_3 : List (MethodName × Nat) := [(⟨"ZoneSamplerModel", "steals", "()V"⟩, 17), (⟨"ZoneSamplerModel", "soon", "(I)I"⟩, 17), (⟨"ZoneSamplerModel", "goLet", "(I)I"⟩, 17), (⟨"ZoneSamplerModel", "goPedal", "()I"⟩, 17), (⟨"ZoneSamplerModel", "goPass", "(I)I"⟩, 17), (⟨"ZoneSamplerModel", "tick", "()I"⟩, 17), (⟨"ZoneSamplerModel", "areZones", "()Z"⟩, 17), (⟨"ZoneSamplerModel", "takesZone", "()V"⟩, 17), (⟨"ZoneSamplerModel", "takesRange", "(III)V"⟩, 17), (⟨"ZoneSamplerModel", "takesNumber", "(II)I"⟩, 17), (⟨"ZoneSamplerModel", "here", "()I"⟩, 17), (⟨"ZoneSamplerModel", "takes", "(Z)V"⟩, 17), (⟨"ZoneSamplerModel", "takesMark", "(II)I"⟩, 17), (⟨"ZoneSamplerModel", "isScore", "()Z"⟩, 17), (⟨"ZoneSamplerModel", "takesDeed", "()V"⟩, 17), (⟨"ZoneSamplerModel", "doesDeed", "()V"⟩, 17)]
theorem lw_r3 : ∀ q ∈ lw_privs_3, lw_okq q := List.forall_mem_cons.mpr ⟨lw_p32, List.forall_mem_cons.mpr ⟨lw_p33, List.forall_mem_cons.mpr ⟨lw_p34, List.forall_mem_cons.mpr ⟨lw_p35, List.forall_mem_cons.mpr ⟨lw_p36, List.forall_mem_cons.mpr ⟨lw_p37, List.forall_mem_cons.mpr ⟨lw_p38, List.forall_mem_cons.mpr ⟨lw_p39, List.forall_mem_cons.mpr ⟨lw_p40, List.forall_mem_cons.mpr ⟨lw_p41, List.forall_mem_cons.mpr ⟨lw_p42, List.forall_mem_cons.mpr ⟨lw_p43, List.forall_mem_cons.mpr ⟨lw_p44, List.forall_mem_cons.mpr ⟨lw_p45, List.forall_mem_cons.mpr ⟨lw_p46, List.forall_mem_cons.mpr ⟨lw_p47, fun _ h => absurd h List.not_mem_nil⟩⟩⟩⟩⟩⟩⟩⟩⟩⟩⟩⟩⟩⟩⟩⟩
theorem lw_p48 : lw_okq (⟨"ZoneSamplerModel", "voicesOf", "(I)I"⟩, 17) := ⟨⟨by decide +kernel, by decide +kernel⟩, List.mem_of_getElem? (i := 588) (by decide +kernel), List.mem_of_getElem? (i := 845) (by decide +kernel), List.mem_of_getElem? (i := 846) (by decide +kernel)⟩
theorem lw_p49 : lw_okq (⟨"ZoneSamplerModel", "canSound", "(I)Z"⟩, 17) := ⟨⟨by decide +kernel, by decide +kernel⟩, List.mem_of_getElem? (i := 588) (by decide +kernel), List.mem_of_getElem? (i := 849) (by decide +kernel), List.mem_of_getElem? (i := 850) (by decide +kernel)⟩
theorem lw_p50 : lw_okq (⟨"ZoneSamplerModel", "rankOf", "(I)I"⟩, 17) := ⟨⟨by decide +kernel, by decide +kernel⟩, List.mem_of_getElem? (i := 588) (by decide +kernel), List.mem_of_getElem? (i := 857) (by decide +kernel), List.mem_of_getElem? (i := 858) (by decide +kernel)⟩
theorem lw_p51 : lw_okq (⟨"ZoneSamplerModel", "answering", "(II)I"⟩, 17) := ⟨⟨by decide +kernel, by decide +kernel⟩, List.mem_of_getElem? (i := 588) (by decide +kernel), List.mem_of_getElem? (i := 865) (by decide +kernel), List.mem_of_getElem? (i := 866) (by decide +kernel)⟩
theorem lw_p52 : lw_okq (⟨"ZoneSamplerModel", "inState", "(I)I"⟩, 17) := ⟨⟨by decide +kernel, by decide +kernel⟩, List.mem_of_getElem? (i := 588) (by decide +kernel), List.mem_of_getElem? (i := 877) (by decide +kernel), List.mem_of_getElem? (i := 878) (by decide +kernel)⟩
theorem lw_p53 : lw_okq (⟨"ZoneSamplerModel", "allLoud", "()I"⟩, 17) := ⟨⟨by decide +kernel, by decide +kernel⟩, List.mem_of_getElem? (i := 588) (by decide +kernel), List.mem_of_getElem? (i := 881) (by decide +kernel), List.mem_of_getElem? (i := 882) (by decide +kernel)⟩
def lw_privs_4 : List (MethodName × Nat) := [(⟨"ZoneSamplerModel", "voicesOf", "(I)I"⟩, 17), (⟨"ZoneSamplerModel", "canSound", "(I)Z"⟩, 17), (⟨"ZoneSamplerModel", "rankOf", "(I)I"⟩, 17), (⟨"ZoneSamplerModel", "answering", "(II)I"⟩, 17), (⟨"ZoneSamplerModel", "inState", "(I)I"⟩, 17), (⟨"ZoneSamplerModel", "allLoud", "()I"⟩, 17)]
theorem lw_r4 : ∀ q ∈ lw_privs_4, lw_okq q := List.forall_mem_cons.mpr ⟨lw_p48, List.forall_mem_cons.mpr ⟨lw_p49, List.forall_mem_cons.mpr ⟨lw_p50, List.forall_mem_cons.mpr ⟨lw_p51, List.forall_mem_cons.mpr ⟨lw_p52, List.forall_mem_cons.mpr ⟨lw_p53, fun _ h => absurd h List.not_mem_nil⟩⟩⟩⟩⟩⟩
def lw_privs : List (MethodName × Nat) := lw_privs_1 ++ (lw_privs_2 ++ (lw_privs_3 ++ (lw_privs_4)))
def lw_tbl : List Cond := k2_sels lw_privs ++ tables_1
theorem lw_privs_ok : ∀ q ∈ lw_privs, lw_okq q := by
  show ∀ q ∈ lw_privs_1 ++ (lw_privs_2 ++ (lw_privs_3 ++ (lw_privs_4))), lw_okq q
  exact List.forall_mem_append.mpr ⟨lw_r1, List.forall_mem_append.mpr ⟨lw_r2, List.forall_mem_append.mpr ⟨lw_r3, lw_r4⟩⟩⟩
/-- the streams that the claim lets the run draw from -/
abbrev lw_cs : List Choice := [Jvm.Choice.named "NaN.bits"]
theorem lw_bits : nanBits ∈ lw_cs := by first | decide | exact List.mem_cons_self | simp [lw_cs, nanBits]
end
section
-- ===== words of one list among another's, by their places ===== 
theorem goodIn_r {big : List Cond} (ws : List Cond) (ps : List Nat) (hp : ws = ps.filterMap (fun i => big[i]?)) (h : ws.all goodWord = true) : GoodIn big ws := by
  intro w hw
  have h1 := List.all_eq_true.mp h w hw
  rw [hp] at hw
  obtain ⟨i, -, hi⟩ := List.mem_filterMap.mp hw
  have hm : w ∈ big := by first | exact List.mem_of_getElem? hi | exact List.getElem?_mem hi
  exact ⟨hm, good_of_word h1⟩
theorem goodIn_app {big a b : List Cond} (ha : GoodIn big a) (hb : GoodIn big b) : GoodIn big (a ++ b) := fun w h => (List.mem_append.mp h).elim (ha w) (hb w)
theorem goodIn_ca {big a b : List Cond} {c : Cond} (ha : GoodIn big (c :: a)) (hb : GoodIn big b) : GoodIn big (c :: (a ++ b)) := fun w h => (List.mem_cons.mp h).elim (fun e => ha w (List.mem_cons.mpr (Or.inl e))) (fun h => (List.mem_append.mp h).elim (fun h => ha w (List.mem_cons.mpr (Or.inr h))) (hb w))
theorem goodIn_sub {big ws : List Cond} (hm : ∀ w ∈ ws, w ∈ big) (h : ws.all goodWord = true) : GoodIn big ws := fun w hw => ⟨hm w hw, good_of_word (List.all_eq_true.mp h w hw)⟩
-- end ===== ===== 
-- ===== printed: names, fields, word lists, decode rows ===== 
def RX0 : String := "ZoneSampler$History"
def TX0 : u_T := fun k => match k with
  | 0 => ("ZoneSampler$History", "first", "LZoneSampler$State;", false)
  | 1 => ("ZoneSampler$History", "second", "LZoneSampler$State;", false)
  | 2 => ("ZoneSampler$History", "third", "LZoneSampler$State;", false)
  | 3 => ("ZoneSampler$History", "fourth", "LZoneSampler$State;", false)
  | _ => ("ZoneSampler$History", "kept", "I", false)
def tyX0 : Nat → FieldType := fun k => match k with
  | 0 => .object "ZoneSampler$State"
  | 1 => .object "ZoneSampler$State"
  | 2 => .object "ZoneSampler$State"
  | 3 => .object "ZoneSampler$State"
  | _ => .int
abbrev wsX00 : List Cond := u_ws RX0 TX0 5
theorem nmX0 : ∀ a, a < 5 → ∀ b, b < 5 → a ≠ b → (TX0 a).2.1 ≠ (TX0 b).2.1 := by decide +kernel
theorem tyX0_ok : ∀ k, k < 5 → parseFieldDescriptor (TX0 k).2.2.1 = some (tyX0 k) := by decide +kernel
abbrev cX0_init : ByteArray := prog_2_method_1_code
def yX0_init : MethodName := ⟨RX0, "<init>", "()V"⟩
abbrev cX0_size : ByteArray := prog_2_method_2_code
def yX0_size : MethodName := ⟨RX0, "size", "()I"⟩
abbrev cX0_record : ByteArray := prog_2_method_3_code
def yX0_record : MethodName := ⟨RX0, "record", "(LZoneSampler$State;)V"⟩
abbrev cX0_goBack : ByteArray := prog_2_method_4_code
def yX0_goBack : MethodName := ⟨RX0, "goBack", "(LZoneSampler$State;)V"⟩
abbrev cX0_stateAt : ByteArray := prog_2_method_5_code
def yX0_stateAt : MethodName := ⟨RX0, "stateAt", "(I)LZoneSampler$State;"⟩
def RX1 : String := "ZoneSampler$Pad"
def TX1 : u_T := fun k => match k with
  | 0 => ("ZoneSampler$Pad", "signs", "[C", true)
  | 1 => ("ZoneSampler$Pad", "length", "I", false)
  | 2 => ("ZoneSampler$Pad", "at", "I", false)
  | 3 => ("ZoneSampler$Pad", "value", "I", false)
  | 4 => ("ZoneSampler$Pad", "low", "I", false)
  | 5 => ("ZoneSampler$Pad", "high", "I", false)
  | 6 => ("ZoneSampler$Pad", "softest", "I", false)
  | 7 => ("ZoneSampler$Pad", "hardest", "I", false)
  | 8 => ("ZoneSampler$Pad", "lasting", "I", false)
  | 9 => ("ZoneSampler$Pad", "group", "I", false)
  | 10 => ("ZoneSampler$Pad", "robin", "I", false)
  | 11 => ("ZoneSampler$Pad", "deed", "I", false)
  | 12 => ("ZoneSampler$Pad", "deedKey", "I", false)
  | _ => ("ZoneSampler$Pad", "amount", "I", false)
def tyX1 : Nat → FieldType := fun k => match k with
  | 0 => .array .char
  | 1 => .int
  | 2 => .int
  | 3 => .int
  | 4 => .int
  | 5 => .int
  | 6 => .int
  | 7 => .int
  | 8 => .int
  | 9 => .int
  | 10 => .int
  | 11 => .int
  | 12 => .int
  | _ => .int
abbrev wsX10 : List Cond := u_ws RX1 TX1 14
theorem nmX1 : ∀ a, a < 14 → ∀ b, b < 14 → a ≠ b → (TX1 a).2.1 ≠ (TX1 b).2.1 := by decide +kernel
theorem tyX1_ok : ∀ k, k < 14 → parseFieldDescriptor (TX1 k).2.2.1 = some (tyX1 k) := by decide +kernel
abbrev cX1_init : ByteArray := prog_3_method_1_code
def yX1_init : MethodName := ⟨RX1, "<init>", "()V"⟩
abbrev cX1_length : ByteArray := prog_3_method_2_code
def yX1_length : MethodName := ⟨RX1, "length", "()I"⟩
abbrev cX1_add : ByteArray := prog_3_method_3_code
def yX1_add : MethodName := ⟨RX1, "add", "(C)V"⟩
abbrev cX1_empty : ByteArray := prog_3_method_4_code
def yX1_empty : MethodName := ⟨RX1, "empty", "()V"⟩
abbrev cX1_rewind : ByteArray := prog_3_method_5_code
def yX1_rewind : MethodName := ⟨RX1, "rewind", "()V"⟩
abbrev cX1_items : ByteArray := prog_3_method_6_code
def yX1_items : MethodName := ⟨RX1, "items", "()I"⟩
abbrev cX1_faultAs : ByteArray := prog_3_method_7_code
def yX1_faultAs : MethodName := ⟨RX1, "faultAs", "(I)I"⟩
abbrev cX1_readSign : ByteArray := prog_3_method_8_code
def yX1_readSign : MethodName := ⟨RX1, "readSign", "(I)Z"⟩
abbrev cX1_readZone : ByteArray := prog_3_method_9_code
def yX1_readZone : MethodName := ⟨RX1, "readZone", "()Z"⟩
abbrev cX1_readMark : ByteArray := prog_3_method_10_code
def yX1_readMark : MethodName := ⟨RX1, "readMark", "(II)Z"⟩
abbrev cX1_readDeed : ByteArray := prog_3_method_11_code
def yX1_readDeed : MethodName := ⟨RX1, "readDeed", "()Z"⟩
abbrev cX1_readDeedKey : ByteArray := prog_3_method_12_code
def yX1_readDeedKey : MethodName := ⟨RX1, "readDeedKey", "()Z"⟩
abbrev cX1_readAmount : ByteArray := prog_3_method_13_code
def yX1_readAmount : MethodName := ⟨RX1, "readAmount", "(I)Z"⟩
abbrev cX1_readNumber : ByteArray := prog_3_method_14_code
def yX1_readNumber : MethodName := ⟨RX1, "readNumber", "(II)Z"⟩
abbrev cX1_canBegin : ByteArray := prog_3_method_15_code
def yX1_canBegin : MethodName := ⟨RX1, "canBegin", "(III)Z"⟩
abbrev cX1_sign : ByteArray := prog_3_method_16_code
def yX1_sign : MethodName := ⟨RX1, "sign", "()I"⟩
def RX2 : String := "ZoneSampler$State"
def TX2 : u_T := fun k => match k with
  | 0 => ("ZoneSampler$State", "zones", "LZoneSampler$Table;", true)
  | 1 => ("ZoneSampler$State", "voices", "LZoneSampler$Table;", true)
  | 2 => ("ZoneSampler$State", "numbers", "[I", true)
  | 3 => ("ZoneSampler$State", "pedalDown", "Z", false)
  | _ => ("ZoneSampler$State", "notes", "I", false)
def tyX2 : Nat → FieldType := fun k => match k with
  | 0 => .object "ZoneSampler$Table"
  | 1 => .object "ZoneSampler$Table"
  | 2 => .array .int
  | 3 => .boolean
  | _ => .int
abbrev wsX20 : List Cond := u_ws RX2 TX2 5
theorem nmX2 : ∀ a, a < 5 → ∀ b, b < 5 → a ≠ b → (TX2 a).2.1 ≠ (TX2 b).2.1 := by decide +kernel
theorem tyX2_ok : ∀ k, k < 5 → parseFieldDescriptor (TX2 k).2.2.1 = some (tyX2 k) := by decide +kernel
abbrev cX2_init : ByteArray := prog_4_method_1_code
def yX2_init : MethodName := ⟨RX2, "<init>", "()V"⟩
abbrev cX2_copyFrom : ByteArray := prog_4_method_2_code
def yX2_copyFrom : MethodName := ⟨RX2, "copyFrom", "(LZoneSampler$State;)V"⟩
abbrev cX2_number : ByteArray := prog_4_method_3_code
def yX2_number : MethodName := ⟨RX2, "number", "(I)I"⟩
abbrev cX2_putNumber : ByteArray := prog_4_method_4_code
def yX2_putNumber : MethodName := ⟨RX2, "putNumber", "(II)V"⟩
abbrev cX2_grow : ByteArray := prog_4_method_5_code
def yX2_grow : MethodName := ⟨RX2, "grow", "(II)V"⟩
abbrev cX2_addZone : ByteArray := prog_4_method_6_code
def yX2_addZone : MethodName := ⟨RX2, "addZone", "(IIII)I"⟩
abbrev cX2_shapeZone : ByteArray := prog_4_method_7_code
def yX2_shapeZone : MethodName := ⟨RX2, "shapeZone", "(IIII)V"⟩
abbrev cX2_dropZone : ByteArray := prog_4_method_8_code
def yX2_dropZone : MethodName := ⟨RX2, "dropZone", "(I)I"⟩
abbrev cX2_matches : ByteArray := prog_4_method_9_code
def yX2_matches : MethodName := ⟨RX2, "matches", "(III)Z"⟩
abbrev cX2_matching : ByteArray := prog_4_method_10_code
def yX2_matching : MethodName := ⟨RX2, "matching", "(II)I"⟩
abbrev cX2_sounds : ByteArray := prog_4_method_11_code
def yX2_sounds : MethodName := ⟨RX2, "sounds", "(III)Z"⟩
abbrev cX2_sounding : ByteArray := prog_4_method_12_code
def yX2_sounding : MethodName := ⟨RX2, "sounding", "(II)I"⟩
abbrev cX2_firstSounding : ByteArray := prog_4_method_13_code
def yX2_firstSounding : MethodName := ⟨RX2, "firstSounding", "(II)I"⟩
abbrev cX2_canSound : ByteArray := prog_4_method_14_code
def yX2_canSound : MethodName := ⟨RX2, "canSound", "(I)Z"⟩
abbrev cX2_strike : ByteArray := prog_4_method_15_code
def yX2_strike : MethodName := ⟨RX2, "strike", "(II)I"⟩
abbrev cX2_passTurns : ByteArray := prog_4_method_16_code
def yX2_passTurns : MethodName := ⟨RX2, "passTurns", "(II)V"⟩
abbrev cX2_begin : ByteArray := prog_4_method_17_code
def yX2_begin : MethodName := ⟨RX2, "begin", "(III)V"⟩
abbrev cX2_choke : ByteArray := prog_4_method_18_code
def yX2_choke : MethodName := ⟨RX2, "choke", "(I)V"⟩
abbrev cX2_stealDownTo : ByteArray := prog_4_method_19_code
def yX2_stealDownTo : MethodName := ⟨RX2, "stealDownTo", "(I)V"⟩
abbrev cX2_stealPlace : ByteArray := prog_4_method_20_code
def yX2_stealPlace : MethodName := ⟨RX2, "stealPlace", "(I)I"⟩
abbrev cX2_stealRank : ByteArray := prog_4_method_21_code
def yX2_stealRank : MethodName := ⟨RX2, "stealRank", "(I)I"⟩
abbrev cX2_release : ByteArray := prog_4_method_22_code
def yX2_release : MethodName := ⟨RX2, "release", "(I)I"⟩
abbrev cX2_moveHeld : ByteArray := prog_4_method_23_code
def yX2_moveHeld : MethodName := ⟨RX2, "moveHeld", "(II)I"⟩
abbrev cX2_tread : ByteArray := prog_4_method_24_code
def yX2_tread : MethodName := ⟨RX2, "tread", "()I"⟩
abbrev cX2_runTicks : ByteArray := prog_4_method_25_code
def yX2_runTicks : MethodName := ⟨RX2, "runTicks", "(I)I"⟩
abbrev cX2_wear : ByteArray := prog_4_method_26_code
def yX2_wear : MethodName := ⟨RX2, "wear", "(I)V"⟩
abbrev cX2_fadeOf : ByteArray := prog_4_method_27_code
def yX2_fadeOf : MethodName := ⟨RX2, "fadeOf", "(I)I"⟩
abbrev cX2_ticksLeft : ByteArray := prog_4_method_28_code
def yX2_ticksLeft : MethodName := ⟨RX2, "ticksLeft", "(I)I"⟩
abbrev cX2_stopAll : ByteArray := prog_4_method_29_code
def yX2_stopAll : MethodName := ⟨RX2, "stopAll", "()I"⟩
def RX3 : String := "ZoneSampler$Survey"
def TX3 : u_T := fun k => match k with
  | 0 => ("ZoneSampler$Survey", "depths", "[I", true)
  | 1 => ("ZoneSampler$Survey", "holes", "I", false)
  | 2 => ("ZoneSampler$Survey", "overlaps", "I", false)
  | 3 => ("ZoneSampler$Survey", "deepest", "I", false)
  | _ => ("ZoneSampler$Survey", "firstHole", "I", false)
def tyX3 : Nat → FieldType := fun k => match k with
  | 0 => .array .int
  | 1 => .int
  | 2 => .int
  | 3 => .int
  | _ => .int
abbrev wsX30 : List Cond := u_ws RX3 TX3 5
theorem nmX3 : ∀ a, a < 5 → ∀ b, b < 5 → a ≠ b → (TX3 a).2.1 ≠ (TX3 b).2.1 := by decide +kernel
theorem tyX3_ok : ∀ k, k < 5 → parseFieldDescriptor (TX3 k).2.2.1 = some (tyX3 k) := by decide +kernel
abbrev cX3_init : ByteArray := prog_5_method_1_code
def yX3_init : MethodName := ⟨RX3, "<init>", "()V"⟩
abbrev cX3_finding : ByteArray := prog_5_method_2_code
def yX3_finding : MethodName := ⟨RX3, "finding", "(I)I"⟩
abbrev cX3_goByPlaces : ByteArray := prog_5_method_3_code
def yX3_goByPlaces : MethodName := ⟨RX3, "goByPlaces", "(LZoneSampler$State;)V"⟩
abbrev cX3_goByEdges : ByteArray := prog_5_method_4_code
def yX3_goByEdges : MethodName := ⟨RX3, "goByEdges", "(LZoneSampler$State;)V"⟩
abbrev cX3_deepen : ByteArray := prog_5_method_5_code
def yX3_deepen : MethodName := ⟨RX3, "deepen", "(LZoneSampler$Table;II)V"⟩
abbrev cX3_start : ByteArray := prog_5_method_6_code
def yX3_start : MethodName := ⟨RX3, "start", "()V"⟩
abbrev cX3_see : ByteArray := prog_5_method_7_code
def yX3_see : MethodName := ⟨RX3, "see", "(II)V"⟩
def RX4 : String := "ZoneSampler$Table"
def TX4 : u_T := fun k => match k with
  | 0 => ("ZoneSampler$Table", "width", "I", true)
  | 1 => ("ZoneSampler$Table", "cells", "[I", true)
  | _ => ("ZoneSampler$Table", "rows", "I", false)
def tyX4 : Nat → FieldType := fun k => match k with
  | 0 => .int
  | 1 => .array .int
  | _ => .int
abbrev wsX40 : List Cond := u_ws RX4 TX4 3
theorem nmX4 : ∀ a, a < 3 → ∀ b, b < 3 → a ≠ b → (TX4 a).2.1 ≠ (TX4 b).2.1 := by decide +kernel
theorem tyX4_ok : ∀ k, k < 3 → parseFieldDescriptor (TX4 k).2.2.1 = some (tyX4 k) := by decide +kernel
abbrev cX4_init : ByteArray := prog_6_method_1_code
def yX4_init : MethodName := ⟨RX4, "<init>", "(II)V"⟩
abbrev cX4_rows : ByteArray := prog_6_method_2_code
def yX4_rows : MethodName := ⟨RX4, "rows", "()I"⟩
abbrev cX4_has : ByteArray := prog_6_method_3_code
def yX4_has : MethodName := ⟨RX4, "has", "(I)Z"⟩
abbrev cX4_get : ByteArray := prog_6_method_4_code
def yX4_get : MethodName := ⟨RX4, "get", "(II)I"⟩
abbrev cX4_put : ByteArray := prog_6_method_5_code
def yX4_put : MethodName := ⟨RX4, "put", "(III)V"⟩
abbrev cX4_addRow : ByteArray := prog_6_method_6_code
def yX4_addRow : MethodName := ⟨RX4, "addRow", "()I"⟩
abbrev cX4_removeRow : ByteArray := prog_6_method_7_code
def yX4_removeRow : MethodName := ⟨RX4, "removeRow", "(I)V"⟩
abbrev cX4_rowsWith : ByteArray := prog_6_method_8_code
def yX4_rowsWith : MethodName := ⟨RX4, "rowsWith", "(II)I"⟩
abbrev cX4_sumOf : ByteArray := prog_6_method_9_code
def yX4_sumOf : MethodName := ⟨RX4, "sumOf", "(I)I"⟩
abbrev cX4_removeAll : ByteArray := prog_6_method_10_code
def yX4_removeAll : MethodName := ⟨RX4, "removeAll", "()V"⟩
abbrev cX4_copyFrom : ByteArray := prog_6_method_11_code
def yX4_copyFrom : MethodName := ⟨RX4, "copyFrom", "(LZoneSampler$Table;)V"⟩
def RX5 : String := "ZoneSampler"
def TX5 : u_T := fun k => match k with
  | 0 => ("ZoneSampler", "now", "LZoneSampler$State;", true)
  | 1 => ("ZoneSampler", "trial", "LZoneSampler$State;", true)
  | 2 => ("ZoneSampler", "snapshot", "LZoneSampler$State;", true)
  | 3 => ("ZoneSampler", "history", "LZoneSampler$History;", true)
  | 4 => ("ZoneSampler", "pad", "LZoneSampler$Pad;", true)
  | 5 => ("ZoneSampler", "survey", "LZoneSampler$Survey;", true)
  | _ => ("ZoneSampler", "hasSnapshot", "Z", false)
def tyX5 : Nat → FieldType := fun k => match k with
  | 0 => .object "ZoneSampler$State"
  | 1 => .object "ZoneSampler$State"
  | 2 => .object "ZoneSampler$State"
  | 3 => .object "ZoneSampler$History"
  | 4 => .object "ZoneSampler$Pad"
  | 5 => .object "ZoneSampler$Survey"
  | _ => .boolean
abbrev wsX50 : List Cond := u_ws RX5 TX5 7
theorem nmX5 : ∀ a, a < 7 → ∀ b, b < 7 → a ≠ b → (TX5 a).2.1 ≠ (TX5 b).2.1 := by decide +kernel
theorem tyX5_ok : ∀ k, k < 7 → parseFieldDescriptor (TX5 k).2.2.1 = some (tyX5 k) := by decide +kernel
abbrev cX5_init : ByteArray := prog_1_method_1_code
def yX5_init : MethodName := ⟨RX5, "<init>", "()V"⟩
abbrev cX5_zone : ByteArray := prog_1_method_2_code
def yX5_zone : MethodName := ⟨RX5, "zone", "(IIII)I"⟩
abbrev cX5_like : ByteArray := prog_1_method_3_code
def yX5_like : MethodName := ⟨RX5, "like", "(IIII)I"⟩
abbrev cX5_takeZone : ByteArray := prog_1_method_4_code
def yX5_takeZone : MethodName := ⟨RX5, "takeZone", "(I)I"⟩
abbrev cX5_hit : ByteArray := prog_1_method_5_code
def yX5_hit : MethodName := ⟨RX5, "hit", "(II)I"⟩
abbrev cX5_letGo : ByteArray := prog_1_method_6_code
def yX5_letGo : MethodName := ⟨RX5, "letGo", "(I)I"⟩
abbrev cX5_pedal : ByteArray := prog_1_method_7_code
def yX5_pedal : MethodName := ⟨RX5, "pedal", "()I"⟩
abbrev cX5_pass : ByteArray := prog_1_method_8_code
def yX5_pass : MethodName := ⟨RX5, "pass", "(I)I"⟩
abbrev cX5_silence : ByteArray := prog_1_method_9_code
def yX5_silence : MethodName := ⟨RX5, "silence", "()I"⟩
abbrev cX5_set : ByteArray := prog_1_method_10_code
def yX5_set : MethodName := ⟨RX5, "set", "(II)I"⟩
abbrev cX5_append : ByteArray := prog_1_method_11_code
def yX5_append : MethodName := ⟨RX5, "append", "(I)I"⟩
abbrev cX5_clear : ByteArray := prog_1_method_12_code
def yX5_clear : MethodName := ⟨RX5, "clear", "()I"⟩
abbrev cX5_fault : ByteArray := prog_1_method_13_code
def yX5_fault : MethodName := ⟨RX5, "fault", "(I)I"⟩
abbrev cX5_load : ByteArray := prog_1_method_14_code
def yX5_load : MethodName := ⟨RX5, "load", "()I"⟩
abbrev cX5_play : ByteArray := prog_1_method_15_code
def yX5_play : MethodName := ⟨RX5, "play", "()I"⟩
abbrev cX5_zoneOf : ByteArray := prog_1_method_16_code
def yX5_zoneOf : MethodName := ⟨RX5, "zoneOf", "(II)I"⟩
abbrev cX5_voice : ByteArray := prog_1_method_17_code
def yX5_voice : MethodName := ⟨RX5, "voice", "(II)I"⟩
abbrev cX5_answers : ByteArray := prog_1_method_18_code
def yX5_answers : MethodName := ⟨RX5, "answers", "(II)I"⟩
abbrev cX5_map : ByteArray := prog_1_method_19_code
def yX5_map : MethodName := ⟨RX5, "map", "(II)I"⟩
abbrev cX5_count : ByteArray := prog_1_method_20_code
def yX5_count : MethodName := ⟨RX5, "count", "(I)I"⟩
abbrev cX5_loudness : ByteArray := prog_1_method_21_code
def yX5_loudness : MethodName := ⟨RX5, "loudness", "()D"⟩
abbrev cX5_ifHit : ByteArray := prog_1_method_22_code
def yX5_ifHit : MethodName := ⟨RX5, "ifHit", "(III)I"⟩
abbrev cX5_silentIn : ByteArray := prog_1_method_23_code
def yX5_silentIn : MethodName := ⟨RX5, "silentIn", "()I"⟩
abbrev cX5_chord : ByteArray := prog_1_method_24_code
def yX5_chord : MethodName := ⟨RX5, "chord", "(III)I"⟩
abbrev cX5_undo : ByteArray := prog_1_method_25_code
def yX5_undo : MethodName := ⟨RX5, "undo", "()I"⟩
abbrev cX5_save : ByteArray := prog_1_method_26_code
def yX5_save : MethodName := ⟨RX5, "save", "()I"⟩
abbrev cX5_restore : ByteArray := prog_1_method_27_code
def yX5_restore : MethodName := ⟨RX5, "restore", "()I"⟩
abbrev cX5_doDeed : ByteArray := prog_1_method_28_code
def yX5_doDeed : MethodName := ⟨RX5, "doDeed", "()V"⟩
abbrev cX5_within : ByteArray := prog_1_method_29_code
def yX5_within : MethodName := ⟨RX5, "within", "(III)Z"⟩
abbrev cX5_isNote : ByteArray := prog_1_method_30_code
def yX5_isNote : MethodName := ⟨RX5, "isNote", "(II)Z"⟩
abbrev cX5_isSetting : ByteArray := prog_1_method_31_code
def yX5_isSetting : MethodName := ⟨RX5, "isSetting", "(II)Z"⟩
def RX6 : String := "ZoneSamplerModel"
def TX6 : u_T := fun k => match k with
  | 0 => ("ZoneSamplerModel", "s", "[I", true)
  | 1 => ("ZoneSamplerModel", "aside", "[I", true)
  | 2 => ("ZoneSamplerModel", "past", "[I", true)
  | 3 => ("ZoneSamplerModel", "known", "I", false)
  | 4 => ("ZoneSamplerModel", "kept", "[I", true)
  | 5 => ("ZoneSamplerModel", "isKept", "Z", false)
  | 6 => ("ZoneSamplerModel", "pad", "[I", true)
  | 7 => ("ZoneSamplerModel", "length", "I", false)
  | 8 => ("ZoneSamplerModel", "sounds", "[Z", true)
  | 9 => ("ZoneSamplerModel", "firstZone", "I", false)
  | 10 => ("ZoneSamplerModel", "spot", "I", false)
  | 11 => ("ZoneSamplerModel", "isForm", "Z", false)
  | 12 => ("ZoneSamplerModel", "read", "[I", true)
  | 13 => ("ZoneSamplerModel", "reads", "I", false)
  | 14 => ("ZoneSamplerModel", "letter", "I", false)
  | 15 => ("ZoneSamplerModel", "first", "I", false)
  | _ => ("ZoneSamplerModel", "second", "I", false)
def tyX6 : Nat → FieldType := fun k => match k with
  | 0 => .array .int
  | 1 => .array .int
  | 2 => .array .int
  | 3 => .int
  | 4 => .array .int
  | 5 => .boolean
  | 6 => .array .int
  | 7 => .int
  | 8 => .array .boolean
  | 9 => .int
  | 10 => .int
  | 11 => .boolean
  | 12 => .array .int
  | 13 => .int
  | 14 => .int
  | 15 => .int
  | _ => .int
abbrev wsX60 : List Cond := u_ws RX6 TX6 17
theorem nmX6 : ∀ a, a < 17 → ∀ b, b < 17 → a ≠ b → (TX6 a).2.1 ≠ (TX6 b).2.1 := by decide +kernel
theorem tyX6_ok : ∀ k, k < 17 → parseFieldDescriptor (TX6 k).2.2.1 = some (tyX6 k) := by decide +kernel
abbrev cX6_init : ByteArray := prog_8_method_1_code
def yX6_init : MethodName := ⟨RX6, "<init>", "()V"⟩
abbrev cX6_in : ByteArray := prog_8_method_3_code
def yX6_in : MethodName := ⟨RX6, "in", "(III)Z"⟩
abbrev cX6_copies : ByteArray := prog_8_method_4_code
def yX6_copies : MethodName := ⟨RX6, "copies", "([II[II)V"⟩
abbrev cX6_records : ByteArray := prog_8_method_5_code
def yX6_records : MethodName := ⟨RX6, "records", "()V"⟩
abbrev cX6_isZone : ByteArray := prog_8_method_6_code
def yX6_isZone : MethodName := ⟨RX6, "isZone", "(I)Z"⟩
abbrev cX6_ofZone : ByteArray := prog_8_method_7_code
def yX6_ofZone : MethodName := ⟨RX6, "ofZone", "(II)I"⟩
abbrev cX6_laysZone : ByteArray := prog_8_method_8_code
def yX6_laysZone : MethodName := ⟨RX6, "laysZone", "(III)V"⟩
abbrev cX6_of : ByteArray := prog_8_method_9_code
def yX6_of : MethodName := ⟨RX6, "of", "(II)I"⟩
abbrev cX6_lays : ByteArray := prog_8_method_10_code
def yX6_lays : MethodName := ⟨RX6, "lays", "(III)V"⟩
abbrev cX6_isAnswer : ByteArray := prog_8_method_11_code
def yX6_isAnswer : MethodName := ⟨RX6, "isAnswer", "(III)Z"⟩
abbrev cX6_answering : ByteArray := prog_8_method_12_code
def yX6_answering : MethodName := ⟨RX6, "answering", "(II)I"⟩
abbrev cX6_ofRobin : ByteArray := prog_8_method_13_code
def yX6_ofRobin : MethodName := ⟨RX6, "ofRobin", "(IIII)I"⟩
abbrev cX6_isSounding : ByteArray := prog_8_method_14_code
def yX6_isSounding : MethodName := ⟨RX6, "isSounding", "(III)Z"⟩
abbrev cX6_dropsVoice : ByteArray := prog_8_method_15_code
def yX6_dropsVoice : MethodName := ⟨RX6, "dropsVoice", "(I)V"⟩
abbrev cX6_soon : ByteArray := prog_8_method_16_code
def yX6_soon : MethodName := ⟨RX6, "soon", "(I)I"⟩
abbrev cX6_steals : ByteArray := prog_8_method_17_code
def yX6_steals : MethodName := ⟨RX6, "steals", "()V"⟩
abbrev cX6_chokes : ByteArray := prog_8_method_18_code
def yX6_chokes : MethodName := ⟨RX6, "chokes", "(I)V"⟩
abbrev cX6_begins : ByteArray := prog_8_method_19_code
def yX6_begins : MethodName := ⟨RX6, "begins", "(III)V"⟩
abbrev cX6_goHit : ByteArray := prog_8_method_20_code
def yX6_goHit : MethodName := ⟨RX6, "goHit", "(II)I"⟩
abbrev cX6_goLet : ByteArray := prog_8_method_21_code
def yX6_goLet : MethodName := ⟨RX6, "goLet", "(I)I"⟩
abbrev cX6_goPedal : ByteArray := prog_8_method_22_code
def yX6_goPedal : MethodName := ⟨RX6, "goPedal", "()I"⟩
abbrev cX6_tick : ByteArray := prog_8_method_23_code
def yX6_tick : MethodName := ⟨RX6, "tick", "()I"⟩
abbrev cX6_goPass : ByteArray := prog_8_method_24_code
def yX6_goPass : MethodName := ⟨RX6, "goPass", "(I)I"⟩
abbrev cX6_addsZone : ByteArray := prog_8_method_25_code
def yX6_addsZone : MethodName := ⟨RX6, "addsZone", "(IIII)V"⟩
abbrev cX6_zone : ByteArray := prog_8_method_26_code
def yX6_zone : MethodName := ⟨RX6, "zone", "(IIII)I"⟩
abbrev cX6_like : ByteArray := prog_8_method_27_code
def yX6_like : MethodName := ⟨RX6, "like", "(IIII)I"⟩
abbrev cX6_takeZone : ByteArray := prog_8_method_28_code
def yX6_takeZone : MethodName := ⟨RX6, "takeZone", "(I)I"⟩
abbrev cX6_isNote : ByteArray := prog_8_method_29_code
def yX6_isNote : MethodName := ⟨RX6, "isNote", "(II)Z"⟩
abbrev cX6_hit : ByteArray := prog_8_method_30_code
def yX6_hit : MethodName := ⟨RX6, "hit", "(II)I"⟩
abbrev cX6_letGo : ByteArray := prog_8_method_31_code
def yX6_letGo : MethodName := ⟨RX6, "letGo", "(I)I"⟩
abbrev cX6_pedal : ByteArray := prog_8_method_32_code
def yX6_pedal : MethodName := ⟨RX6, "pedal", "()I"⟩
abbrev cX6_pass : ByteArray := prog_8_method_33_code
def yX6_pass : MethodName := ⟨RX6, "pass", "(I)I"⟩
abbrev cX6_silence : ByteArray := prog_8_method_34_code
def yX6_silence : MethodName := ⟨RX6, "silence", "()I"⟩
abbrev cX6_leastOf : ByteArray := prog_8_method_35_code
def yX6_leastOf : MethodName := ⟨RX6, "leastOf", "(I)I"⟩
abbrev cX6_mostOf : ByteArray := prog_8_method_36_code
def yX6_mostOf : MethodName := ⟨RX6, "mostOf", "(I)I"⟩
abbrev cX6_set : ByteArray := prog_8_method_37_code
def yX6_set : MethodName := ⟨RX6, "set", "(II)I"⟩
abbrev cX6_append : ByteArray := prog_8_method_38_code
def yX6_append : MethodName := ⟨RX6, "append", "(I)I"⟩
abbrev cX6_clear : ByteArray := prog_8_method_39_code
def yX6_clear : MethodName := ⟨RX6, "clear", "()I"⟩
abbrev cX6_here : ByteArray := prog_8_method_40_code
def yX6_here : MethodName := ⟨RX6, "here", "()I"⟩
abbrev cX6_takes : ByteArray := prog_8_method_41_code
def yX6_takes : MethodName := ⟨RX6, "takes", "(Z)V"⟩
abbrev cX6_canBegin : ByteArray := prog_8_method_42_code
def yX6_canBegin : MethodName := ⟨RX6, "canBegin", "(III)Z"⟩
abbrev cX6_takesNumber : ByteArray := prog_8_method_43_code
def yX6_takesNumber : MethodName := ⟨RX6, "takesNumber", "(II)I"⟩
abbrev cX6_takesRange : ByteArray := prog_8_method_44_code
def yX6_takesRange : MethodName := ⟨RX6, "takesRange", "(III)V"⟩
abbrev cX6_takesMark : ByteArray := prog_8_method_45_code
def yX6_takesMark : MethodName := ⟨RX6, "takesMark", "(II)I"⟩
abbrev cX6_takesZone : ByteArray := prog_8_method_46_code
def yX6_takesZone : MethodName := ⟨RX6, "takesZone", "()V"⟩
abbrev cX6_areZones : ByteArray := prog_8_method_47_code
def yX6_areZones : MethodName := ⟨RX6, "areZones", "()Z"⟩
abbrev cX6_takesDeed : ByteArray := prog_8_method_48_code
def yX6_takesDeed : MethodName := ⟨RX6, "takesDeed", "()V"⟩
abbrev cX6_isScore : ByteArray := prog_8_method_49_code
def yX6_isScore : MethodName := ⟨RX6, "isScore", "()Z"⟩
abbrev cX6_fault : ByteArray := prog_8_method_50_code
def yX6_fault : MethodName := ⟨RX6, "fault", "(I)I"⟩
abbrev cX6_load : ByteArray := prog_8_method_51_code
def yX6_load : MethodName := ⟨RX6, "load", "()I"⟩
abbrev cX6_doesDeed : ByteArray := prog_8_method_52_code
def yX6_doesDeed : MethodName := ⟨RX6, "doesDeed", "()V"⟩
abbrev cX6_play : ByteArray := prog_8_method_53_code
def yX6_play : MethodName := ⟨RX6, "play", "()I"⟩
abbrev cX6_voicesOf : ByteArray := prog_8_method_54_code
def yX6_voicesOf : MethodName := ⟨RX6, "voicesOf", "(I)I"⟩
abbrev cX6_canSound : ByteArray := prog_8_method_55_code
def yX6_canSound : MethodName := ⟨RX6, "canSound", "(I)Z"⟩
abbrev cX6_zoneOf : ByteArray := prog_8_method_56_code
def yX6_zoneOf : MethodName := ⟨RX6, "zoneOf", "(II)I"⟩
abbrev cX6_rankOf : ByteArray := prog_8_method_57_code
def yX6_rankOf : MethodName := ⟨RX6, "rankOf", "(I)I"⟩
abbrev cX6_voice : ByteArray := prog_8_method_58_code
def yX6_voice : MethodName := ⟨RX6, "voice", "(II)I"⟩
abbrev cX6_answers : ByteArray := prog_8_method_59_code
def yX6_answers : MethodName := ⟨RX6, "answers", "(II)I"⟩
abbrev cX6_map : ByteArray := prog_8_method_60_code
def yX6_map : MethodName := ⟨RX6, "map", "(II)I"⟩
abbrev cX6_inState : ByteArray := prog_8_method_61_code
def yX6_inState : MethodName := ⟨RX6, "inState", "(I)I"⟩
abbrev cX6_allLoud : ByteArray := prog_8_method_62_code
def yX6_allLoud : MethodName := ⟨RX6, "allLoud", "()I"⟩
abbrev cX6_count : ByteArray := prog_8_method_63_code
def yX6_count : MethodName := ⟨RX6, "count", "(I)I"⟩
abbrev cX6_loudness : ByteArray := prog_8_method_64_code
def yX6_loudness : MethodName := ⟨RX6, "loudness", "()D"⟩
abbrev cX6_ifHit : ByteArray := prog_8_method_65_code
def yX6_ifHit : MethodName := ⟨RX6, "ifHit", "(III)I"⟩
abbrev cX6_silentIn : ByteArray := prog_8_method_66_code
def yX6_silentIn : MethodName := ⟨RX6, "silentIn", "()I"⟩
abbrev cX6_chord : ByteArray := prog_8_method_67_code
def yX6_chord : MethodName := ⟨RX6, "chord", "(III)I"⟩
abbrev cX6_undo : ByteArray := prog_8_method_68_code
def yX6_undo : MethodName := ⟨RX6, "undo", "()I"⟩
abbrev cX6_save : ByteArray := prog_8_method_69_code
def yX6_save : MethodName := ⟨RX6, "save", "()I"⟩
abbrev cX6_restore : ByteArray := prog_8_method_70_code
def yX6_restore : MethodName := ⟨RX6, "restore", "()I"⟩
def RJ9 : String := "java/lang/Math"
def TJ9 : u_T := fun k => match k with
  | _ => ("", "", "", false)
def tyJ9 : Nat → FieldType := fun k => match k with
  | _ => .int
abbrev wsJ90 : List Cond := u_ws RJ9 TJ9 0
theorem nmJ9 : ∀ a, a < 0 → ∀ b, b < 0 → a ≠ b → (TJ9 a).2.1 ≠ (TJ9 b).2.1 := by decide +kernel
theorem tyJ9_ok : ∀ k, k < 0 → parseFieldDescriptor (TJ9 k).2.2.1 = some (tyJ9 k) := by decide +kernel
abbrev cJ9_max_7cf53 : ByteArray := prog_9_method_65_code
def yJ9_max_7cf53 : MethodName := ⟨RJ9, "max", "(II)I"⟩
abbrev cJ9_min_7cf53 : ByteArray := prog_9_method_69_code
def yJ9_min_7cf53 : MethodName := ⟨RJ9, "min", "(II)I"⟩
def RJ10 : String := "java/lang/System"
def TJ10 : u_T := fun k => match k with
  | _ => ("", "", "", false)
def tyJ10 : Nat → FieldType := fun k => match k with
  | _ => .int
abbrev wsJ100 : List Cond := u_ws RJ10 TJ10 0
theorem nmJ10 : ∀ a, a < 0 → ∀ b, b < 0 → a ≠ b → (TJ10 a).2.1 ≠ (TJ10 b).2.1 := by decide +kernel
theorem tyJ10_ok : ∀ k, k < 0 → parseFieldDescriptor (TJ10 k).2.2.1 = some (tyJ10 k) := by decide +kernel
def RL : String := "ZoneSamplerLaw"
abbrev cL_law : ByteArray := code
def yL_law : MethodName := ⟨RL, "law", "([I)Z"⟩
def wsX4_init : List Cond := .code yX4_init cX4_init 3 none :: ([.methodLink RX4 1 objectInit, .instanceMethod objectInit, .code objectInit ⟨#[0xb1]⟩ 1 none, .fieldLink RX4 7 "ZoneSampler$Table" "width" "I", .arrayClass .int, .fieldLink RX4 13 "ZoneSampler$Table" "cells" "[I"] ++ wsX40)
def wsX2_init : List Cond := .code yX2_init cX2_init 1 none :: ([.methodLink RX2 3 objectInit, .instanceMethod objectInit, .code objectInit ⟨#[0xb1]⟩ 1 none, .classLink RX2 9 RX4, .instantiable RX4 3, .initialized RX4, .fieldLink RX2 14 "ZoneSampler$State" "zones" "LZoneSampler$Table;", .fieldLink RX2 20 "ZoneSampler$State" "voices" "LZoneSampler$Table;", .arrayClass .int, .fieldLink RX2 23 "ZoneSampler$State" "numbers" "[I", .methodLink RX2 11 yX4_init, .instanceMethod yX4_init, .code yX4_init cX4_init 3 none, .methodLink RX4 1 objectInit, .fieldLink RX4 7 "ZoneSampler$Table" "width" "I", .fieldLink RX4 13 "ZoneSampler$Table" "cells" "[I"] ++ wsX40 ++ wsX20)
def wsX0_init_r1 : List Cond := [Cond.methodLink RX0 3 objectInit, Cond.instanceMethod objectInit, Cond.code objectInit ⟨#[0xb1]⟩ 1 none, Cond.classLink RX0 9 RX2, Cond.instantiable RX2 5, Cond.initialized RX2, Cond.fieldLink RX0 12 "ZoneSampler$History" "first" "LZoneSampler$State;", Cond.fieldLink RX0 18 "ZoneSampler$History" "second" "LZoneSampler$State;", Cond.fieldLink RX0 21 "ZoneSampler$History" "third" "LZoneSampler$State;", Cond.fieldLink RX0 24 "ZoneSampler$History" "fourth" "LZoneSampler$State;", Cond.methodLink RX0 11 yX2_init, Cond.instanceMethod yX2_init, Cond.code yX2_init cX2_init 1 none, Cond.methodLink RX2 3 objectInit, Cond.classLink RX2 9 RX4, Cond.instantiable RX4 3, Cond.initialized RX4, Cond.fieldLink RX2 14 "ZoneSampler$State" "zones" "LZoneSampler$Table;", Cond.fieldLink RX2 20 "ZoneSampler$State" "voices" "LZoneSampler$Table;", Cond.arrayClass .int, Cond.fieldLink RX2 23 "ZoneSampler$State" "numbers" "[I", Cond.methodLink RX2 11 yX4_init, Cond.instanceMethod yX4_init, Cond.code yX4_init cX4_init 3 none]
def wsX0_init_r2 : List Cond := [Cond.methodLink RX4 1 objectInit, Cond.fieldLink RX4 7 "ZoneSampler$Table" "width" "I", Cond.fieldLink RX4 13 "ZoneSampler$Table" "cells" "[I"]
def wsX0_init : List Cond := .code yX0_init cX0_init 1 none :: ((wsX0_init_r1 ++ wsX0_init_r2) ++ wsX20 ++ wsX00 ++ wsX40)
def wsX0_size : List Cond := .code yX0_size cX0_size 1 (some .int) :: ([.fieldLink RX0 27 "ZoneSampler$History" "kept" "I"] ++ wsX00)
def wsX0_stateAt : List Cond := .code yX0_stateAt cX0_stateAt 2 (some (.object "ZoneSampler$State")) :: ([.fieldLink RX0 12 "ZoneSampler$History" "first" "LZoneSampler$State;", .fieldLink RX0 18 "ZoneSampler$History" "second" "LZoneSampler$State;", .fieldLink RX0 21 "ZoneSampler$History" "third" "LZoneSampler$State;", .fieldLink RX0 24 "ZoneSampler$History" "fourth" "LZoneSampler$State;"] ++ wsX00)
def wsX4_copyFrom : List Cond := .code yX4_copyFrom cX4_copyFrom 2 none :: ([.fieldLink RX4 13 "ZoneSampler$Table" "cells" "[I", .methodLink RX4 28 Lib.Math.min.name, .static Lib.Math.min.name, .initialized "java/lang/Math", .code Lib.Math.min.name Lib.Math.min.code 2 (some .int), .methodLink RX4 33 arraycopyName, .native arraycopyName, .static arraycopyName, .initialized "java/lang/System", .fieldLink RX4 17 "ZoneSampler$Table" "rows" "I"] ++ wsX40)
def wsX2_copyFrom : List Cond := .code yX2_copyFrom cX2_copyFrom 2 none :: ([.fieldLink RX2 14 "ZoneSampler$State" "zones" "LZoneSampler$Table;", .fieldLink RX2 20 "ZoneSampler$State" "voices" "LZoneSampler$Table;", .fieldLink RX2 23 "ZoneSampler$State" "numbers" "[I", .methodLink RX2 31 arraycopyName, .native arraycopyName, .static arraycopyName, .initialized "java/lang/System", .fieldLink RX2 37 "ZoneSampler$State" "pedalDown" "Z", .fieldLink RX2 41 "ZoneSampler$State" "notes" "I", .methodLink RX2 27 yX4_copyFrom, .instanceMethod yX4_copyFrom, .selects RX4 yX4_copyFrom yX4_copyFrom, .initialized RX4, .code yX4_copyFrom cX4_copyFrom 2 none, .fieldLink RX4 13 "ZoneSampler$Table" "cells" "[I", .methodLink RX4 28 Lib.Math.min.name, .static Lib.Math.min.name, .initialized "java/lang/Math", .code Lib.Math.min.name Lib.Math.min.code 2 (some .int), .methodLink RX4 33 arraycopyName, .fieldLink RX4 17 "ZoneSampler$Table" "rows" "I"] ++ wsX20 ++ wsX40)
def wsX0_record_r1 : List Cond := [Cond.fieldLink RX0 27 "ZoneSampler$History" "kept" "I", Cond.fieldLink RX0 12 "ZoneSampler$History" "first" "LZoneSampler$State;", Cond.fieldLink RX0 18 "ZoneSampler$History" "second" "LZoneSampler$State;", Cond.fieldLink RX0 21 "ZoneSampler$History" "third" "LZoneSampler$State;", Cond.fieldLink RX0 24 "ZoneSampler$History" "fourth" "LZoneSampler$State;", Cond.methodLink RX0 31 yX0_stateAt, Cond.instanceMethod yX0_stateAt, Cond.selects RX0 yX0_stateAt yX0_stateAt, Cond.initialized RX0, Cond.code yX0_stateAt cX0_stateAt 2 (some (.object "ZoneSampler$State")), Cond.methodLink RX0 35 yX2_copyFrom, Cond.instanceMethod yX2_copyFrom, Cond.selects RX2 yX2_copyFrom yX2_copyFrom, Cond.initialized RX2, Cond.code yX2_copyFrom cX2_copyFrom 2 none, Cond.fieldLink RX2 14 "ZoneSampler$State" "zones" "LZoneSampler$Table;", Cond.fieldLink RX2 20 "ZoneSampler$State" "voices" "LZoneSampler$Table;", Cond.fieldLink RX2 23 "ZoneSampler$State" "numbers" "[I", Cond.methodLink RX2 31 arraycopyName, Cond.native arraycopyName, Cond.static arraycopyName, Cond.initialized "java/lang/System", Cond.fieldLink RX2 37 "ZoneSampler$State" "pedalDown" "Z", Cond.fieldLink RX2 41 "ZoneSampler$State" "notes" "I"]
def wsX0_record_r2 : List Cond := [Cond.methodLink RX2 27 yX4_copyFrom, Cond.instanceMethod yX4_copyFrom, Cond.selects RX4 yX4_copyFrom yX4_copyFrom, Cond.initialized RX4, Cond.code yX4_copyFrom cX4_copyFrom 2 none, Cond.fieldLink RX4 13 "ZoneSampler$Table" "cells" "[I", Cond.methodLink RX4 28 Lib.Math.min.name, Cond.static Lib.Math.min.name, Cond.initialized "java/lang/Math", Cond.code Lib.Math.min.name Lib.Math.min.code 2 (some .int), Cond.methodLink RX4 33 arraycopyName, Cond.fieldLink RX4 17 "ZoneSampler$Table" "rows" "I"]
def wsX0_record : List Cond := .code yX0_record cX0_record 3 none :: ((wsX0_record_r1 ++ wsX0_record_r2) ++ wsX00 ++ wsX20 ++ wsX40)
def wsX0_goBack_r1 : List Cond := [Cond.fieldLink RX0 27 "ZoneSampler$History" "kept" "I", Cond.methodLink RX0 31 yX0_stateAt, Cond.instanceMethod yX0_stateAt, Cond.selects RX0 yX0_stateAt yX0_stateAt, Cond.initialized RX0, Cond.code yX0_stateAt cX0_stateAt 2 (some (.object "ZoneSampler$State")), Cond.fieldLink RX0 12 "ZoneSampler$History" "first" "LZoneSampler$State;", Cond.fieldLink RX0 18 "ZoneSampler$History" "second" "LZoneSampler$State;", Cond.fieldLink RX0 21 "ZoneSampler$History" "third" "LZoneSampler$State;", Cond.fieldLink RX0 24 "ZoneSampler$History" "fourth" "LZoneSampler$State;", Cond.methodLink RX0 35 yX2_copyFrom, Cond.instanceMethod yX2_copyFrom, Cond.selects RX2 yX2_copyFrom yX2_copyFrom, Cond.initialized RX2, Cond.code yX2_copyFrom cX2_copyFrom 2 none, Cond.fieldLink RX2 14 "ZoneSampler$State" "zones" "LZoneSampler$Table;", Cond.fieldLink RX2 20 "ZoneSampler$State" "voices" "LZoneSampler$Table;", Cond.fieldLink RX2 23 "ZoneSampler$State" "numbers" "[I", Cond.methodLink RX2 31 arraycopyName, Cond.native arraycopyName, Cond.static arraycopyName, Cond.initialized "java/lang/System", Cond.fieldLink RX2 37 "ZoneSampler$State" "pedalDown" "Z", Cond.fieldLink RX2 41 "ZoneSampler$State" "notes" "I"]
def wsX0_goBack_r2 : List Cond := [Cond.methodLink RX2 27 yX4_copyFrom, Cond.instanceMethod yX4_copyFrom, Cond.selects RX4 yX4_copyFrom yX4_copyFrom, Cond.initialized RX4, Cond.code yX4_copyFrom cX4_copyFrom 2 none, Cond.fieldLink RX4 13 "ZoneSampler$Table" "cells" "[I", Cond.methodLink RX4 28 Lib.Math.min.name, Cond.static Lib.Math.min.name, Cond.initialized "java/lang/Math", Cond.code Lib.Math.min.name Lib.Math.min.code 2 (some .int), Cond.methodLink RX4 33 arraycopyName, Cond.fieldLink RX4 17 "ZoneSampler$Table" "rows" "I"]
def wsX0_goBack : List Cond := .code yX0_goBack cX0_goBack 2 none :: ((wsX0_goBack_r1 ++ wsX0_goBack_r2) ++ wsX00 ++ wsX20 ++ wsX40)
def wsX1_init : List Cond := .code yX1_init cX1_init 1 none :: ([.methodLink RX1 3 objectInit, .instanceMethod objectInit, .code objectInit ⟨#[0xb1]⟩ 1 none, .arrayClass .char, .fieldLink RX1 9 "ZoneSampler$Pad" "signs" "[C"] ++ wsX10)
def wsX1_length : List Cond := .code yX1_length cX1_length 1 (some .int) :: ([.fieldLink RX1 15 "ZoneSampler$Pad" "length" "I"] ++ wsX10)
def wsX1_add : List Cond := .code yX1_add cX1_add 2 none :: ([.fieldLink RX1 15 "ZoneSampler$Pad" "length" "I", .fieldLink RX1 9 "ZoneSampler$Pad" "signs" "[C"] ++ wsX10)
def wsX1_empty : List Cond := .code yX1_empty cX1_empty 1 none :: ([.fieldLink RX1 15 "ZoneSampler$Pad" "length" "I"] ++ wsX10)
def wsX1_rewind : List Cond := .code yX1_rewind cX1_rewind 1 none :: ([.fieldLink RX1 19 "ZoneSampler$Pad" "at" "I"] ++ wsX10)
def wsX1_items : List Cond := .code yX1_items cX1_items 3 (some .int) :: ([.fieldLink RX1 15 "ZoneSampler$Pad" "length" "I", .fieldLink RX1 9 "ZoneSampler$Pad" "signs" "[C"] ++ wsX10)
def wsX1_sign : List Cond := .code yX1_sign cX1_sign 1 (some .int) :: ([.fieldLink RX1 19 "ZoneSampler$Pad" "at" "I", .fieldLink RX1 15 "ZoneSampler$Pad" "length" "I", .fieldLink RX1 9 "ZoneSampler$Pad" "signs" "[C"] ++ wsX10)
def wsX1_canBegin : List Cond := .code yX1_canBegin cX1_canBegin 5 (some .boolean) :: ([])
def wsX1_readNumber : List Cond := .code yX1_readNumber cX1_readNumber 8 (some .boolean) :: ([.fieldLink RX1 47 "ZoneSampler$Pad" "value" "I", .fieldLink RX1 19 "ZoneSampler$Pad" "at" "I", .methodLink RX1 40 yX1_sign, .instanceMethod yX1_sign, .selects RX1 yX1_sign yX1_sign, .initialized RX1, .code yX1_sign cX1_sign 1 (some .int), .fieldLink RX1 15 "ZoneSampler$Pad" "length" "I", .fieldLink RX1 9 "ZoneSampler$Pad" "signs" "[C", .methodLink RX1 89 yX1_canBegin, .static yX1_canBegin, .code yX1_canBegin cX1_canBegin 5 (some .boolean)] ++ wsX10)
def wsX1_readSign : List Cond := .code yX1_readSign cX1_readSign 3 (some .boolean) :: ([.fieldLink RX1 19 "ZoneSampler$Pad" "at" "I", .methodLink RX1 40 yX1_sign, .instanceMethod yX1_sign, .selects RX1 yX1_sign yX1_sign, .initialized RX1, .code yX1_sign cX1_sign 1 (some .int), .fieldLink RX1 15 "ZoneSampler$Pad" "length" "I", .fieldLink RX1 9 "ZoneSampler$Pad" "signs" "[C"] ++ wsX10)
def wsX1_readMark : List Cond := .code yX1_readMark cX1_readMark 3 (some .boolean) :: ([.fieldLink RX1 47 "ZoneSampler$Pad" "value" "I", .methodLink RX1 36 yX1_readSign, .instanceMethod yX1_readSign, .selects RX1 yX1_readSign yX1_readSign, .initialized RX1, .code yX1_readSign cX1_readSign 3 (some .boolean), .fieldLink RX1 19 "ZoneSampler$Pad" "at" "I", .methodLink RX1 40 yX1_sign, .instanceMethod yX1_sign, .selects RX1 yX1_sign yX1_sign, .code yX1_sign cX1_sign 1 (some .int), .fieldLink RX1 15 "ZoneSampler$Pad" "length" "I", .fieldLink RX1 9 "ZoneSampler$Pad" "signs" "[C", .methodLink RX1 43 yX1_readNumber, .instanceMethod yX1_readNumber, .selects RX1 yX1_readNumber yX1_readNumber, .code yX1_readNumber cX1_readNumber 8 (some .boolean), .methodLink RX1 89 yX1_canBegin, .static yX1_canBegin, .code yX1_canBegin cX1_canBegin 5 (some .boolean)] ++ wsX10)
def wsX1_readZone_r1 : List Cond := [Cond.fieldLink RX1 47 "ZoneSampler$Pad" "value" "I", Cond.fieldLink RX1 50 "ZoneSampler$Pad" "low" "I", Cond.fieldLink RX1 53 "ZoneSampler$Pad" "high" "I", Cond.fieldLink RX1 56 "ZoneSampler$Pad" "softest" "I", Cond.fieldLink RX1 59 "ZoneSampler$Pad" "hardest" "I", Cond.fieldLink RX1 62 "ZoneSampler$Pad" "lasting" "I", Cond.fieldLink RX1 68 "ZoneSampler$Pad" "group" "I", Cond.fieldLink RX1 71 "ZoneSampler$Pad" "robin" "I", Cond.methodLink RX1 43 yX1_readNumber, Cond.instanceMethod yX1_readNumber, Cond.selects RX1 yX1_readNumber yX1_readNumber, Cond.initialized RX1, Cond.code yX1_readNumber cX1_readNumber 8 (some .boolean), Cond.fieldLink RX1 19 "ZoneSampler$Pad" "at" "I", Cond.methodLink RX1 40 yX1_sign, Cond.instanceMethod yX1_sign, Cond.selects RX1 yX1_sign yX1_sign, Cond.code yX1_sign cX1_sign 1 (some .int), Cond.fieldLink RX1 15 "ZoneSampler$Pad" "length" "I", Cond.fieldLink RX1 9 "ZoneSampler$Pad" "signs" "[C", Cond.methodLink RX1 89 yX1_canBegin, Cond.static yX1_canBegin, Cond.code yX1_canBegin cX1_canBegin 5 (some .boolean), Cond.methodLink RX1 36 yX1_readSign]
def wsX1_readZone_r2 : List Cond := [Cond.instanceMethod yX1_readSign, Cond.selects RX1 yX1_readSign yX1_readSign, Cond.code yX1_readSign cX1_readSign 3 (some .boolean), Cond.methodLink RX1 65 yX1_readMark, Cond.instanceMethod yX1_readMark, Cond.selects RX1 yX1_readMark yX1_readMark, Cond.code yX1_readMark cX1_readMark 3 (some .boolean)]
def wsX1_readZone : List Cond := .code yX1_readZone cX1_readZone 2 (some .boolean) :: ((wsX1_readZone_r1 ++ wsX1_readZone_r2) ++ wsX10)
def wsX1_readDeedKey : List Cond := .code yX1_readDeedKey cX1_readDeedKey 2 (some .boolean) :: ([.fieldLink RX1 47 "ZoneSampler$Pad" "value" "I", .fieldLink RX1 83 "ZoneSampler$Pad" "deedKey" "I", .methodLink RX1 43 yX1_readNumber, .instanceMethod yX1_readNumber, .selects RX1 yX1_readNumber yX1_readNumber, .initialized RX1, .code yX1_readNumber cX1_readNumber 8 (some .boolean), .fieldLink RX1 19 "ZoneSampler$Pad" "at" "I", .methodLink RX1 40 yX1_sign, .instanceMethod yX1_sign, .selects RX1 yX1_sign yX1_sign, .code yX1_sign cX1_sign 1 (some .int), .fieldLink RX1 15 "ZoneSampler$Pad" "length" "I", .fieldLink RX1 9 "ZoneSampler$Pad" "signs" "[C", .methodLink RX1 89 yX1_canBegin, .static yX1_canBegin, .code yX1_canBegin cX1_canBegin 5 (some .boolean)] ++ wsX10)
def wsX1_readAmount : List Cond := .code yX1_readAmount cX1_readAmount 3 (some .boolean) :: ([.fieldLink RX1 47 "ZoneSampler$Pad" "value" "I", .fieldLink RX1 86 "ZoneSampler$Pad" "amount" "I", .methodLink RX1 43 yX1_readNumber, .instanceMethod yX1_readNumber, .selects RX1 yX1_readNumber yX1_readNumber, .initialized RX1, .code yX1_readNumber cX1_readNumber 8 (some .boolean), .fieldLink RX1 19 "ZoneSampler$Pad" "at" "I", .methodLink RX1 40 yX1_sign, .instanceMethod yX1_sign, .selects RX1 yX1_sign yX1_sign, .code yX1_sign cX1_sign 1 (some .int), .fieldLink RX1 15 "ZoneSampler$Pad" "length" "I", .fieldLink RX1 9 "ZoneSampler$Pad" "signs" "[C", .methodLink RX1 89 yX1_canBegin, .static yX1_canBegin, .code yX1_canBegin cX1_canBegin 5 (some .boolean)] ++ wsX10)
def wsX1_readDeed_r1 : List Cond := [Cond.fieldLink RX1 74 "ZoneSampler$Pad" "deed" "I", Cond.fieldLink RX1 19 "ZoneSampler$Pad" "at" "I", Cond.methodLink RX1 40 yX1_sign, Cond.instanceMethod yX1_sign, Cond.selects RX1 yX1_sign yX1_sign, Cond.initialized RX1, Cond.code yX1_sign cX1_sign 1 (some .int), Cond.fieldLink RX1 15 "ZoneSampler$Pad" "length" "I", Cond.fieldLink RX1 9 "ZoneSampler$Pad" "signs" "[C", Cond.methodLink RX1 77 yX1_readDeedKey, Cond.instanceMethod yX1_readDeedKey, Cond.selects RX1 yX1_readDeedKey yX1_readDeedKey, Cond.code yX1_readDeedKey cX1_readDeedKey 2 (some .boolean), Cond.fieldLink RX1 47 "ZoneSampler$Pad" "value" "I", Cond.fieldLink RX1 83 "ZoneSampler$Pad" "deedKey" "I", Cond.methodLink RX1 43 yX1_readNumber, Cond.instanceMethod yX1_readNumber, Cond.selects RX1 yX1_readNumber yX1_readNumber, Cond.code yX1_readNumber cX1_readNumber 8 (some .boolean), Cond.methodLink RX1 89 yX1_canBegin, Cond.static yX1_canBegin, Cond.code yX1_canBegin cX1_canBegin 5 (some .boolean), Cond.methodLink RX1 36 yX1_readSign, Cond.instanceMethod yX1_readSign]
def wsX1_readDeed_r2 : List Cond := [Cond.selects RX1 yX1_readSign yX1_readSign, Cond.code yX1_readSign cX1_readSign 3 (some .boolean), Cond.methodLink RX1 80 yX1_readAmount, Cond.instanceMethod yX1_readAmount, Cond.selects RX1 yX1_readAmount yX1_readAmount, Cond.code yX1_readAmount cX1_readAmount 3 (some .boolean), Cond.fieldLink RX1 86 "ZoneSampler$Pad" "amount" "I"]
def wsX1_readDeed : List Cond := .code yX1_readDeed cX1_readDeed 1 (some .boolean) :: ((wsX1_readDeed_r1 ++ wsX1_readDeed_r2) ++ wsX10)
def wsX1_faultAs_r1 : List Cond := [Cond.fieldLink RX1 19 "ZoneSampler$Pad" "at" "I", Cond.fieldLink RX1 15 "ZoneSampler$Pad" "length" "I", Cond.methodLink RX1 22 yX1_rewind, Cond.instanceMethod yX1_rewind, Cond.selects RX1 yX1_rewind yX1_rewind, Cond.initialized RX1, Cond.code yX1_rewind cX1_rewind 1 none, Cond.methodLink RX1 25 yX1_items, Cond.instanceMethod yX1_items, Cond.selects RX1 yX1_items yX1_items, Cond.code yX1_items cX1_items 3 (some .int), Cond.fieldLink RX1 9 "ZoneSampler$Pad" "signs" "[C", Cond.methodLink RX1 29 yX1_readZone, Cond.instanceMethod yX1_readZone, Cond.selects RX1 yX1_readZone yX1_readZone, Cond.code yX1_readZone cX1_readZone 2 (some .boolean), Cond.fieldLink RX1 47 "ZoneSampler$Pad" "value" "I", Cond.fieldLink RX1 50 "ZoneSampler$Pad" "low" "I", Cond.fieldLink RX1 53 "ZoneSampler$Pad" "high" "I", Cond.fieldLink RX1 56 "ZoneSampler$Pad" "softest" "I", Cond.fieldLink RX1 59 "ZoneSampler$Pad" "hardest" "I", Cond.fieldLink RX1 62 "ZoneSampler$Pad" "lasting" "I", Cond.fieldLink RX1 68 "ZoneSampler$Pad" "group" "I", Cond.fieldLink RX1 71 "ZoneSampler$Pad" "robin" "I"]
def wsX1_faultAs_r2 : List Cond := [Cond.methodLink RX1 43 yX1_readNumber, Cond.instanceMethod yX1_readNumber, Cond.selects RX1 yX1_readNumber yX1_readNumber, Cond.code yX1_readNumber cX1_readNumber 8 (some .boolean), Cond.methodLink RX1 40 yX1_sign, Cond.instanceMethod yX1_sign, Cond.selects RX1 yX1_sign yX1_sign, Cond.code yX1_sign cX1_sign 1 (some .int), Cond.methodLink RX1 89 yX1_canBegin, Cond.static yX1_canBegin, Cond.code yX1_canBegin cX1_canBegin 5 (some .boolean), Cond.methodLink RX1 36 yX1_readSign, Cond.instanceMethod yX1_readSign, Cond.selects RX1 yX1_readSign yX1_readSign, Cond.code yX1_readSign cX1_readSign 3 (some .boolean), Cond.methodLink RX1 65 yX1_readMark, Cond.instanceMethod yX1_readMark, Cond.selects RX1 yX1_readMark yX1_readMark, Cond.code yX1_readMark cX1_readMark 3 (some .boolean), Cond.methodLink RX1 33 yX1_readDeed, Cond.instanceMethod yX1_readDeed, Cond.selects RX1 yX1_readDeed yX1_readDeed, Cond.code yX1_readDeed cX1_readDeed 1 (some .boolean), Cond.fieldLink RX1 74 "ZoneSampler$Pad" "deed" "I"]
def wsX1_faultAs_r3 : List Cond := [Cond.methodLink RX1 77 yX1_readDeedKey, Cond.instanceMethod yX1_readDeedKey, Cond.selects RX1 yX1_readDeedKey yX1_readDeedKey, Cond.code yX1_readDeedKey cX1_readDeedKey 2 (some .boolean), Cond.fieldLink RX1 83 "ZoneSampler$Pad" "deedKey" "I", Cond.methodLink RX1 80 yX1_readAmount, Cond.instanceMethod yX1_readAmount, Cond.selects RX1 yX1_readAmount yX1_readAmount, Cond.code yX1_readAmount cX1_readAmount 3 (some .boolean), Cond.fieldLink RX1 86 "ZoneSampler$Pad" "amount" "I"]
def wsX1_faultAs : List Cond := .code yX1_faultAs cX1_faultAs 5 (some .int) :: ((wsX1_faultAs_r1 ++ (wsX1_faultAs_r2 ++ wsX1_faultAs_r3)) ++ wsX10)
def wsX2_number : List Cond := .code yX2_number cX2_number 2 (some .int) :: ([.fieldLink RX2 23 "ZoneSampler$State" "numbers" "[I"] ++ wsX20)
def wsX2_putNumber : List Cond := .code yX2_putNumber cX2_putNumber 3 none :: ([.fieldLink RX2 23 "ZoneSampler$State" "numbers" "[I"] ++ wsX20)
def wsX2_grow : List Cond := .code yX2_grow cX2_grow 3 none :: ([.methodLink RX2 45 yX2_number, .instanceMethod yX2_number, .selects RX2 yX2_number yX2_number, .initialized RX2, .code yX2_number cX2_number 2 (some .int), .fieldLink RX2 23 "ZoneSampler$State" "numbers" "[I", .methodLink RX2 49 yX2_putNumber, .instanceMethod yX2_putNumber, .selects RX2 yX2_putNumber yX2_putNumber, .code yX2_putNumber cX2_putNumber 3 none] ++ wsX20)
def wsX4_addRow : List Cond := .code yX4_addRow cX4_addRow 1 (some .int) :: ([.fieldLink RX4 17 "ZoneSampler$Table" "rows" "I", .fieldLink RX4 7 "ZoneSampler$Table" "width" "I", .fieldLink RX4 13 "ZoneSampler$Table" "cells" "[I"] ++ wsX40)
def wsX4_put : List Cond := .code yX4_put cX4_put 5 none :: ([.fieldLink RX4 17 "ZoneSampler$Table" "rows" "I", .fieldLink RX4 7 "ZoneSampler$Table" "width" "I", .fieldLink RX4 13 "ZoneSampler$Table" "cells" "[I"] ++ wsX40)
def wsX2_shapeZone : List Cond := .code yX2_shapeZone cX2_shapeZone 5 none :: ([.fieldLink RX2 14 "ZoneSampler$State" "zones" "LZoneSampler$Table;", .methodLink RX2 56 yX4_put, .instanceMethod yX4_put, .selects RX4 yX4_put yX4_put, .initialized RX4, .code yX4_put cX4_put 5 none, .fieldLink RX4 17 "ZoneSampler$Table" "rows" "I", .fieldLink RX4 7 "ZoneSampler$Table" "width" "I", .fieldLink RX4 13 "ZoneSampler$Table" "cells" "[I"] ++ wsX20 ++ wsX40)
def wsX2_addZone : List Cond := .code yX2_addZone cX2_addZone 6 (some .int) :: ([.fieldLink RX2 14 "ZoneSampler$State" "zones" "LZoneSampler$Table;", .methodLink RX2 52 yX4_addRow, .instanceMethod yX4_addRow, .selects RX4 yX4_addRow yX4_addRow, .initialized RX4, .code yX4_addRow cX4_addRow 1 (some .int), .fieldLink RX4 17 "ZoneSampler$Table" "rows" "I", .fieldLink RX4 7 "ZoneSampler$Table" "width" "I", .fieldLink RX4 13 "ZoneSampler$Table" "cells" "[I", .methodLink RX2 56 yX4_put, .instanceMethod yX4_put, .selects RX4 yX4_put yX4_put, .code yX4_put cX4_put 5 none, .methodLink RX2 60 yX2_shapeZone, .instanceMethod yX2_shapeZone, .selects RX2 yX2_shapeZone yX2_shapeZone, .initialized RX2, .code yX2_shapeZone cX2_shapeZone 5 none] ++ wsX20 ++ wsX40)
def wsX4_rows : List Cond := .code yX4_rows cX4_rows 1 (some .int) :: ([.fieldLink RX4 17 "ZoneSampler$Table" "rows" "I"] ++ wsX40)
def wsX4_get : List Cond := .code yX4_get cX4_get 4 (some .int) :: ([.fieldLink RX4 17 "ZoneSampler$Table" "rows" "I", .fieldLink RX4 7 "ZoneSampler$Table" "width" "I", .fieldLink RX4 13 "ZoneSampler$Table" "cells" "[I"] ++ wsX40)
def wsX4_has : List Cond := .code yX4_has cX4_has 2 (some .boolean) :: ([.fieldLink RX4 17 "ZoneSampler$Table" "rows" "I"] ++ wsX40)
def wsX4_removeRow : List Cond := .code yX4_removeRow cX4_removeRow 3 none :: ([.fieldLink RX4 7 "ZoneSampler$Table" "width" "I", .fieldLink RX4 13 "ZoneSampler$Table" "cells" "[I", .fieldLink RX4 17 "ZoneSampler$Table" "rows" "I", .methodLink RX4 20 yX4_has, .instanceMethod yX4_has, .selects RX4 yX4_has yX4_has, .initialized RX4, .code yX4_has cX4_has 2 (some .boolean)] ++ wsX40)
def wsX2_dropZone_r1 : List Cond := [Cond.fieldLink RX2 20 "ZoneSampler$State" "voices" "LZoneSampler$Table;", Cond.fieldLink RX2 14 "ZoneSampler$State" "zones" "LZoneSampler$Table;", Cond.methodLink RX2 64 yX4_rows, Cond.instanceMethod yX4_rows, Cond.selects RX4 yX4_rows yX4_rows, Cond.initialized RX4, Cond.code yX4_rows cX4_rows 1 (some .int), Cond.fieldLink RX4 17 "ZoneSampler$Table" "rows" "I", Cond.methodLink RX2 67 yX4_get, Cond.instanceMethod yX4_get, Cond.selects RX4 yX4_get yX4_get, Cond.code yX4_get cX4_get 4 (some .int), Cond.fieldLink RX4 7 "ZoneSampler$Table" "width" "I", Cond.fieldLink RX4 13 "ZoneSampler$Table" "cells" "[I", Cond.methodLink RX2 71 yX4_removeRow, Cond.instanceMethod yX4_removeRow, Cond.selects RX4 yX4_removeRow yX4_removeRow, Cond.code yX4_removeRow cX4_removeRow 3 none, Cond.methodLink RX4 20 yX4_has, Cond.instanceMethod yX4_has, Cond.selects RX4 yX4_has yX4_has, Cond.code yX4_has cX4_has 2 (some .boolean), Cond.methodLink RX2 56 yX4_put, Cond.instanceMethod yX4_put]
def wsX2_dropZone_r2 : List Cond := [Cond.selects RX4 yX4_put yX4_put, Cond.code yX4_put cX4_put 5 none, Cond.methodLink RX2 75 yX2_grow, Cond.instanceMethod yX2_grow, Cond.selects RX2 yX2_grow yX2_grow, Cond.initialized RX2, Cond.code yX2_grow cX2_grow 3 none, Cond.methodLink RX2 45 yX2_number, Cond.instanceMethod yX2_number, Cond.selects RX2 yX2_number yX2_number, Cond.code yX2_number cX2_number 2 (some .int), Cond.fieldLink RX2 23 "ZoneSampler$State" "numbers" "[I", Cond.methodLink RX2 49 yX2_putNumber, Cond.instanceMethod yX2_putNumber, Cond.selects RX2 yX2_putNumber yX2_putNumber, Cond.code yX2_putNumber cX2_putNumber 3 none]
def wsX2_dropZone : List Cond := .code yX2_dropZone cX2_dropZone 5 (some .int) :: ((wsX2_dropZone_r1 ++ wsX2_dropZone_r2) ++ wsX20 ++ wsX40)
def wsX2_matches : List Cond := .code yX2_matches cX2_matches 4 (some .boolean) :: ([.fieldLink RX2 14 "ZoneSampler$State" "zones" "LZoneSampler$Table;", .methodLink RX2 67 yX4_get, .instanceMethod yX4_get, .selects RX4 yX4_get yX4_get, .initialized RX4, .code yX4_get cX4_get 4 (some .int), .fieldLink RX4 17 "ZoneSampler$Table" "rows" "I", .fieldLink RX4 7 "ZoneSampler$Table" "width" "I", .fieldLink RX4 13 "ZoneSampler$Table" "cells" "[I"] ++ wsX20 ++ wsX40)
def wsX2_matching : List Cond := .code yX2_matching cX2_matching 5 (some .int) :: ([.fieldLink RX2 14 "ZoneSampler$State" "zones" "LZoneSampler$Table;", .methodLink RX2 64 yX4_rows, .instanceMethod yX4_rows, .selects RX4 yX4_rows yX4_rows, .initialized RX4, .code yX4_rows cX4_rows 1 (some .int), .fieldLink RX4 17 "ZoneSampler$Table" "rows" "I", .methodLink RX2 78 yX2_matches, .instanceMethod yX2_matches, .selects RX2 yX2_matches yX2_matches, .initialized RX2, .code yX2_matches cX2_matches 4 (some .boolean), .methodLink RX2 67 yX4_get, .instanceMethod yX4_get, .selects RX4 yX4_get yX4_get, .code yX4_get cX4_get 4 (some .int), .fieldLink RX4 7 "ZoneSampler$Table" "width" "I", .fieldLink RX4 13 "ZoneSampler$Table" "cells" "[I"] ++ wsX20 ++ wsX40)
def wsX2_sounds : List Cond := .code yX2_sounds cX2_sounds 8 (some .boolean) :: ([.fieldLink RX2 14 "ZoneSampler$State" "zones" "LZoneSampler$Table;", .methodLink RX2 78 yX2_matches, .instanceMethod yX2_matches, .selects RX2 yX2_matches yX2_matches, .initialized RX2, .code yX2_matches cX2_matches 4 (some .boolean), .methodLink RX2 67 yX4_get, .instanceMethod yX4_get, .selects RX4 yX4_get yX4_get, .initialized RX4, .code yX4_get cX4_get 4 (some .int), .fieldLink RX4 17 "ZoneSampler$Table" "rows" "I", .fieldLink RX4 7 "ZoneSampler$Table" "width" "I", .fieldLink RX4 13 "ZoneSampler$Table" "cells" "[I", .methodLink RX2 64 yX4_rows, .instanceMethod yX4_rows, .selects RX4 yX4_rows yX4_rows, .code yX4_rows cX4_rows 1 (some .int), .methodLink RX2 45 yX2_number, .instanceMethod yX2_number, .selects RX2 yX2_number yX2_number, .code yX2_number cX2_number 2 (some .int), .fieldLink RX2 23 "ZoneSampler$State" "numbers" "[I"] ++ wsX20 ++ wsX40)
def wsX2_sounding_r1 : List Cond := [Cond.fieldLink RX2 14 "ZoneSampler$State" "zones" "LZoneSampler$Table;", Cond.methodLink RX2 64 yX4_rows, Cond.instanceMethod yX4_rows, Cond.selects RX4 yX4_rows yX4_rows, Cond.initialized RX4, Cond.code yX4_rows cX4_rows 1 (some .int), Cond.fieldLink RX4 17 "ZoneSampler$Table" "rows" "I", Cond.methodLink RX2 82 yX2_sounds, Cond.instanceMethod yX2_sounds, Cond.selects RX2 yX2_sounds yX2_sounds, Cond.initialized RX2, Cond.code yX2_sounds cX2_sounds 8 (some .boolean), Cond.methodLink RX2 78 yX2_matches, Cond.instanceMethod yX2_matches, Cond.selects RX2 yX2_matches yX2_matches, Cond.code yX2_matches cX2_matches 4 (some .boolean), Cond.methodLink RX2 67 yX4_get, Cond.instanceMethod yX4_get, Cond.selects RX4 yX4_get yX4_get, Cond.code yX4_get cX4_get 4 (some .int), Cond.fieldLink RX4 7 "ZoneSampler$Table" "width" "I", Cond.fieldLink RX4 13 "ZoneSampler$Table" "cells" "[I", Cond.methodLink RX2 45 yX2_number, Cond.instanceMethod yX2_number]
def wsX2_sounding_r2 : List Cond := [Cond.selects RX2 yX2_number yX2_number, Cond.code yX2_number cX2_number 2 (some .int), Cond.fieldLink RX2 23 "ZoneSampler$State" "numbers" "[I"]
def wsX2_sounding : List Cond := .code yX2_sounding cX2_sounding 5 (some .int) :: ((wsX2_sounding_r1 ++ wsX2_sounding_r2) ++ wsX20 ++ wsX40)
def wsX2_firstSounding_r1 : List Cond := [Cond.fieldLink RX2 14 "ZoneSampler$State" "zones" "LZoneSampler$Table;", Cond.methodLink RX2 64 yX4_rows, Cond.instanceMethod yX4_rows, Cond.selects RX4 yX4_rows yX4_rows, Cond.initialized RX4, Cond.code yX4_rows cX4_rows 1 (some .int), Cond.fieldLink RX4 17 "ZoneSampler$Table" "rows" "I", Cond.methodLink RX2 82 yX2_sounds, Cond.instanceMethod yX2_sounds, Cond.selects RX2 yX2_sounds yX2_sounds, Cond.initialized RX2, Cond.code yX2_sounds cX2_sounds 8 (some .boolean), Cond.methodLink RX2 78 yX2_matches, Cond.instanceMethod yX2_matches, Cond.selects RX2 yX2_matches yX2_matches, Cond.code yX2_matches cX2_matches 4 (some .boolean), Cond.methodLink RX2 67 yX4_get, Cond.instanceMethod yX4_get, Cond.selects RX4 yX4_get yX4_get, Cond.code yX4_get cX4_get 4 (some .int), Cond.fieldLink RX4 7 "ZoneSampler$Table" "width" "I", Cond.fieldLink RX4 13 "ZoneSampler$Table" "cells" "[I", Cond.methodLink RX2 45 yX2_number, Cond.instanceMethod yX2_number]
def wsX2_firstSounding_r2 : List Cond := [Cond.selects RX2 yX2_number yX2_number, Cond.code yX2_number cX2_number 2 (some .int), Cond.fieldLink RX2 23 "ZoneSampler$State" "numbers" "[I"]
def wsX2_firstSounding : List Cond := .code yX2_firstSounding cX2_firstSounding 4 (some .int) :: ((wsX2_firstSounding_r1 ++ wsX2_firstSounding_r2) ++ wsX20 ++ wsX40)
def wsX2_canSound_r1 : List Cond := [Cond.fieldLink RX2 14 "ZoneSampler$State" "zones" "LZoneSampler$Table;", Cond.methodLink RX2 67 yX4_get, Cond.instanceMethod yX4_get, Cond.selects RX4 yX4_get yX4_get, Cond.initialized RX4, Cond.code yX4_get cX4_get 4 (some .int), Cond.fieldLink RX4 17 "ZoneSampler$Table" "rows" "I", Cond.fieldLink RX4 7 "ZoneSampler$Table" "width" "I", Cond.fieldLink RX4 13 "ZoneSampler$Table" "cells" "[I", Cond.methodLink RX2 82 yX2_sounds, Cond.instanceMethod yX2_sounds, Cond.selects RX2 yX2_sounds yX2_sounds, Cond.initialized RX2, Cond.code yX2_sounds cX2_sounds 8 (some .boolean), Cond.methodLink RX2 78 yX2_matches, Cond.instanceMethod yX2_matches, Cond.selects RX2 yX2_matches yX2_matches, Cond.code yX2_matches cX2_matches 4 (some .boolean), Cond.methodLink RX2 64 yX4_rows, Cond.instanceMethod yX4_rows, Cond.selects RX4 yX4_rows yX4_rows, Cond.code yX4_rows cX4_rows 1 (some .int), Cond.methodLink RX2 45 yX2_number, Cond.instanceMethod yX2_number]
def wsX2_canSound_r2 : List Cond := [Cond.selects RX2 yX2_number yX2_number, Cond.code yX2_number cX2_number 2 (some .int), Cond.fieldLink RX2 23 "ZoneSampler$State" "numbers" "[I"]
def wsX2_canSound : List Cond := .code yX2_canSound cX2_canSound 4 (some .boolean) :: ((wsX2_canSound_r1 ++ wsX2_canSound_r2) ++ wsX20 ++ wsX40)
def wsX2_moveHeld : List Cond := .code yX2_moveHeld cX2_moveHeld 5 (some .int) :: ([.fieldLink RX2 20 "ZoneSampler$State" "voices" "LZoneSampler$Table;", .methodLink RX2 64 yX4_rows, .instanceMethod yX4_rows, .selects RX4 yX4_rows yX4_rows, .initialized RX4, .code yX4_rows cX4_rows 1 (some .int), .fieldLink RX4 17 "ZoneSampler$Table" "rows" "I", .methodLink RX2 67 yX4_get, .instanceMethod yX4_get, .selects RX4 yX4_get yX4_get, .code yX4_get cX4_get 4 (some .int), .fieldLink RX4 7 "ZoneSampler$Table" "width" "I", .fieldLink RX4 13 "ZoneSampler$Table" "cells" "[I", .methodLink RX2 56 yX4_put, .instanceMethod yX4_put, .selects RX4 yX4_put yX4_put, .code yX4_put cX4_put 5 none] ++ wsX20 ++ wsX40)
def wsX2_choke_r1 : List Cond := [Cond.fieldLink RX2 20 "ZoneSampler$State" "voices" "LZoneSampler$Table;", Cond.fieldLink RX2 41 "ZoneSampler$State" "notes" "I", Cond.fieldLink RX2 14 "ZoneSampler$State" "zones" "LZoneSampler$Table;", Cond.methodLink RX2 64 yX4_rows, Cond.instanceMethod yX4_rows, Cond.selects RX4 yX4_rows yX4_rows, Cond.initialized RX4, Cond.code yX4_rows cX4_rows 1 (some .int), Cond.fieldLink RX4 17 "ZoneSampler$Table" "rows" "I", Cond.methodLink RX2 67 yX4_get, Cond.instanceMethod yX4_get, Cond.selects RX4 yX4_get yX4_get, Cond.code yX4_get cX4_get 4 (some .int), Cond.fieldLink RX4 7 "ZoneSampler$Table" "width" "I", Cond.fieldLink RX4 13 "ZoneSampler$Table" "cells" "[I", Cond.methodLink RX2 71 yX4_removeRow, Cond.instanceMethod yX4_removeRow, Cond.selects RX4 yX4_removeRow yX4_removeRow, Cond.code yX4_removeRow cX4_removeRow 3 none, Cond.methodLink RX4 20 yX4_has, Cond.instanceMethod yX4_has, Cond.selects RX4 yX4_has yX4_has, Cond.code yX4_has cX4_has 2 (some .boolean), Cond.methodLink RX2 75 yX2_grow]
def wsX2_choke_r2 : List Cond := [Cond.instanceMethod yX2_grow, Cond.selects RX2 yX2_grow yX2_grow, Cond.initialized RX2, Cond.code yX2_grow cX2_grow 3 none, Cond.methodLink RX2 45 yX2_number, Cond.instanceMethod yX2_number, Cond.selects RX2 yX2_number yX2_number, Cond.code yX2_number cX2_number 2 (some .int), Cond.fieldLink RX2 23 "ZoneSampler$State" "numbers" "[I", Cond.methodLink RX2 49 yX2_putNumber, Cond.instanceMethod yX2_putNumber, Cond.selects RX2 yX2_putNumber yX2_putNumber, Cond.code yX2_putNumber cX2_putNumber 3 none]
def wsX2_choke : List Cond := .code yX2_choke cX2_choke 4 none :: ((wsX2_choke_r1 ++ wsX2_choke_r2) ++ wsX20 ++ wsX40)
def wsX2_stealRank : List Cond := .code yX2_stealRank cX2_stealRank 2 (some .int) :: ([.fieldLink RX2 20 "ZoneSampler$State" "voices" "LZoneSampler$Table;", .methodLink RX2 45 yX2_number, .instanceMethod yX2_number, .selects RX2 yX2_number yX2_number, .initialized RX2, .code yX2_number cX2_number 2 (some .int), .fieldLink RX2 23 "ZoneSampler$State" "numbers" "[I", .methodLink RX2 67 yX4_get, .instanceMethod yX4_get, .selects RX4 yX4_get yX4_get, .initialized RX4, .code yX4_get cX4_get 4 (some .int), .fieldLink RX4 17 "ZoneSampler$Table" "rows" "I", .fieldLink RX4 7 "ZoneSampler$Table" "width" "I", .fieldLink RX4 13 "ZoneSampler$Table" "cells" "[I"] ++ wsX20 ++ wsX40)
def wsX2_stealDownTo_r1 : List Cond := [Cond.fieldLink RX2 20 "ZoneSampler$State" "voices" "LZoneSampler$Table;", Cond.methodLink RX2 64 yX4_rows, Cond.instanceMethod yX4_rows, Cond.selects RX4 yX4_rows yX4_rows, Cond.initialized RX4, Cond.code yX4_rows cX4_rows 1 (some .int), Cond.fieldLink RX4 17 "ZoneSampler$Table" "rows" "I", Cond.methodLink RX2 100 yX2_stealRank, Cond.instanceMethod yX2_stealRank, Cond.selects RX2 yX2_stealRank yX2_stealRank, Cond.initialized RX2, Cond.code yX2_stealRank cX2_stealRank 2 (some .int), Cond.methodLink RX2 45 yX2_number, Cond.instanceMethod yX2_number, Cond.selects RX2 yX2_number yX2_number, Cond.code yX2_number cX2_number 2 (some .int), Cond.fieldLink RX2 23 "ZoneSampler$State" "numbers" "[I", Cond.methodLink RX2 67 yX4_get, Cond.instanceMethod yX4_get, Cond.selects RX4 yX4_get yX4_get, Cond.code yX4_get cX4_get 4 (some .int), Cond.fieldLink RX4 7 "ZoneSampler$Table" "width" "I", Cond.fieldLink RX4 13 "ZoneSampler$Table" "cells" "[I", Cond.methodLink RX2 71 yX4_removeRow]
def wsX2_stealDownTo_r2 : List Cond := [Cond.instanceMethod yX4_removeRow, Cond.selects RX4 yX4_removeRow yX4_removeRow, Cond.code yX4_removeRow cX4_removeRow 3 none, Cond.methodLink RX4 20 yX4_has, Cond.instanceMethod yX4_has, Cond.selects RX4 yX4_has yX4_has, Cond.code yX4_has cX4_has 2 (some .boolean), Cond.methodLink RX2 75 yX2_grow, Cond.instanceMethod yX2_grow, Cond.selects RX2 yX2_grow yX2_grow, Cond.code yX2_grow cX2_grow 3 none, Cond.methodLink RX2 49 yX2_putNumber, Cond.instanceMethod yX2_putNumber, Cond.selects RX2 yX2_putNumber yX2_putNumber, Cond.code yX2_putNumber cX2_putNumber 3 none]
def wsX2_stealDownTo : List Cond := .code yX2_stealDownTo cX2_stealDownTo 5 none :: ((wsX2_stealDownTo_r1 ++ wsX2_stealDownTo_r2) ++ wsX20 ++ wsX40)
def wsX2_begin_r1 : List Cond := [Cond.fieldLink RX2 14 "ZoneSampler$State" "zones" "LZoneSampler$Table;", Cond.fieldLink RX2 20 "ZoneSampler$State" "voices" "LZoneSampler$Table;", Cond.fieldLink RX2 41 "ZoneSampler$State" "notes" "I", Cond.methodLink RX2 67 yX4_get, Cond.instanceMethod yX4_get, Cond.selects RX4 yX4_get yX4_get, Cond.initialized RX4, Cond.code yX4_get cX4_get 4 (some .int), Cond.fieldLink RX4 17 "ZoneSampler$Table" "rows" "I", Cond.fieldLink RX4 7 "ZoneSampler$Table" "width" "I", Cond.fieldLink RX4 13 "ZoneSampler$Table" "cells" "[I", Cond.methodLink RX2 94 yX2_choke, Cond.instanceMethod yX2_choke, Cond.selects RX2 yX2_choke yX2_choke, Cond.initialized RX2, Cond.code yX2_choke cX2_choke 4 none, Cond.methodLink RX2 64 yX4_rows, Cond.instanceMethod yX4_rows, Cond.selects RX4 yX4_rows yX4_rows, Cond.code yX4_rows cX4_rows 1 (some .int), Cond.methodLink RX2 71 yX4_removeRow, Cond.instanceMethod yX4_removeRow, Cond.selects RX4 yX4_removeRow yX4_removeRow, Cond.code yX4_removeRow cX4_removeRow 3 none]
def wsX2_begin_r2 : List Cond := [Cond.methodLink RX4 20 yX4_has, Cond.instanceMethod yX4_has, Cond.selects RX4 yX4_has yX4_has, Cond.code yX4_has cX4_has 2 (some .boolean), Cond.methodLink RX2 75 yX2_grow, Cond.instanceMethod yX2_grow, Cond.selects RX2 yX2_grow yX2_grow, Cond.code yX2_grow cX2_grow 3 none, Cond.methodLink RX2 45 yX2_number, Cond.instanceMethod yX2_number, Cond.selects RX2 yX2_number yX2_number, Cond.code yX2_number cX2_number 2 (some .int), Cond.fieldLink RX2 23 "ZoneSampler$State" "numbers" "[I", Cond.methodLink RX2 49 yX2_putNumber, Cond.instanceMethod yX2_putNumber, Cond.selects RX2 yX2_putNumber yX2_putNumber, Cond.code yX2_putNumber cX2_putNumber 3 none, Cond.methodLink RX2 97 yX2_stealDownTo, Cond.instanceMethod yX2_stealDownTo, Cond.selects RX2 yX2_stealDownTo yX2_stealDownTo, Cond.code yX2_stealDownTo cX2_stealDownTo 5 none, Cond.methodLink RX2 100 yX2_stealRank, Cond.instanceMethod yX2_stealRank, Cond.selects RX2 yX2_stealRank yX2_stealRank]
def wsX2_begin_r3 : List Cond := [Cond.code yX2_stealRank cX2_stealRank 2 (some .int), Cond.methodLink RX2 52 yX4_addRow, Cond.instanceMethod yX4_addRow, Cond.selects RX4 yX4_addRow yX4_addRow, Cond.code yX4_addRow cX4_addRow 1 (some .int), Cond.methodLink RX2 56 yX4_put, Cond.instanceMethod yX4_put, Cond.selects RX4 yX4_put yX4_put, Cond.code yX4_put cX4_put 5 none]
def wsX2_begin : List Cond := .code yX2_begin cX2_begin 5 none :: ((wsX2_begin_r1 ++ (wsX2_begin_r2 ++ wsX2_begin_r3)) ++ wsX20 ++ wsX40)
def wsX2_passTurns_r1 : List Cond := [Cond.fieldLink RX2 14 "ZoneSampler$State" "zones" "LZoneSampler$Table;", Cond.methodLink RX2 64 yX4_rows, Cond.instanceMethod yX4_rows, Cond.selects RX4 yX4_rows yX4_rows, Cond.initialized RX4, Cond.code yX4_rows cX4_rows 1 (some .int), Cond.fieldLink RX4 17 "ZoneSampler$Table" "rows" "I", Cond.methodLink RX2 67 yX4_get, Cond.instanceMethod yX4_get, Cond.selects RX4 yX4_get yX4_get, Cond.code yX4_get cX4_get 4 (some .int), Cond.fieldLink RX4 7 "ZoneSampler$Table" "width" "I", Cond.fieldLink RX4 13 "ZoneSampler$Table" "cells" "[I", Cond.methodLink RX2 78 yX2_matches, Cond.instanceMethod yX2_matches, Cond.selects RX2 yX2_matches yX2_matches, Cond.initialized RX2, Cond.code yX2_matches cX2_matches 4 (some .boolean), Cond.methodLink RX2 75 yX2_grow, Cond.instanceMethod yX2_grow, Cond.selects RX2 yX2_grow yX2_grow, Cond.code yX2_grow cX2_grow 3 none, Cond.methodLink RX2 45 yX2_number, Cond.instanceMethod yX2_number]
def wsX2_passTurns_r2 : List Cond := [Cond.selects RX2 yX2_number yX2_number, Cond.code yX2_number cX2_number 2 (some .int), Cond.fieldLink RX2 23 "ZoneSampler$State" "numbers" "[I", Cond.methodLink RX2 49 yX2_putNumber, Cond.instanceMethod yX2_putNumber, Cond.selects RX2 yX2_putNumber yX2_putNumber, Cond.code yX2_putNumber cX2_putNumber 3 none]
def wsX2_passTurns : List Cond := .code yX2_passTurns cX2_passTurns 6 none :: ((wsX2_passTurns_r1 ++ wsX2_passTurns_r2) ++ wsX20 ++ wsX40)
def wsX2_strike_r1 : List Cond := [Cond.fieldLink RX2 41 "ZoneSampler$State" "notes" "I", Cond.fieldLink RX2 14 "ZoneSampler$State" "zones" "LZoneSampler$Table;", Cond.methodLink RX2 85 yX2_moveHeld, Cond.instanceMethod yX2_moveHeld, Cond.selects RX2 yX2_moveHeld yX2_moveHeld, Cond.initialized RX2, Cond.code yX2_moveHeld cX2_moveHeld 5 (some .int), Cond.fieldLink RX2 20 "ZoneSampler$State" "voices" "LZoneSampler$Table;", Cond.methodLink RX2 64 yX4_rows, Cond.instanceMethod yX4_rows, Cond.selects RX4 yX4_rows yX4_rows, Cond.initialized RX4, Cond.code yX4_rows cX4_rows 1 (some .int), Cond.fieldLink RX4 17 "ZoneSampler$Table" "rows" "I", Cond.methodLink RX2 67 yX4_get, Cond.instanceMethod yX4_get, Cond.selects RX4 yX4_get yX4_get, Cond.code yX4_get cX4_get 4 (some .int), Cond.fieldLink RX4 7 "ZoneSampler$Table" "width" "I", Cond.fieldLink RX4 13 "ZoneSampler$Table" "cells" "[I", Cond.methodLink RX2 56 yX4_put, Cond.instanceMethod yX4_put, Cond.selects RX4 yX4_put yX4_put, Cond.code yX4_put cX4_put 5 none]
def wsX2_strike_r2 : List Cond := [Cond.methodLink RX2 82 yX2_sounds, Cond.instanceMethod yX2_sounds, Cond.selects RX2 yX2_sounds yX2_sounds, Cond.code yX2_sounds cX2_sounds 8 (some .boolean), Cond.methodLink RX2 78 yX2_matches, Cond.instanceMethod yX2_matches, Cond.selects RX2 yX2_matches yX2_matches, Cond.code yX2_matches cX2_matches 4 (some .boolean), Cond.methodLink RX2 45 yX2_number, Cond.instanceMethod yX2_number, Cond.selects RX2 yX2_number yX2_number, Cond.code yX2_number cX2_number 2 (some .int), Cond.fieldLink RX2 23 "ZoneSampler$State" "numbers" "[I", Cond.methodLink RX2 88 yX2_begin, Cond.instanceMethod yX2_begin, Cond.selects RX2 yX2_begin yX2_begin, Cond.code yX2_begin cX2_begin 5 none, Cond.methodLink RX2 94 yX2_choke, Cond.instanceMethod yX2_choke, Cond.selects RX2 yX2_choke yX2_choke, Cond.code yX2_choke cX2_choke 4 none, Cond.methodLink RX2 71 yX4_removeRow, Cond.instanceMethod yX4_removeRow, Cond.selects RX4 yX4_removeRow yX4_removeRow]
def wsX2_strike_r3 : List Cond := [Cond.code yX4_removeRow cX4_removeRow 3 none, Cond.methodLink RX4 20 yX4_has, Cond.instanceMethod yX4_has, Cond.selects RX4 yX4_has yX4_has, Cond.code yX4_has cX4_has 2 (some .boolean), Cond.methodLink RX2 75 yX2_grow, Cond.instanceMethod yX2_grow, Cond.selects RX2 yX2_grow yX2_grow, Cond.code yX2_grow cX2_grow 3 none, Cond.methodLink RX2 49 yX2_putNumber, Cond.instanceMethod yX2_putNumber, Cond.selects RX2 yX2_putNumber yX2_putNumber, Cond.code yX2_putNumber cX2_putNumber 3 none, Cond.methodLink RX2 97 yX2_stealDownTo, Cond.instanceMethod yX2_stealDownTo, Cond.selects RX2 yX2_stealDownTo yX2_stealDownTo, Cond.code yX2_stealDownTo cX2_stealDownTo 5 none, Cond.methodLink RX2 100 yX2_stealRank, Cond.instanceMethod yX2_stealRank, Cond.selects RX2 yX2_stealRank yX2_stealRank, Cond.code yX2_stealRank cX2_stealRank 2 (some .int), Cond.methodLink RX2 52 yX4_addRow, Cond.instanceMethod yX4_addRow, Cond.selects RX4 yX4_addRow yX4_addRow]
def wsX2_strike_r4 : List Cond := [Cond.code yX4_addRow cX4_addRow 1 (some .int), Cond.methodLink RX2 91 yX2_passTurns, Cond.instanceMethod yX2_passTurns, Cond.selects RX2 yX2_passTurns yX2_passTurns, Cond.code yX2_passTurns cX2_passTurns 6 none]
def wsX2_strike : List Cond := .code yX2_strike cX2_strike 5 (some .int) :: ((wsX2_strike_r1 ++ (wsX2_strike_r2 ++ (wsX2_strike_r3 ++ wsX2_strike_r4))) ++ wsX20 ++ wsX40)
def wsX2_stealPlace : List Cond := .code yX2_stealPlace cX2_stealPlace 6 (some .int) :: ([.fieldLink RX2 20 "ZoneSampler$State" "voices" "LZoneSampler$Table;", .methodLink RX2 100 yX2_stealRank, .instanceMethod yX2_stealRank, .selects RX2 yX2_stealRank yX2_stealRank, .initialized RX2, .code yX2_stealRank cX2_stealRank 2 (some .int), .methodLink RX2 45 yX2_number, .instanceMethod yX2_number, .selects RX2 yX2_number yX2_number, .code yX2_number cX2_number 2 (some .int), .fieldLink RX2 23 "ZoneSampler$State" "numbers" "[I", .methodLink RX2 67 yX4_get, .instanceMethod yX4_get, .selects RX4 yX4_get yX4_get, .initialized RX4, .code yX4_get cX4_get 4 (some .int), .fieldLink RX4 17 "ZoneSampler$Table" "rows" "I", .fieldLink RX4 7 "ZoneSampler$Table" "width" "I", .fieldLink RX4 13 "ZoneSampler$Table" "cells" "[I", .methodLink RX2 64 yX4_rows, .instanceMethod yX4_rows, .selects RX4 yX4_rows yX4_rows, .code yX4_rows cX4_rows 1 (some .int)] ++ wsX20 ++ wsX40)
def wsX2_release : List Cond := .code yX2_release cX2_release 2 (some .int) :: ([.fieldLink RX2 37 "ZoneSampler$State" "pedalDown" "Z", .methodLink RX2 85 yX2_moveHeld, .instanceMethod yX2_moveHeld, .selects RX2 yX2_moveHeld yX2_moveHeld, .initialized RX2, .code yX2_moveHeld cX2_moveHeld 5 (some .int), .fieldLink RX2 20 "ZoneSampler$State" "voices" "LZoneSampler$Table;", .methodLink RX2 64 yX4_rows, .instanceMethod yX4_rows, .selects RX4 yX4_rows yX4_rows, .initialized RX4, .code yX4_rows cX4_rows 1 (some .int), .fieldLink RX4 17 "ZoneSampler$Table" "rows" "I", .methodLink RX2 67 yX4_get, .instanceMethod yX4_get, .selects RX4 yX4_get yX4_get, .code yX4_get cX4_get 4 (some .int), .fieldLink RX4 7 "ZoneSampler$Table" "width" "I", .fieldLink RX4 13 "ZoneSampler$Table" "cells" "[I", .methodLink RX2 56 yX4_put, .instanceMethod yX4_put, .selects RX4 yX4_put yX4_put, .code yX4_put cX4_put 5 none] ++ wsX20 ++ wsX40)
def wsX2_tread : List Cond := .code yX2_tread cX2_tread 3 (some .int) :: ([.fieldLink RX2 37 "ZoneSampler$State" "pedalDown" "Z", .fieldLink RX2 20 "ZoneSampler$State" "voices" "LZoneSampler$Table;", .methodLink RX2 64 yX4_rows, .instanceMethod yX4_rows, .selects RX4 yX4_rows yX4_rows, .initialized RX4, .code yX4_rows cX4_rows 1 (some .int), .fieldLink RX4 17 "ZoneSampler$Table" "rows" "I", .methodLink RX2 67 yX4_get, .instanceMethod yX4_get, .selects RX4 yX4_get yX4_get, .code yX4_get cX4_get 4 (some .int), .fieldLink RX4 7 "ZoneSampler$Table" "width" "I", .fieldLink RX4 13 "ZoneSampler$Table" "cells" "[I", .methodLink RX2 56 yX4_put, .instanceMethod yX4_put, .selects RX4 yX4_put yX4_put, .code yX4_put cX4_put 5 none] ++ wsX20 ++ wsX40)
def wsX2_fadeOf : List Cond := .code yX2_fadeOf cX2_fadeOf 2 (some .int) :: ([.fieldLink RX2 20 "ZoneSampler$State" "voices" "LZoneSampler$Table;", .methodLink RX2 67 yX4_get, .instanceMethod yX4_get, .selects RX4 yX4_get yX4_get, .initialized RX4, .code yX4_get cX4_get 4 (some .int), .fieldLink RX4 17 "ZoneSampler$Table" "rows" "I", .fieldLink RX4 7 "ZoneSampler$Table" "width" "I", .fieldLink RX4 13 "ZoneSampler$Table" "cells" "[I", .methodLink RX2 45 yX2_number, .instanceMethod yX2_number, .selects RX2 yX2_number yX2_number, .initialized RX2, .code yX2_number cX2_number 2 (some .int), .fieldLink RX2 23 "ZoneSampler$State" "numbers" "[I"] ++ wsX20 ++ wsX40)
def wsX2_wear_r1 : List Cond := [Cond.fieldLink RX2 20 "ZoneSampler$State" "voices" "LZoneSampler$Table;", Cond.fieldLink RX2 14 "ZoneSampler$State" "zones" "LZoneSampler$Table;", Cond.methodLink RX2 67 yX4_get, Cond.instanceMethod yX4_get, Cond.selects RX4 yX4_get yX4_get, Cond.initialized RX4, Cond.code yX4_get cX4_get 4 (some .int), Cond.fieldLink RX4 17 "ZoneSampler$Table" "rows" "I", Cond.fieldLink RX4 7 "ZoneSampler$Table" "width" "I", Cond.fieldLink RX4 13 "ZoneSampler$Table" "cells" "[I", Cond.methodLink RX2 106 yX2_fadeOf, Cond.instanceMethod yX2_fadeOf, Cond.selects RX2 yX2_fadeOf yX2_fadeOf, Cond.initialized RX2, Cond.code yX2_fadeOf cX2_fadeOf 2 (some .int), Cond.methodLink RX2 45 yX2_number, Cond.instanceMethod yX2_number, Cond.selects RX2 yX2_number yX2_number, Cond.code yX2_number cX2_number 2 (some .int), Cond.fieldLink RX2 23 "ZoneSampler$State" "numbers" "[I", Cond.methodLink RX2 56 yX4_put, Cond.instanceMethod yX4_put, Cond.selects RX4 yX4_put yX4_put, Cond.code yX4_put cX4_put 5 none]
def wsX2_wear_r2 : List Cond := [Cond.methodLink RX2 71 yX4_removeRow, Cond.instanceMethod yX4_removeRow, Cond.selects RX4 yX4_removeRow yX4_removeRow, Cond.code yX4_removeRow cX4_removeRow 3 none, Cond.methodLink RX4 20 yX4_has, Cond.instanceMethod yX4_has, Cond.selects RX4 yX4_has yX4_has, Cond.code yX4_has cX4_has 2 (some .boolean), Cond.methodLink RX2 75 yX2_grow, Cond.instanceMethod yX2_grow, Cond.selects RX2 yX2_grow yX2_grow, Cond.code yX2_grow cX2_grow 3 none, Cond.methodLink RX2 49 yX2_putNumber, Cond.instanceMethod yX2_putNumber, Cond.selects RX2 yX2_putNumber yX2_putNumber, Cond.code yX2_putNumber cX2_putNumber 3 none]
def wsX2_wear : List Cond := .code yX2_wear cX2_wear 4 none :: ((wsX2_wear_r1 ++ wsX2_wear_r2) ++ wsX20 ++ wsX40)
def wsX2_runTicks_r1 : List Cond := [Cond.fieldLink RX2 20 "ZoneSampler$State" "voices" "LZoneSampler$Table;", Cond.methodLink RX2 45 yX2_number, Cond.instanceMethod yX2_number, Cond.selects RX2 yX2_number yX2_number, Cond.initialized RX2, Cond.code yX2_number cX2_number 2 (some .int), Cond.fieldLink RX2 23 "ZoneSampler$State" "numbers" "[I", Cond.methodLink RX2 64 yX4_rows, Cond.instanceMethod yX4_rows, Cond.selects RX4 yX4_rows yX4_rows, Cond.initialized RX4, Cond.code yX4_rows cX4_rows 1 (some .int), Cond.fieldLink RX4 17 "ZoneSampler$Table" "rows" "I", Cond.methodLink RX2 103 yX2_wear, Cond.instanceMethod yX2_wear, Cond.selects RX2 yX2_wear yX2_wear, Cond.code yX2_wear cX2_wear 4 none, Cond.fieldLink RX2 14 "ZoneSampler$State" "zones" "LZoneSampler$Table;", Cond.methodLink RX2 67 yX4_get, Cond.instanceMethod yX4_get, Cond.selects RX4 yX4_get yX4_get, Cond.code yX4_get cX4_get 4 (some .int), Cond.fieldLink RX4 7 "ZoneSampler$Table" "width" "I", Cond.fieldLink RX4 13 "ZoneSampler$Table" "cells" "[I"]
def wsX2_runTicks_r2 : List Cond := [Cond.methodLink RX2 106 yX2_fadeOf, Cond.instanceMethod yX2_fadeOf, Cond.selects RX2 yX2_fadeOf yX2_fadeOf, Cond.code yX2_fadeOf cX2_fadeOf 2 (some .int), Cond.methodLink RX2 56 yX4_put, Cond.instanceMethod yX4_put, Cond.selects RX4 yX4_put yX4_put, Cond.code yX4_put cX4_put 5 none, Cond.methodLink RX2 71 yX4_removeRow, Cond.instanceMethod yX4_removeRow, Cond.selects RX4 yX4_removeRow yX4_removeRow, Cond.code yX4_removeRow cX4_removeRow 3 none, Cond.methodLink RX4 20 yX4_has, Cond.instanceMethod yX4_has, Cond.selects RX4 yX4_has yX4_has, Cond.code yX4_has cX4_has 2 (some .boolean), Cond.methodLink RX2 75 yX2_grow, Cond.instanceMethod yX2_grow, Cond.selects RX2 yX2_grow yX2_grow, Cond.code yX2_grow cX2_grow 3 none, Cond.methodLink RX2 49 yX2_putNumber, Cond.instanceMethod yX2_putNumber, Cond.selects RX2 yX2_putNumber yX2_putNumber, Cond.code yX2_putNumber cX2_putNumber 3 none]
def wsX2_runTicks : List Cond := .code yX2_runTicks cX2_runTicks 5 (some .int) :: ((wsX2_runTicks_r1 ++ wsX2_runTicks_r2) ++ wsX20 ++ wsX40)
def wsX2_ticksLeft_r1 : List Cond := [Cond.methodLink RX2 109 Lib.Math.max.name, Cond.static Lib.Math.max.name, Cond.initialized "java/lang/Math", Cond.code Lib.Math.max.name Lib.Math.max.code 2 (some .int), Cond.fieldLink RX2 20 "ZoneSampler$State" "voices" "LZoneSampler$Table;", Cond.fieldLink RX2 14 "ZoneSampler$State" "zones" "LZoneSampler$Table;", Cond.methodLink RX2 114 Lib.Math.min.name, Cond.static Lib.Math.min.name, Cond.code Lib.Math.min.name Lib.Math.min.code 2 (some .int), Cond.methodLink RX2 106 yX2_fadeOf, Cond.instanceMethod yX2_fadeOf, Cond.selects RX2 yX2_fadeOf yX2_fadeOf, Cond.initialized RX2, Cond.code yX2_fadeOf cX2_fadeOf 2 (some .int), Cond.methodLink RX2 67 yX4_get, Cond.instanceMethod yX4_get, Cond.selects RX4 yX4_get yX4_get, Cond.initialized RX4, Cond.code yX4_get cX4_get 4 (some .int), Cond.fieldLink RX4 17 "ZoneSampler$Table" "rows" "I", Cond.fieldLink RX4 7 "ZoneSampler$Table" "width" "I", Cond.fieldLink RX4 13 "ZoneSampler$Table" "cells" "[I", Cond.methodLink RX2 45 yX2_number, Cond.instanceMethod yX2_number]
def wsX2_ticksLeft_r2 : List Cond := [Cond.selects RX2 yX2_number yX2_number, Cond.code yX2_number cX2_number 2 (some .int), Cond.fieldLink RX2 23 "ZoneSampler$State" "numbers" "[I"]
def wsX2_ticksLeft : List Cond := .code yX2_ticksLeft cX2_ticksLeft 5 (some .int) :: ((wsX2_ticksLeft_r1 ++ wsX2_ticksLeft_r2) ++ wsX20 ++ wsX40)
def wsX4_removeAll : List Cond := .code yX4_removeAll cX4_removeAll 1 none :: ([.fieldLink RX4 17 "ZoneSampler$Table" "rows" "I"] ++ wsX40)
def wsX2_stopAll_r1 : List Cond := [Cond.fieldLink RX2 20 "ZoneSampler$State" "voices" "LZoneSampler$Table;", Cond.methodLink RX2 64 yX4_rows, Cond.instanceMethod yX4_rows, Cond.selects RX4 yX4_rows yX4_rows, Cond.initialized RX4, Cond.code yX4_rows cX4_rows 1 (some .int), Cond.fieldLink RX4 17 "ZoneSampler$Table" "rows" "I", Cond.methodLink RX2 117 yX4_removeAll, Cond.instanceMethod yX4_removeAll, Cond.selects RX4 yX4_removeAll yX4_removeAll, Cond.code yX4_removeAll cX4_removeAll 1 none, Cond.methodLink RX2 75 yX2_grow, Cond.instanceMethod yX2_grow, Cond.selects RX2 yX2_grow yX2_grow, Cond.initialized RX2, Cond.code yX2_grow cX2_grow 3 none, Cond.methodLink RX2 45 yX2_number, Cond.instanceMethod yX2_number, Cond.selects RX2 yX2_number yX2_number, Cond.code yX2_number cX2_number 2 (some .int), Cond.fieldLink RX2 23 "ZoneSampler$State" "numbers" "[I", Cond.methodLink RX2 49 yX2_putNumber, Cond.instanceMethod yX2_putNumber, Cond.selects RX2 yX2_putNumber yX2_putNumber]
def wsX2_stopAll_r2 : List Cond := [Cond.code yX2_putNumber cX2_putNumber 3 none]
def wsX2_stopAll : List Cond := .code yX2_stopAll cX2_stopAll 2 (some .int) :: ((wsX2_stopAll_r1 ++ wsX2_stopAll_r2) ++ wsX20 ++ wsX40)
def wsX3_init : List Cond := .code yX3_init cX3_init 1 none :: ([.methodLink RX3 3 objectInit, .instanceMethod objectInit, .code objectInit ⟨#[0xb1]⟩ 1 none, .arrayClass .int, .fieldLink RX3 9 "ZoneSampler$Survey" "depths" "[I"] ++ wsX30)
def wsX3_finding : List Cond := .code yX3_finding cX3_finding 2 (some .int) :: ([.fieldLink RX3 15 "ZoneSampler$Survey" "holes" "I", .fieldLink RX3 19 "ZoneSampler$Survey" "overlaps" "I", .fieldLink RX3 22 "ZoneSampler$Survey" "deepest" "I", .fieldLink RX3 25 "ZoneSampler$Survey" "firstHole" "I"] ++ wsX30)
def wsX3_start : List Cond := .code yX3_start cX3_start 2 none :: ([.fieldLink RX3 9 "ZoneSampler$Survey" "depths" "[I", .fieldLink RX3 15 "ZoneSampler$Survey" "holes" "I", .fieldLink RX3 19 "ZoneSampler$Survey" "overlaps" "I", .fieldLink RX3 22 "ZoneSampler$Survey" "deepest" "I", .fieldLink RX3 25 "ZoneSampler$Survey" "firstHole" "I"] ++ wsX30)
def wsX3_see : List Cond := .code yX3_see cX3_see 3 none :: ([.fieldLink RX3 15 "ZoneSampler$Survey" "holes" "I", .fieldLink RX3 25 "ZoneSampler$Survey" "firstHole" "I", .fieldLink RX3 19 "ZoneSampler$Survey" "overlaps" "I", .fieldLink RX3 22 "ZoneSampler$Survey" "deepest" "I", .methodLink RX3 58 Lib.Math.max.name, .static Lib.Math.max.name, .initialized "java/lang/Math", .code Lib.Math.max.name Lib.Math.max.code 2 (some .int)] ++ wsX30)
def wsX3_goByPlaces_r1 : List Cond := [Cond.methodLink RX3 28 yX3_start, Cond.instanceMethod yX3_start, Cond.selects RX3 yX3_start yX3_start, Cond.initialized RX3, Cond.code yX3_start cX3_start 2 none, Cond.fieldLink RX3 9 "ZoneSampler$Survey" "depths" "[I", Cond.fieldLink RX3 15 "ZoneSampler$Survey" "holes" "I", Cond.fieldLink RX3 19 "ZoneSampler$Survey" "overlaps" "I", Cond.fieldLink RX3 22 "ZoneSampler$Survey" "deepest" "I", Cond.fieldLink RX3 25 "ZoneSampler$Survey" "firstHole" "I", Cond.methodLink RX3 31 yX2_matching, Cond.instanceMethod yX2_matching, Cond.selects RX2 yX2_matching yX2_matching, Cond.initialized RX2, Cond.code yX2_matching cX2_matching 5 (some .int), Cond.fieldLink RX2 14 "ZoneSampler$State" "zones" "LZoneSampler$Table;", Cond.methodLink RX2 64 yX4_rows, Cond.instanceMethod yX4_rows, Cond.selects RX4 yX4_rows yX4_rows, Cond.initialized RX4, Cond.code yX4_rows cX4_rows 1 (some .int), Cond.fieldLink RX4 17 "ZoneSampler$Table" "rows" "I", Cond.methodLink RX2 78 yX2_matches, Cond.instanceMethod yX2_matches]
def wsX3_goByPlaces_r2 : List Cond := [Cond.selects RX2 yX2_matches yX2_matches, Cond.code yX2_matches cX2_matches 4 (some .boolean), Cond.methodLink RX2 67 yX4_get, Cond.instanceMethod yX4_get, Cond.selects RX4 yX4_get yX4_get, Cond.code yX4_get cX4_get 4 (some .int), Cond.fieldLink RX4 7 "ZoneSampler$Table" "width" "I", Cond.fieldLink RX4 13 "ZoneSampler$Table" "cells" "[I", Cond.methodLink RX3 37 yX3_see, Cond.instanceMethod yX3_see, Cond.selects RX3 yX3_see yX3_see, Cond.code yX3_see cX3_see 3 none, Cond.methodLink RX3 58 Lib.Math.max.name, Cond.static Lib.Math.max.name, Cond.initialized "java/lang/Math", Cond.code Lib.Math.max.name Lib.Math.max.code 2 (some .int)]
def wsX3_goByPlaces : List Cond := .code yX3_goByPlaces cX3_goByPlaces 4 none :: ((wsX3_goByPlaces_r1 ++ wsX3_goByPlaces_r2) ++ wsX30 ++ wsX20 ++ wsX40)
def wsX3_deepen : List Cond := .code yX3_deepen cX3_deepen 5 none :: ([.fieldLink RX3 9 "ZoneSampler$Survey" "depths" "[I", .methodLink RX3 51 yX4_get, .instanceMethod yX4_get, .selects RX4 yX4_get yX4_get, .initialized RX4, .code yX4_get cX4_get 4 (some .int), .fieldLink RX4 17 "ZoneSampler$Table" "rows" "I", .fieldLink RX4 7 "ZoneSampler$Table" "width" "I", .fieldLink RX4 13 "ZoneSampler$Table" "cells" "[I"] ++ wsX30 ++ wsX40)
def wsX3_goByEdges_r1 : List Cond := [Cond.fieldLink RX3 9 "ZoneSampler$Survey" "depths" "[I", Cond.methodLink RX3 28 yX3_start, Cond.instanceMethod yX3_start, Cond.selects RX3 yX3_start yX3_start, Cond.initialized RX3, Cond.code yX3_start cX3_start 2 none, Cond.fieldLink RX3 15 "ZoneSampler$Survey" "holes" "I", Cond.fieldLink RX3 19 "ZoneSampler$Survey" "overlaps" "I", Cond.fieldLink RX3 22 "ZoneSampler$Survey" "deepest" "I", Cond.fieldLink RX3 25 "ZoneSampler$Survey" "firstHole" "I", Cond.methodLink RX3 45 yX4_rows, Cond.instanceMethod yX4_rows, Cond.selects RX4 yX4_rows yX4_rows, Cond.initialized RX4, Cond.code yX4_rows cX4_rows 1 (some .int), Cond.fieldLink RX4 17 "ZoneSampler$Table" "rows" "I", Cond.methodLink RX3 51 yX4_get, Cond.instanceMethod yX4_get, Cond.selects RX4 yX4_get yX4_get, Cond.code yX4_get cX4_get 4 (some .int), Cond.fieldLink RX4 7 "ZoneSampler$Table" "width" "I", Cond.fieldLink RX4 13 "ZoneSampler$Table" "cells" "[I", Cond.methodLink RX3 54 yX3_deepen, Cond.instanceMethod yX3_deepen]
def wsX3_goByEdges_r2 : List Cond := [Cond.selects RX3 yX3_deepen yX3_deepen, Cond.code yX3_deepen cX3_deepen 5 none, Cond.methodLink RX3 37 yX3_see, Cond.instanceMethod yX3_see, Cond.selects RX3 yX3_see yX3_see, Cond.code yX3_see cX3_see 3 none, Cond.methodLink RX3 58 Lib.Math.max.name, Cond.static Lib.Math.max.name, Cond.initialized "java/lang/Math", Cond.code Lib.Math.max.name Lib.Math.max.code 2 (some .int)]
def wsX3_goByEdges : List Cond := .code yX3_goByEdges cX3_goByEdges 4 none :: ((wsX3_goByEdges_r1 ++ wsX3_goByEdges_r2) ++ wsX20 ++ wsX30 ++ wsX40)
def wsX4_rowsWith : List Cond := .code yX4_rowsWith cX4_rowsWith 5 (some .int) :: ([.fieldLink RX4 17 "ZoneSampler$Table" "rows" "I", .methodLink RX4 24 yX4_get, .instanceMethod yX4_get, .selects RX4 yX4_get yX4_get, .initialized RX4, .code yX4_get cX4_get 4 (some .int), .fieldLink RX4 7 "ZoneSampler$Table" "width" "I", .fieldLink RX4 13 "ZoneSampler$Table" "cells" "[I"] ++ wsX40)
def wsX4_sumOf : List Cond := .code yX4_sumOf cX4_sumOf 4 (some .int) :: ([.fieldLink RX4 17 "ZoneSampler$Table" "rows" "I", .methodLink RX4 24 yX4_get, .instanceMethod yX4_get, .selects RX4 yX4_get yX4_get, .initialized RX4, .code yX4_get cX4_get 4 (some .int), .fieldLink RX4 7 "ZoneSampler$Table" "width" "I", .fieldLink RX4 13 "ZoneSampler$Table" "cells" "[I"] ++ wsX40)
def wsX5_init_r1 : List Cond := [Cond.methodLink RX5 1 objectInit, Cond.instanceMethod objectInit, Cond.code objectInit ⟨#[0xb1]⟩ 1 none, Cond.classLink RX5 7 RX2, Cond.instantiable RX2 5, Cond.initialized RX2, Cond.fieldLink RX5 10 "ZoneSampler" "now" "LZoneSampler$State;", Cond.fieldLink RX5 16 "ZoneSampler" "trial" "LZoneSampler$State;", Cond.fieldLink RX5 19 "ZoneSampler" "snapshot" "LZoneSampler$State;", Cond.classLink RX5 22 RX0, Cond.instantiable RX0 5, Cond.initialized RX0, Cond.fieldLink RX5 25 "ZoneSampler" "history" "LZoneSampler$History;", Cond.classLink RX5 29 RX1, Cond.instantiable RX1 14, Cond.initialized RX1, Cond.fieldLink RX5 32 "ZoneSampler" "pad" "LZoneSampler$Pad;", Cond.classLink RX5 36 RX3, Cond.instantiable RX3 5, Cond.initialized RX3, Cond.fieldLink RX5 39 "ZoneSampler" "survey" "LZoneSampler$Survey;", Cond.methodLink RX5 9 yX2_init, Cond.instanceMethod yX2_init, Cond.code yX2_init cX2_init 1 none]
def wsX5_init_r2 : List Cond := [Cond.methodLink RX2 3 objectInit, Cond.classLink RX2 9 RX4, Cond.instantiable RX4 3, Cond.initialized RX4, Cond.fieldLink RX2 14 "ZoneSampler$State" "zones" "LZoneSampler$Table;", Cond.fieldLink RX2 20 "ZoneSampler$State" "voices" "LZoneSampler$Table;", Cond.arrayClass .int, Cond.fieldLink RX2 23 "ZoneSampler$State" "numbers" "[I", Cond.methodLink RX2 11 yX4_init, Cond.instanceMethod yX4_init, Cond.code yX4_init cX4_init 3 none, Cond.methodLink RX4 1 objectInit, Cond.fieldLink RX4 7 "ZoneSampler$Table" "width" "I", Cond.fieldLink RX4 13 "ZoneSampler$Table" "cells" "[I", Cond.instanceMethod yX0_init, Cond.code yX0_init cX0_init 1 none, Cond.methodLink RX0 3 objectInit, Cond.classLink RX0 9 RX2, Cond.fieldLink RX0 12 "ZoneSampler$History" "first" "LZoneSampler$State;", Cond.fieldLink RX0 18 "ZoneSampler$History" "second" "LZoneSampler$State;", Cond.fieldLink RX0 21 "ZoneSampler$History" "third" "LZoneSampler$State;", Cond.fieldLink RX0 24 "ZoneSampler$History" "fourth" "LZoneSampler$State;", Cond.methodLink RX0 11 yX2_init, Cond.instanceMethod yX1_init]
def wsX5_init_r3 : List Cond := [Cond.code yX1_init cX1_init 1 none, Cond.methodLink RX1 3 objectInit, Cond.arrayClass .char, Cond.fieldLink RX1 9 "ZoneSampler$Pad" "signs" "[C", Cond.instanceMethod yX3_init, Cond.code yX3_init cX3_init 1 none, Cond.methodLink RX3 3 objectInit, Cond.fieldLink RX3 9 "ZoneSampler$Survey" "depths" "[I"]
def wsX5_init : List Cond := .code yX5_init cX5_init 1 none :: ((wsX5_init_r1 ++ (wsX5_init_r2 ++ wsX5_init_r3)) ++ wsX20 ++ wsX50 ++ wsX00 ++ wsX10 ++ wsX30 ++ wsX40)
def wsX5_within : List Cond := .code yX5_within cX5_within 3 (some .boolean) :: ([])
def wsX5_zone_r1 : List Cond := [Cond.fieldLink RX5 10 "ZoneSampler" "now" "LZoneSampler$State;", Cond.fieldLink RX5 25 "ZoneSampler" "history" "LZoneSampler$History;", Cond.methodLink RX5 43 yX5_within, Cond.static yX5_within, Cond.initialized RX5, Cond.code yX5_within cX5_within 3 (some .boolean), Cond.methodLink RX5 51 yX4_rows, Cond.instanceMethod yX4_rows, Cond.selects RX4 yX4_rows yX4_rows, Cond.initialized RX4, Cond.code yX4_rows cX4_rows 1 (some .int), Cond.fieldLink RX4 17 "ZoneSampler$Table" "rows" "I", Cond.methodLink RX5 57 yX0_record, Cond.instanceMethod yX0_record, Cond.selects RX0 yX0_record yX0_record, Cond.initialized RX0, Cond.code yX0_record cX0_record 3 none, Cond.fieldLink RX0 27 "ZoneSampler$History" "kept" "I", Cond.fieldLink RX0 12 "ZoneSampler$History" "first" "LZoneSampler$State;", Cond.fieldLink RX0 18 "ZoneSampler$History" "second" "LZoneSampler$State;", Cond.fieldLink RX0 21 "ZoneSampler$History" "third" "LZoneSampler$State;", Cond.fieldLink RX0 24 "ZoneSampler$History" "fourth" "LZoneSampler$State;", Cond.methodLink RX0 31 yX0_stateAt, Cond.instanceMethod yX0_stateAt]
def wsX5_zone_r2 : List Cond := [Cond.selects RX0 yX0_stateAt yX0_stateAt, Cond.code yX0_stateAt cX0_stateAt 2 (some (.object "ZoneSampler$State")), Cond.methodLink RX0 35 yX2_copyFrom, Cond.instanceMethod yX2_copyFrom, Cond.selects RX2 yX2_copyFrom yX2_copyFrom, Cond.initialized RX2, Cond.code yX2_copyFrom cX2_copyFrom 2 none, Cond.fieldLink RX2 14 "ZoneSampler$State" "zones" "LZoneSampler$Table;", Cond.fieldLink RX2 20 "ZoneSampler$State" "voices" "LZoneSampler$Table;", Cond.fieldLink RX2 23 "ZoneSampler$State" "numbers" "[I", Cond.methodLink RX2 31 arraycopyName, Cond.native arraycopyName, Cond.static arraycopyName, Cond.initialized "java/lang/System", Cond.fieldLink RX2 37 "ZoneSampler$State" "pedalDown" "Z", Cond.fieldLink RX2 41 "ZoneSampler$State" "notes" "I", Cond.methodLink RX2 27 yX4_copyFrom, Cond.instanceMethod yX4_copyFrom, Cond.selects RX4 yX4_copyFrom yX4_copyFrom, Cond.code yX4_copyFrom cX4_copyFrom 2 none, Cond.fieldLink RX4 13 "ZoneSampler$Table" "cells" "[I", Cond.methodLink RX4 28 Lib.Math.min.name, Cond.static Lib.Math.min.name, Cond.initialized "java/lang/Math"]
def wsX5_zone_r3 : List Cond := [Cond.code Lib.Math.min.name Lib.Math.min.code 2 (some .int), Cond.methodLink RX4 33 arraycopyName, Cond.methodLink RX5 61 yX2_addZone, Cond.instanceMethod yX2_addZone, Cond.selects RX2 yX2_addZone yX2_addZone, Cond.code yX2_addZone cX2_addZone 6 (some .int), Cond.methodLink RX2 52 yX4_addRow, Cond.instanceMethod yX4_addRow, Cond.selects RX4 yX4_addRow yX4_addRow, Cond.code yX4_addRow cX4_addRow 1 (some .int), Cond.fieldLink RX4 7 "ZoneSampler$Table" "width" "I", Cond.methodLink RX2 56 yX4_put, Cond.instanceMethod yX4_put, Cond.selects RX4 yX4_put yX4_put, Cond.code yX4_put cX4_put 5 none, Cond.methodLink RX2 60 yX2_shapeZone, Cond.instanceMethod yX2_shapeZone, Cond.selects RX2 yX2_shapeZone yX2_shapeZone, Cond.code yX2_shapeZone cX2_shapeZone 5 none]
def wsX5_zone : List Cond := .code yX5_zone cX5_zone 5 (some .int) :: ((wsX5_zone_r1 ++ (wsX5_zone_r2 ++ wsX5_zone_r3)) ++ wsX50 ++ wsX20 ++ wsX40 ++ wsX00)
def wsX5_like_r1 : List Cond := [Cond.fieldLink RX5 10 "ZoneSampler" "now" "LZoneSampler$State;", Cond.fieldLink RX5 25 "ZoneSampler" "history" "LZoneSampler$History;", Cond.methodLink RX5 65 yX4_has, Cond.instanceMethod yX4_has, Cond.selects RX4 yX4_has yX4_has, Cond.initialized RX4, Cond.code yX4_has cX4_has 2 (some .boolean), Cond.fieldLink RX4 17 "ZoneSampler$Table" "rows" "I", Cond.methodLink RX5 43 yX5_within, Cond.static yX5_within, Cond.initialized RX5, Cond.code yX5_within cX5_within 3 (some .boolean), Cond.methodLink RX5 57 yX0_record, Cond.instanceMethod yX0_record, Cond.selects RX0 yX0_record yX0_record, Cond.initialized RX0, Cond.code yX0_record cX0_record 3 none, Cond.fieldLink RX0 27 "ZoneSampler$History" "kept" "I", Cond.fieldLink RX0 12 "ZoneSampler$History" "first" "LZoneSampler$State;", Cond.fieldLink RX0 18 "ZoneSampler$History" "second" "LZoneSampler$State;", Cond.fieldLink RX0 21 "ZoneSampler$History" "third" "LZoneSampler$State;", Cond.fieldLink RX0 24 "ZoneSampler$History" "fourth" "LZoneSampler$State;", Cond.methodLink RX0 31 yX0_stateAt, Cond.instanceMethod yX0_stateAt]
def wsX5_like_r2 : List Cond := [Cond.selects RX0 yX0_stateAt yX0_stateAt, Cond.code yX0_stateAt cX0_stateAt 2 (some (.object "ZoneSampler$State")), Cond.methodLink RX0 35 yX2_copyFrom, Cond.instanceMethod yX2_copyFrom, Cond.selects RX2 yX2_copyFrom yX2_copyFrom, Cond.initialized RX2, Cond.code yX2_copyFrom cX2_copyFrom 2 none, Cond.fieldLink RX2 14 "ZoneSampler$State" "zones" "LZoneSampler$Table;", Cond.fieldLink RX2 20 "ZoneSampler$State" "voices" "LZoneSampler$Table;", Cond.fieldLink RX2 23 "ZoneSampler$State" "numbers" "[I", Cond.methodLink RX2 31 arraycopyName, Cond.native arraycopyName, Cond.static arraycopyName, Cond.initialized "java/lang/System", Cond.fieldLink RX2 37 "ZoneSampler$State" "pedalDown" "Z", Cond.fieldLink RX2 41 "ZoneSampler$State" "notes" "I", Cond.methodLink RX2 27 yX4_copyFrom, Cond.instanceMethod yX4_copyFrom, Cond.selects RX4 yX4_copyFrom yX4_copyFrom, Cond.code yX4_copyFrom cX4_copyFrom 2 none, Cond.fieldLink RX4 13 "ZoneSampler$Table" "cells" "[I", Cond.methodLink RX4 28 Lib.Math.min.name, Cond.static Lib.Math.min.name, Cond.initialized "java/lang/Math"]
def wsX5_like_r3 : List Cond := [Cond.code Lib.Math.min.name Lib.Math.min.code 2 (some .int), Cond.methodLink RX4 33 arraycopyName, Cond.methodLink RX5 69 yX2_shapeZone, Cond.instanceMethod yX2_shapeZone, Cond.selects RX2 yX2_shapeZone yX2_shapeZone, Cond.code yX2_shapeZone cX2_shapeZone 5 none, Cond.methodLink RX2 56 yX4_put, Cond.instanceMethod yX4_put, Cond.selects RX4 yX4_put yX4_put, Cond.code yX4_put cX4_put 5 none, Cond.fieldLink RX4 7 "ZoneSampler$Table" "width" "I", Cond.methodLink RX5 73 yX4_rowsWith, Cond.instanceMethod yX4_rowsWith, Cond.selects RX4 yX4_rowsWith yX4_rowsWith, Cond.code yX4_rowsWith cX4_rowsWith 5 (some .int), Cond.methodLink RX4 24 yX4_get, Cond.instanceMethod yX4_get, Cond.selects RX4 yX4_get yX4_get, Cond.code yX4_get cX4_get 4 (some .int)]
def wsX5_like : List Cond := .code yX5_like cX5_like 5 (some .int) :: ((wsX5_like_r1 ++ (wsX5_like_r2 ++ wsX5_like_r3)) ++ wsX50 ++ wsX20 ++ wsX40 ++ wsX00)
def wsX5_takeZone_r1 : List Cond := [Cond.fieldLink RX5 10 "ZoneSampler" "now" "LZoneSampler$State;", Cond.fieldLink RX5 25 "ZoneSampler" "history" "LZoneSampler$History;", Cond.methodLink RX5 65 yX4_has, Cond.instanceMethod yX4_has, Cond.selects RX4 yX4_has yX4_has, Cond.initialized RX4, Cond.code yX4_has cX4_has 2 (some .boolean), Cond.fieldLink RX4 17 "ZoneSampler$Table" "rows" "I", Cond.methodLink RX5 57 yX0_record, Cond.instanceMethod yX0_record, Cond.selects RX0 yX0_record yX0_record, Cond.initialized RX0, Cond.code yX0_record cX0_record 3 none, Cond.fieldLink RX0 27 "ZoneSampler$History" "kept" "I", Cond.fieldLink RX0 12 "ZoneSampler$History" "first" "LZoneSampler$State;", Cond.fieldLink RX0 18 "ZoneSampler$History" "second" "LZoneSampler$State;", Cond.fieldLink RX0 21 "ZoneSampler$History" "third" "LZoneSampler$State;", Cond.fieldLink RX0 24 "ZoneSampler$History" "fourth" "LZoneSampler$State;", Cond.methodLink RX0 31 yX0_stateAt, Cond.instanceMethod yX0_stateAt, Cond.selects RX0 yX0_stateAt yX0_stateAt, Cond.code yX0_stateAt cX0_stateAt 2 (some (.object "ZoneSampler$State")), Cond.methodLink RX0 35 yX2_copyFrom, Cond.instanceMethod yX2_copyFrom]
def wsX5_takeZone_r2 : List Cond := [Cond.selects RX2 yX2_copyFrom yX2_copyFrom, Cond.initialized RX2, Cond.code yX2_copyFrom cX2_copyFrom 2 none, Cond.fieldLink RX2 14 "ZoneSampler$State" "zones" "LZoneSampler$Table;", Cond.fieldLink RX2 20 "ZoneSampler$State" "voices" "LZoneSampler$Table;", Cond.fieldLink RX2 23 "ZoneSampler$State" "numbers" "[I", Cond.methodLink RX2 31 arraycopyName, Cond.native arraycopyName, Cond.static arraycopyName, Cond.initialized "java/lang/System", Cond.fieldLink RX2 37 "ZoneSampler$State" "pedalDown" "Z", Cond.fieldLink RX2 41 "ZoneSampler$State" "notes" "I", Cond.methodLink RX2 27 yX4_copyFrom, Cond.instanceMethod yX4_copyFrom, Cond.selects RX4 yX4_copyFrom yX4_copyFrom, Cond.code yX4_copyFrom cX4_copyFrom 2 none, Cond.fieldLink RX4 13 "ZoneSampler$Table" "cells" "[I", Cond.methodLink RX4 28 Lib.Math.min.name, Cond.static Lib.Math.min.name, Cond.initialized "java/lang/Math", Cond.code Lib.Math.min.name Lib.Math.min.code 2 (some .int), Cond.methodLink RX4 33 arraycopyName, Cond.methodLink RX5 77 yX2_dropZone, Cond.instanceMethod yX2_dropZone]
def wsX5_takeZone_r3 : List Cond := [Cond.selects RX2 yX2_dropZone yX2_dropZone, Cond.code yX2_dropZone cX2_dropZone 5 (some .int), Cond.methodLink RX2 64 yX4_rows, Cond.instanceMethod yX4_rows, Cond.selects RX4 yX4_rows yX4_rows, Cond.code yX4_rows cX4_rows 1 (some .int), Cond.methodLink RX2 67 yX4_get, Cond.instanceMethod yX4_get, Cond.selects RX4 yX4_get yX4_get, Cond.code yX4_get cX4_get 4 (some .int), Cond.fieldLink RX4 7 "ZoneSampler$Table" "width" "I", Cond.methodLink RX2 71 yX4_removeRow, Cond.instanceMethod yX4_removeRow, Cond.selects RX4 yX4_removeRow yX4_removeRow, Cond.code yX4_removeRow cX4_removeRow 3 none, Cond.methodLink RX4 20 yX4_has, Cond.methodLink RX2 56 yX4_put, Cond.instanceMethod yX4_put, Cond.selects RX4 yX4_put yX4_put, Cond.code yX4_put cX4_put 5 none, Cond.methodLink RX2 75 yX2_grow, Cond.instanceMethod yX2_grow, Cond.selects RX2 yX2_grow yX2_grow, Cond.code yX2_grow cX2_grow 3 none]
def wsX5_takeZone_r4 : List Cond := [Cond.methodLink RX2 45 yX2_number, Cond.instanceMethod yX2_number, Cond.selects RX2 yX2_number yX2_number, Cond.code yX2_number cX2_number 2 (some .int), Cond.methodLink RX2 49 yX2_putNumber, Cond.instanceMethod yX2_putNumber, Cond.selects RX2 yX2_putNumber yX2_putNumber, Cond.code yX2_putNumber cX2_putNumber 3 none]
def wsX5_takeZone : List Cond := .code yX5_takeZone cX5_takeZone 2 (some .int) :: ((wsX5_takeZone_r1 ++ (wsX5_takeZone_r2 ++ (wsX5_takeZone_r3 ++ wsX5_takeZone_r4))) ++ wsX50 ++ wsX20 ++ wsX40 ++ wsX00)
def wsX5_isNote : List Cond := .code yX5_isNote cX5_isNote 2 (some .boolean) :: ([.methodLink RX5 43 yX5_within, .static yX5_within, .initialized RX5, .code yX5_within cX5_within 3 (some .boolean)])
def wsX5_hit_r1 : List Cond := [Cond.fieldLink RX5 25 "ZoneSampler" "history" "LZoneSampler$History;", Cond.fieldLink RX5 10 "ZoneSampler" "now" "LZoneSampler$State;", Cond.methodLink RX5 81 yX5_isNote, Cond.static yX5_isNote, Cond.initialized RX5, Cond.code yX5_isNote cX5_isNote 2 (some .boolean), Cond.methodLink RX5 43 yX5_within, Cond.static yX5_within, Cond.code yX5_within cX5_within 3 (some .boolean), Cond.methodLink RX5 57 yX0_record, Cond.instanceMethod yX0_record, Cond.selects RX0 yX0_record yX0_record, Cond.initialized RX0, Cond.code yX0_record cX0_record 3 none, Cond.fieldLink RX0 27 "ZoneSampler$History" "kept" "I", Cond.fieldLink RX0 12 "ZoneSampler$History" "first" "LZoneSampler$State;", Cond.fieldLink RX0 18 "ZoneSampler$History" "second" "LZoneSampler$State;", Cond.fieldLink RX0 21 "ZoneSampler$History" "third" "LZoneSampler$State;", Cond.fieldLink RX0 24 "ZoneSampler$History" "fourth" "LZoneSampler$State;", Cond.methodLink RX0 31 yX0_stateAt, Cond.instanceMethod yX0_stateAt, Cond.selects RX0 yX0_stateAt yX0_stateAt, Cond.code yX0_stateAt cX0_stateAt 2 (some (.object "ZoneSampler$State")), Cond.methodLink RX0 35 yX2_copyFrom]
def wsX5_hit_r2 : List Cond := [Cond.instanceMethod yX2_copyFrom, Cond.selects RX2 yX2_copyFrom yX2_copyFrom, Cond.initialized RX2, Cond.code yX2_copyFrom cX2_copyFrom 2 none, Cond.fieldLink RX2 14 "ZoneSampler$State" "zones" "LZoneSampler$Table;", Cond.fieldLink RX2 20 "ZoneSampler$State" "voices" "LZoneSampler$Table;", Cond.fieldLink RX2 23 "ZoneSampler$State" "numbers" "[I", Cond.methodLink RX2 31 arraycopyName, Cond.native arraycopyName, Cond.static arraycopyName, Cond.initialized "java/lang/System", Cond.fieldLink RX2 37 "ZoneSampler$State" "pedalDown" "Z", Cond.fieldLink RX2 41 "ZoneSampler$State" "notes" "I", Cond.methodLink RX2 27 yX4_copyFrom, Cond.instanceMethod yX4_copyFrom, Cond.selects RX4 yX4_copyFrom yX4_copyFrom, Cond.initialized RX4, Cond.code yX4_copyFrom cX4_copyFrom 2 none, Cond.fieldLink RX4 13 "ZoneSampler$Table" "cells" "[I", Cond.methodLink RX4 28 Lib.Math.min.name, Cond.static Lib.Math.min.name, Cond.initialized "java/lang/Math", Cond.code Lib.Math.min.name Lib.Math.min.code 2 (some .int), Cond.methodLink RX4 33 arraycopyName]
def wsX5_hit_r3 : List Cond := [Cond.fieldLink RX4 17 "ZoneSampler$Table" "rows" "I", Cond.methodLink RX5 85 yX2_strike, Cond.instanceMethod yX2_strike, Cond.selects RX2 yX2_strike yX2_strike, Cond.code yX2_strike cX2_strike 5 (some .int), Cond.methodLink RX2 85 yX2_moveHeld, Cond.instanceMethod yX2_moveHeld, Cond.selects RX2 yX2_moveHeld yX2_moveHeld, Cond.code yX2_moveHeld cX2_moveHeld 5 (some .int), Cond.methodLink RX2 64 yX4_rows, Cond.instanceMethod yX4_rows, Cond.selects RX4 yX4_rows yX4_rows, Cond.code yX4_rows cX4_rows 1 (some .int), Cond.methodLink RX2 67 yX4_get, Cond.instanceMethod yX4_get, Cond.selects RX4 yX4_get yX4_get, Cond.code yX4_get cX4_get 4 (some .int), Cond.fieldLink RX4 7 "ZoneSampler$Table" "width" "I", Cond.methodLink RX2 56 yX4_put, Cond.instanceMethod yX4_put, Cond.selects RX4 yX4_put yX4_put, Cond.code yX4_put cX4_put 5 none, Cond.methodLink RX2 82 yX2_sounds, Cond.instanceMethod yX2_sounds]
def wsX5_hit_r4 : List Cond := [Cond.selects RX2 yX2_sounds yX2_sounds, Cond.code yX2_sounds cX2_sounds 8 (some .boolean), Cond.methodLink RX2 78 yX2_matches, Cond.instanceMethod yX2_matches, Cond.selects RX2 yX2_matches yX2_matches, Cond.code yX2_matches cX2_matches 4 (some .boolean), Cond.methodLink RX2 45 yX2_number, Cond.instanceMethod yX2_number, Cond.selects RX2 yX2_number yX2_number, Cond.code yX2_number cX2_number 2 (some .int), Cond.methodLink RX2 88 yX2_begin, Cond.instanceMethod yX2_begin, Cond.selects RX2 yX2_begin yX2_begin, Cond.code yX2_begin cX2_begin 5 none, Cond.methodLink RX2 94 yX2_choke, Cond.instanceMethod yX2_choke, Cond.selects RX2 yX2_choke yX2_choke, Cond.code yX2_choke cX2_choke 4 none, Cond.methodLink RX2 71 yX4_removeRow, Cond.instanceMethod yX4_removeRow, Cond.selects RX4 yX4_removeRow yX4_removeRow, Cond.code yX4_removeRow cX4_removeRow 3 none, Cond.methodLink RX4 20 yX4_has, Cond.instanceMethod yX4_has]
def wsX5_hit_r5 : List Cond := [Cond.selects RX4 yX4_has yX4_has, Cond.code yX4_has cX4_has 2 (some .boolean), Cond.methodLink RX2 75 yX2_grow, Cond.instanceMethod yX2_grow, Cond.selects RX2 yX2_grow yX2_grow, Cond.code yX2_grow cX2_grow 3 none, Cond.methodLink RX2 49 yX2_putNumber, Cond.instanceMethod yX2_putNumber, Cond.selects RX2 yX2_putNumber yX2_putNumber, Cond.code yX2_putNumber cX2_putNumber 3 none, Cond.methodLink RX2 97 yX2_stealDownTo, Cond.instanceMethod yX2_stealDownTo, Cond.selects RX2 yX2_stealDownTo yX2_stealDownTo, Cond.code yX2_stealDownTo cX2_stealDownTo 5 none, Cond.methodLink RX2 100 yX2_stealRank, Cond.instanceMethod yX2_stealRank, Cond.selects RX2 yX2_stealRank yX2_stealRank, Cond.code yX2_stealRank cX2_stealRank 2 (some .int), Cond.methodLink RX2 52 yX4_addRow, Cond.instanceMethod yX4_addRow, Cond.selects RX4 yX4_addRow yX4_addRow, Cond.code yX4_addRow cX4_addRow 1 (some .int), Cond.methodLink RX2 91 yX2_passTurns, Cond.instanceMethod yX2_passTurns]
def wsX5_hit_r6 : List Cond := [Cond.selects RX2 yX2_passTurns yX2_passTurns, Cond.code yX2_passTurns cX2_passTurns 6 none]
def wsX5_hit : List Cond := .code yX5_hit cX5_hit 3 (some .int) :: ((wsX5_hit_r1 ++ (wsX5_hit_r2 ++ (wsX5_hit_r3 ++ (wsX5_hit_r4 ++ (wsX5_hit_r5 ++ wsX5_hit_r6))))) ++ wsX50 ++ wsX00 ++ wsX20 ++ wsX40)
def wsX5_letGo_r1 : List Cond := [Cond.fieldLink RX5 25 "ZoneSampler" "history" "LZoneSampler$History;", Cond.fieldLink RX5 10 "ZoneSampler" "now" "LZoneSampler$State;", Cond.methodLink RX5 43 yX5_within, Cond.static yX5_within, Cond.initialized RX5, Cond.code yX5_within cX5_within 3 (some .boolean), Cond.methodLink RX5 57 yX0_record, Cond.instanceMethod yX0_record, Cond.selects RX0 yX0_record yX0_record, Cond.initialized RX0, Cond.code yX0_record cX0_record 3 none, Cond.fieldLink RX0 27 "ZoneSampler$History" "kept" "I", Cond.fieldLink RX0 12 "ZoneSampler$History" "first" "LZoneSampler$State;", Cond.fieldLink RX0 18 "ZoneSampler$History" "second" "LZoneSampler$State;", Cond.fieldLink RX0 21 "ZoneSampler$History" "third" "LZoneSampler$State;", Cond.fieldLink RX0 24 "ZoneSampler$History" "fourth" "LZoneSampler$State;", Cond.methodLink RX0 31 yX0_stateAt, Cond.instanceMethod yX0_stateAt, Cond.selects RX0 yX0_stateAt yX0_stateAt, Cond.code yX0_stateAt cX0_stateAt 2 (some (.object "ZoneSampler$State")), Cond.methodLink RX0 35 yX2_copyFrom, Cond.instanceMethod yX2_copyFrom, Cond.selects RX2 yX2_copyFrom yX2_copyFrom, Cond.initialized RX2]
def wsX5_letGo_r2 : List Cond := [Cond.code yX2_copyFrom cX2_copyFrom 2 none, Cond.fieldLink RX2 14 "ZoneSampler$State" "zones" "LZoneSampler$Table;", Cond.fieldLink RX2 20 "ZoneSampler$State" "voices" "LZoneSampler$Table;", Cond.fieldLink RX2 23 "ZoneSampler$State" "numbers" "[I", Cond.methodLink RX2 31 arraycopyName, Cond.native arraycopyName, Cond.static arraycopyName, Cond.initialized "java/lang/System", Cond.fieldLink RX2 37 "ZoneSampler$State" "pedalDown" "Z", Cond.fieldLink RX2 41 "ZoneSampler$State" "notes" "I", Cond.methodLink RX2 27 yX4_copyFrom, Cond.instanceMethod yX4_copyFrom, Cond.selects RX4 yX4_copyFrom yX4_copyFrom, Cond.initialized RX4, Cond.code yX4_copyFrom cX4_copyFrom 2 none, Cond.fieldLink RX4 13 "ZoneSampler$Table" "cells" "[I", Cond.methodLink RX4 28 Lib.Math.min.name, Cond.static Lib.Math.min.name, Cond.initialized "java/lang/Math", Cond.code Lib.Math.min.name Lib.Math.min.code 2 (some .int), Cond.methodLink RX4 33 arraycopyName, Cond.fieldLink RX4 17 "ZoneSampler$Table" "rows" "I", Cond.methodLink RX5 88 yX2_release, Cond.instanceMethod yX2_release]
def wsX5_letGo_r3 : List Cond := [Cond.selects RX2 yX2_release yX2_release, Cond.code yX2_release cX2_release 2 (some .int), Cond.methodLink RX2 85 yX2_moveHeld, Cond.instanceMethod yX2_moveHeld, Cond.selects RX2 yX2_moveHeld yX2_moveHeld, Cond.code yX2_moveHeld cX2_moveHeld 5 (some .int), Cond.methodLink RX2 64 yX4_rows, Cond.instanceMethod yX4_rows, Cond.selects RX4 yX4_rows yX4_rows, Cond.code yX4_rows cX4_rows 1 (some .int), Cond.methodLink RX2 67 yX4_get, Cond.instanceMethod yX4_get, Cond.selects RX4 yX4_get yX4_get, Cond.code yX4_get cX4_get 4 (some .int), Cond.fieldLink RX4 7 "ZoneSampler$Table" "width" "I", Cond.methodLink RX2 56 yX4_put, Cond.instanceMethod yX4_put, Cond.selects RX4 yX4_put yX4_put, Cond.code yX4_put cX4_put 5 none]
def wsX5_letGo : List Cond := .code yX5_letGo cX5_letGo 2 (some .int) :: ((wsX5_letGo_r1 ++ (wsX5_letGo_r2 ++ wsX5_letGo_r3)) ++ wsX50 ++ wsX00 ++ wsX20 ++ wsX40)
def wsX5_pedal_r1 : List Cond := [Cond.fieldLink RX5 25 "ZoneSampler" "history" "LZoneSampler$History;", Cond.fieldLink RX5 10 "ZoneSampler" "now" "LZoneSampler$State;", Cond.methodLink RX5 57 yX0_record, Cond.instanceMethod yX0_record, Cond.selects RX0 yX0_record yX0_record, Cond.initialized RX0, Cond.code yX0_record cX0_record 3 none, Cond.fieldLink RX0 27 "ZoneSampler$History" "kept" "I", Cond.fieldLink RX0 12 "ZoneSampler$History" "first" "LZoneSampler$State;", Cond.fieldLink RX0 18 "ZoneSampler$History" "second" "LZoneSampler$State;", Cond.fieldLink RX0 21 "ZoneSampler$History" "third" "LZoneSampler$State;", Cond.fieldLink RX0 24 "ZoneSampler$History" "fourth" "LZoneSampler$State;", Cond.methodLink RX0 31 yX0_stateAt, Cond.instanceMethod yX0_stateAt, Cond.selects RX0 yX0_stateAt yX0_stateAt, Cond.code yX0_stateAt cX0_stateAt 2 (some (.object "ZoneSampler$State")), Cond.methodLink RX0 35 yX2_copyFrom, Cond.instanceMethod yX2_copyFrom, Cond.selects RX2 yX2_copyFrom yX2_copyFrom, Cond.initialized RX2, Cond.code yX2_copyFrom cX2_copyFrom 2 none, Cond.fieldLink RX2 14 "ZoneSampler$State" "zones" "LZoneSampler$Table;", Cond.fieldLink RX2 20 "ZoneSampler$State" "voices" "LZoneSampler$Table;", Cond.fieldLink RX2 23 "ZoneSampler$State" "numbers" "[I"]
def wsX5_pedal_r2 : List Cond := [Cond.methodLink RX2 31 arraycopyName, Cond.native arraycopyName, Cond.static arraycopyName, Cond.initialized "java/lang/System", Cond.fieldLink RX2 37 "ZoneSampler$State" "pedalDown" "Z", Cond.fieldLink RX2 41 "ZoneSampler$State" "notes" "I", Cond.methodLink RX2 27 yX4_copyFrom, Cond.instanceMethod yX4_copyFrom, Cond.selects RX4 yX4_copyFrom yX4_copyFrom, Cond.initialized RX4, Cond.code yX4_copyFrom cX4_copyFrom 2 none, Cond.fieldLink RX4 13 "ZoneSampler$Table" "cells" "[I", Cond.methodLink RX4 28 Lib.Math.min.name, Cond.static Lib.Math.min.name, Cond.initialized "java/lang/Math", Cond.code Lib.Math.min.name Lib.Math.min.code 2 (some .int), Cond.methodLink RX4 33 arraycopyName, Cond.fieldLink RX4 17 "ZoneSampler$Table" "rows" "I", Cond.methodLink RX5 91 yX2_tread, Cond.instanceMethod yX2_tread, Cond.selects RX2 yX2_tread yX2_tread, Cond.code yX2_tread cX2_tread 3 (some .int), Cond.methodLink RX2 64 yX4_rows, Cond.instanceMethod yX4_rows]
def wsX5_pedal_r3 : List Cond := [Cond.selects RX4 yX4_rows yX4_rows, Cond.code yX4_rows cX4_rows 1 (some .int), Cond.methodLink RX2 67 yX4_get, Cond.instanceMethod yX4_get, Cond.selects RX4 yX4_get yX4_get, Cond.code yX4_get cX4_get 4 (some .int), Cond.fieldLink RX4 7 "ZoneSampler$Table" "width" "I", Cond.methodLink RX2 56 yX4_put, Cond.instanceMethod yX4_put, Cond.selects RX4 yX4_put yX4_put, Cond.code yX4_put cX4_put 5 none]
def wsX5_pedal : List Cond := .code yX5_pedal cX5_pedal 1 (some .int) :: ((wsX5_pedal_r1 ++ (wsX5_pedal_r2 ++ wsX5_pedal_r3)) ++ wsX50 ++ wsX00 ++ wsX20 ++ wsX40)
def wsX5_pass_r1 : List Cond := [Cond.fieldLink RX5 25 "ZoneSampler" "history" "LZoneSampler$History;", Cond.fieldLink RX5 10 "ZoneSampler" "now" "LZoneSampler$State;", Cond.methodLink RX5 43 yX5_within, Cond.static yX5_within, Cond.initialized RX5, Cond.code yX5_within cX5_within 3 (some .boolean), Cond.methodLink RX5 57 yX0_record, Cond.instanceMethod yX0_record, Cond.selects RX0 yX0_record yX0_record, Cond.initialized RX0, Cond.code yX0_record cX0_record 3 none, Cond.fieldLink RX0 27 "ZoneSampler$History" "kept" "I", Cond.fieldLink RX0 12 "ZoneSampler$History" "first" "LZoneSampler$State;", Cond.fieldLink RX0 18 "ZoneSampler$History" "second" "LZoneSampler$State;", Cond.fieldLink RX0 21 "ZoneSampler$History" "third" "LZoneSampler$State;", Cond.fieldLink RX0 24 "ZoneSampler$History" "fourth" "LZoneSampler$State;", Cond.methodLink RX0 31 yX0_stateAt, Cond.instanceMethod yX0_stateAt, Cond.selects RX0 yX0_stateAt yX0_stateAt, Cond.code yX0_stateAt cX0_stateAt 2 (some (.object "ZoneSampler$State")), Cond.methodLink RX0 35 yX2_copyFrom, Cond.instanceMethod yX2_copyFrom, Cond.selects RX2 yX2_copyFrom yX2_copyFrom, Cond.initialized RX2]
def wsX5_pass_r2 : List Cond := [Cond.code yX2_copyFrom cX2_copyFrom 2 none, Cond.fieldLink RX2 14 "ZoneSampler$State" "zones" "LZoneSampler$Table;", Cond.fieldLink RX2 20 "ZoneSampler$State" "voices" "LZoneSampler$Table;", Cond.fieldLink RX2 23 "ZoneSampler$State" "numbers" "[I", Cond.methodLink RX2 31 arraycopyName, Cond.native arraycopyName, Cond.static arraycopyName, Cond.initialized "java/lang/System", Cond.fieldLink RX2 37 "ZoneSampler$State" "pedalDown" "Z", Cond.fieldLink RX2 41 "ZoneSampler$State" "notes" "I", Cond.methodLink RX2 27 yX4_copyFrom, Cond.instanceMethod yX4_copyFrom, Cond.selects RX4 yX4_copyFrom yX4_copyFrom, Cond.initialized RX4, Cond.code yX4_copyFrom cX4_copyFrom 2 none, Cond.fieldLink RX4 13 "ZoneSampler$Table" "cells" "[I", Cond.methodLink RX4 28 Lib.Math.min.name, Cond.static Lib.Math.min.name, Cond.initialized "java/lang/Math", Cond.code Lib.Math.min.name Lib.Math.min.code 2 (some .int), Cond.methodLink RX4 33 arraycopyName, Cond.fieldLink RX4 17 "ZoneSampler$Table" "rows" "I", Cond.methodLink RX5 94 yX2_runTicks, Cond.instanceMethod yX2_runTicks]
def wsX5_pass_r3 : List Cond := [Cond.selects RX2 yX2_runTicks yX2_runTicks, Cond.code yX2_runTicks cX2_runTicks 5 (some .int), Cond.methodLink RX2 45 yX2_number, Cond.instanceMethod yX2_number, Cond.selects RX2 yX2_number yX2_number, Cond.code yX2_number cX2_number 2 (some .int), Cond.methodLink RX2 64 yX4_rows, Cond.instanceMethod yX4_rows, Cond.selects RX4 yX4_rows yX4_rows, Cond.code yX4_rows cX4_rows 1 (some .int), Cond.methodLink RX2 103 yX2_wear, Cond.instanceMethod yX2_wear, Cond.selects RX2 yX2_wear yX2_wear, Cond.code yX2_wear cX2_wear 4 none, Cond.methodLink RX2 67 yX4_get, Cond.instanceMethod yX4_get, Cond.selects RX4 yX4_get yX4_get, Cond.code yX4_get cX4_get 4 (some .int), Cond.fieldLink RX4 7 "ZoneSampler$Table" "width" "I", Cond.methodLink RX2 106 yX2_fadeOf, Cond.instanceMethod yX2_fadeOf, Cond.selects RX2 yX2_fadeOf yX2_fadeOf, Cond.code yX2_fadeOf cX2_fadeOf 2 (some .int), Cond.methodLink RX2 56 yX4_put]
def wsX5_pass_r4 : List Cond := [Cond.instanceMethod yX4_put, Cond.selects RX4 yX4_put yX4_put, Cond.code yX4_put cX4_put 5 none, Cond.methodLink RX2 71 yX4_removeRow, Cond.instanceMethod yX4_removeRow, Cond.selects RX4 yX4_removeRow yX4_removeRow, Cond.code yX4_removeRow cX4_removeRow 3 none, Cond.methodLink RX4 20 yX4_has, Cond.instanceMethod yX4_has, Cond.selects RX4 yX4_has yX4_has, Cond.code yX4_has cX4_has 2 (some .boolean), Cond.methodLink RX2 75 yX2_grow, Cond.instanceMethod yX2_grow, Cond.selects RX2 yX2_grow yX2_grow, Cond.code yX2_grow cX2_grow 3 none, Cond.methodLink RX2 49 yX2_putNumber, Cond.instanceMethod yX2_putNumber, Cond.selects RX2 yX2_putNumber yX2_putNumber, Cond.code yX2_putNumber cX2_putNumber 3 none]
def wsX5_pass : List Cond := .code yX5_pass cX5_pass 2 (some .int) :: ((wsX5_pass_r1 ++ (wsX5_pass_r2 ++ (wsX5_pass_r3 ++ wsX5_pass_r4))) ++ wsX50 ++ wsX00 ++ wsX20 ++ wsX40)
def wsX5_silence_r1 : List Cond := [Cond.fieldLink RX5 25 "ZoneSampler" "history" "LZoneSampler$History;", Cond.fieldLink RX5 10 "ZoneSampler" "now" "LZoneSampler$State;", Cond.methodLink RX5 57 yX0_record, Cond.instanceMethod yX0_record, Cond.selects RX0 yX0_record yX0_record, Cond.initialized RX0, Cond.code yX0_record cX0_record 3 none, Cond.fieldLink RX0 27 "ZoneSampler$History" "kept" "I", Cond.fieldLink RX0 12 "ZoneSampler$History" "first" "LZoneSampler$State;", Cond.fieldLink RX0 18 "ZoneSampler$History" "second" "LZoneSampler$State;", Cond.fieldLink RX0 21 "ZoneSampler$History" "third" "LZoneSampler$State;", Cond.fieldLink RX0 24 "ZoneSampler$History" "fourth" "LZoneSampler$State;", Cond.methodLink RX0 31 yX0_stateAt, Cond.instanceMethod yX0_stateAt, Cond.selects RX0 yX0_stateAt yX0_stateAt, Cond.code yX0_stateAt cX0_stateAt 2 (some (.object "ZoneSampler$State")), Cond.methodLink RX0 35 yX2_copyFrom, Cond.instanceMethod yX2_copyFrom, Cond.selects RX2 yX2_copyFrom yX2_copyFrom, Cond.initialized RX2, Cond.code yX2_copyFrom cX2_copyFrom 2 none, Cond.fieldLink RX2 14 "ZoneSampler$State" "zones" "LZoneSampler$Table;", Cond.fieldLink RX2 20 "ZoneSampler$State" "voices" "LZoneSampler$Table;", Cond.fieldLink RX2 23 "ZoneSampler$State" "numbers" "[I"]
def wsX5_silence_r2 : List Cond := [Cond.methodLink RX2 31 arraycopyName, Cond.native arraycopyName, Cond.static arraycopyName, Cond.initialized "java/lang/System", Cond.fieldLink RX2 37 "ZoneSampler$State" "pedalDown" "Z", Cond.fieldLink RX2 41 "ZoneSampler$State" "notes" "I", Cond.methodLink RX2 27 yX4_copyFrom, Cond.instanceMethod yX4_copyFrom, Cond.selects RX4 yX4_copyFrom yX4_copyFrom, Cond.initialized RX4, Cond.code yX4_copyFrom cX4_copyFrom 2 none, Cond.fieldLink RX4 13 "ZoneSampler$Table" "cells" "[I", Cond.methodLink RX4 28 Lib.Math.min.name, Cond.static Lib.Math.min.name, Cond.initialized "java/lang/Math", Cond.code Lib.Math.min.name Lib.Math.min.code 2 (some .int), Cond.methodLink RX4 33 arraycopyName, Cond.fieldLink RX4 17 "ZoneSampler$Table" "rows" "I", Cond.methodLink RX5 97 yX2_stopAll, Cond.instanceMethod yX2_stopAll, Cond.selects RX2 yX2_stopAll yX2_stopAll, Cond.code yX2_stopAll cX2_stopAll 2 (some .int), Cond.methodLink RX2 64 yX4_rows, Cond.instanceMethod yX4_rows]
def wsX5_silence_r3 : List Cond := [Cond.selects RX4 yX4_rows yX4_rows, Cond.code yX4_rows cX4_rows 1 (some .int), Cond.methodLink RX2 117 yX4_removeAll, Cond.instanceMethod yX4_removeAll, Cond.selects RX4 yX4_removeAll yX4_removeAll, Cond.code yX4_removeAll cX4_removeAll 1 none, Cond.methodLink RX2 75 yX2_grow, Cond.instanceMethod yX2_grow, Cond.selects RX2 yX2_grow yX2_grow, Cond.code yX2_grow cX2_grow 3 none, Cond.methodLink RX2 45 yX2_number, Cond.instanceMethod yX2_number, Cond.selects RX2 yX2_number yX2_number, Cond.code yX2_number cX2_number 2 (some .int), Cond.methodLink RX2 49 yX2_putNumber, Cond.instanceMethod yX2_putNumber, Cond.selects RX2 yX2_putNumber yX2_putNumber, Cond.code yX2_putNumber cX2_putNumber 3 none]
def wsX5_silence : List Cond := .code yX5_silence cX5_silence 1 (some .int) :: ((wsX5_silence_r1 ++ (wsX5_silence_r2 ++ wsX5_silence_r3)) ++ wsX50 ++ wsX00 ++ wsX20 ++ wsX40)
def wsX5_isSetting : List Cond := .code yX5_isSetting cX5_isSetting 2 (some .boolean) :: ([.methodLink RX5 43 yX5_within, .static yX5_within, .initialized RX5, .code yX5_within cX5_within 3 (some .boolean)])
def wsX5_set_r1 : List Cond := [Cond.fieldLink RX5 25 "ZoneSampler" "history" "LZoneSampler$History;", Cond.fieldLink RX5 10 "ZoneSampler" "now" "LZoneSampler$State;", Cond.methodLink RX5 100 yX5_isSetting, Cond.static yX5_isSetting, Cond.initialized RX5, Cond.code yX5_isSetting cX5_isSetting 2 (some .boolean), Cond.methodLink RX5 43 yX5_within, Cond.static yX5_within, Cond.code yX5_within cX5_within 3 (some .boolean), Cond.methodLink RX5 57 yX0_record, Cond.instanceMethod yX0_record, Cond.selects RX0 yX0_record yX0_record, Cond.initialized RX0, Cond.code yX0_record cX0_record 3 none, Cond.fieldLink RX0 27 "ZoneSampler$History" "kept" "I", Cond.fieldLink RX0 12 "ZoneSampler$History" "first" "LZoneSampler$State;", Cond.fieldLink RX0 18 "ZoneSampler$History" "second" "LZoneSampler$State;", Cond.fieldLink RX0 21 "ZoneSampler$History" "third" "LZoneSampler$State;", Cond.fieldLink RX0 24 "ZoneSampler$History" "fourth" "LZoneSampler$State;", Cond.methodLink RX0 31 yX0_stateAt, Cond.instanceMethod yX0_stateAt, Cond.selects RX0 yX0_stateAt yX0_stateAt, Cond.code yX0_stateAt cX0_stateAt 2 (some (.object "ZoneSampler$State")), Cond.methodLink RX0 35 yX2_copyFrom]
def wsX5_set_r2 : List Cond := [Cond.instanceMethod yX2_copyFrom, Cond.selects RX2 yX2_copyFrom yX2_copyFrom, Cond.initialized RX2, Cond.code yX2_copyFrom cX2_copyFrom 2 none, Cond.fieldLink RX2 14 "ZoneSampler$State" "zones" "LZoneSampler$Table;", Cond.fieldLink RX2 20 "ZoneSampler$State" "voices" "LZoneSampler$Table;", Cond.fieldLink RX2 23 "ZoneSampler$State" "numbers" "[I", Cond.methodLink RX2 31 arraycopyName, Cond.native arraycopyName, Cond.static arraycopyName, Cond.initialized "java/lang/System", Cond.fieldLink RX2 37 "ZoneSampler$State" "pedalDown" "Z", Cond.fieldLink RX2 41 "ZoneSampler$State" "notes" "I", Cond.methodLink RX2 27 yX4_copyFrom, Cond.instanceMethod yX4_copyFrom, Cond.selects RX4 yX4_copyFrom yX4_copyFrom, Cond.initialized RX4, Cond.code yX4_copyFrom cX4_copyFrom 2 none, Cond.fieldLink RX4 13 "ZoneSampler$Table" "cells" "[I", Cond.methodLink RX4 28 Lib.Math.min.name, Cond.static Lib.Math.min.name, Cond.initialized "java/lang/Math", Cond.code Lib.Math.min.name Lib.Math.min.code 2 (some .int), Cond.methodLink RX4 33 arraycopyName]
def wsX5_set_r3 : List Cond := [Cond.fieldLink RX4 17 "ZoneSampler$Table" "rows" "I", Cond.methodLink RX5 103 yX2_number, Cond.instanceMethod yX2_number, Cond.selects RX2 yX2_number yX2_number, Cond.code yX2_number cX2_number 2 (some .int), Cond.methodLink RX5 106 yX2_putNumber, Cond.instanceMethod yX2_putNumber, Cond.selects RX2 yX2_putNumber yX2_putNumber, Cond.code yX2_putNumber cX2_putNumber 3 none, Cond.methodLink RX5 110 yX2_stealDownTo, Cond.instanceMethod yX2_stealDownTo, Cond.selects RX2 yX2_stealDownTo yX2_stealDownTo, Cond.code yX2_stealDownTo cX2_stealDownTo 5 none, Cond.methodLink RX2 64 yX4_rows, Cond.instanceMethod yX4_rows, Cond.selects RX4 yX4_rows yX4_rows, Cond.code yX4_rows cX4_rows 1 (some .int), Cond.methodLink RX2 100 yX2_stealRank, Cond.instanceMethod yX2_stealRank, Cond.selects RX2 yX2_stealRank yX2_stealRank, Cond.code yX2_stealRank cX2_stealRank 2 (some .int), Cond.methodLink RX2 45 yX2_number, Cond.methodLink RX2 67 yX4_get, Cond.instanceMethod yX4_get]
def wsX5_set_r4 : List Cond := [Cond.selects RX4 yX4_get yX4_get, Cond.code yX4_get cX4_get 4 (some .int), Cond.fieldLink RX4 7 "ZoneSampler$Table" "width" "I", Cond.methodLink RX2 71 yX4_removeRow, Cond.instanceMethod yX4_removeRow, Cond.selects RX4 yX4_removeRow yX4_removeRow, Cond.code yX4_removeRow cX4_removeRow 3 none, Cond.methodLink RX4 20 yX4_has, Cond.instanceMethod yX4_has, Cond.selects RX4 yX4_has yX4_has, Cond.code yX4_has cX4_has 2 (some .boolean), Cond.methodLink RX2 75 yX2_grow, Cond.instanceMethod yX2_grow, Cond.selects RX2 yX2_grow yX2_grow, Cond.code yX2_grow cX2_grow 3 none, Cond.methodLink RX2 49 yX2_putNumber]
def wsX5_set : List Cond := .code yX5_set cX5_set 4 (some .int) :: ((wsX5_set_r1 ++ (wsX5_set_r2 ++ (wsX5_set_r3 ++ wsX5_set_r4))) ++ wsX50 ++ wsX00 ++ wsX20 ++ wsX40)
def wsX5_append : List Cond := .code yX5_append cX5_append 2 (some .int) :: ([.fieldLink RX5 32 "ZoneSampler" "pad" "LZoneSampler$Pad;", .methodLink RX5 43 yX5_within, .static yX5_within, .initialized RX5, .code yX5_within cX5_within 3 (some .boolean), .methodLink RX5 114 yX1_length, .instanceMethod yX1_length, .selects RX1 yX1_length yX1_length, .initialized RX1, .code yX1_length cX1_length 1 (some .int), .fieldLink RX1 15 "ZoneSampler$Pad" "length" "I", .methodLink RX5 117 yX1_add, .instanceMethod yX1_add, .selects RX1 yX1_add yX1_add, .code yX1_add cX1_add 2 none, .fieldLink RX1 9 "ZoneSampler$Pad" "signs" "[C"] ++ wsX50 ++ wsX10)
def wsX5_clear : List Cond := .code yX5_clear cX5_clear 2 (some .int) :: ([.fieldLink RX5 32 "ZoneSampler" "pad" "LZoneSampler$Pad;", .methodLink RX5 114 yX1_length, .instanceMethod yX1_length, .selects RX1 yX1_length yX1_length, .initialized RX1, .code yX1_length cX1_length 1 (some .int), .fieldLink RX1 15 "ZoneSampler$Pad" "length" "I", .methodLink RX5 121 yX1_empty, .instanceMethod yX1_empty, .selects RX1 yX1_empty yX1_empty, .code yX1_empty cX1_empty 1 none] ++ wsX50 ++ wsX10)
def wsX5_fault_r1 : List Cond := [Cond.fieldLink RX5 32 "ZoneSampler" "pad" "LZoneSampler$Pad;", Cond.methodLink RX5 43 yX5_within, Cond.static yX5_within, Cond.initialized RX5, Cond.code yX5_within cX5_within 3 (some .boolean), Cond.methodLink RX5 124 yX1_faultAs, Cond.instanceMethod yX1_faultAs, Cond.selects RX1 yX1_faultAs yX1_faultAs, Cond.initialized RX1, Cond.code yX1_faultAs cX1_faultAs 5 (some .int), Cond.fieldLink RX1 19 "ZoneSampler$Pad" "at" "I", Cond.fieldLink RX1 15 "ZoneSampler$Pad" "length" "I", Cond.methodLink RX1 22 yX1_rewind, Cond.instanceMethod yX1_rewind, Cond.selects RX1 yX1_rewind yX1_rewind, Cond.code yX1_rewind cX1_rewind 1 none, Cond.methodLink RX1 25 yX1_items, Cond.instanceMethod yX1_items, Cond.selects RX1 yX1_items yX1_items, Cond.code yX1_items cX1_items 3 (some .int), Cond.fieldLink RX1 9 "ZoneSampler$Pad" "signs" "[C", Cond.methodLink RX1 29 yX1_readZone, Cond.instanceMethod yX1_readZone, Cond.selects RX1 yX1_readZone yX1_readZone]
def wsX5_fault_r2 : List Cond := [Cond.code yX1_readZone cX1_readZone 2 (some .boolean), Cond.fieldLink RX1 47 "ZoneSampler$Pad" "value" "I", Cond.fieldLink RX1 50 "ZoneSampler$Pad" "low" "I", Cond.fieldLink RX1 53 "ZoneSampler$Pad" "high" "I", Cond.fieldLink RX1 56 "ZoneSampler$Pad" "softest" "I", Cond.fieldLink RX1 59 "ZoneSampler$Pad" "hardest" "I", Cond.fieldLink RX1 62 "ZoneSampler$Pad" "lasting" "I", Cond.fieldLink RX1 68 "ZoneSampler$Pad" "group" "I", Cond.fieldLink RX1 71 "ZoneSampler$Pad" "robin" "I", Cond.methodLink RX1 43 yX1_readNumber, Cond.instanceMethod yX1_readNumber, Cond.selects RX1 yX1_readNumber yX1_readNumber, Cond.code yX1_readNumber cX1_readNumber 8 (some .boolean), Cond.methodLink RX1 40 yX1_sign, Cond.instanceMethod yX1_sign, Cond.selects RX1 yX1_sign yX1_sign, Cond.code yX1_sign cX1_sign 1 (some .int), Cond.methodLink RX1 89 yX1_canBegin, Cond.static yX1_canBegin, Cond.code yX1_canBegin cX1_canBegin 5 (some .boolean), Cond.methodLink RX1 36 yX1_readSign, Cond.instanceMethod yX1_readSign, Cond.selects RX1 yX1_readSign yX1_readSign, Cond.code yX1_readSign cX1_readSign 3 (some .boolean)]
def wsX5_fault_r3 : List Cond := [Cond.methodLink RX1 65 yX1_readMark, Cond.instanceMethod yX1_readMark, Cond.selects RX1 yX1_readMark yX1_readMark, Cond.code yX1_readMark cX1_readMark 3 (some .boolean), Cond.methodLink RX1 33 yX1_readDeed, Cond.instanceMethod yX1_readDeed, Cond.selects RX1 yX1_readDeed yX1_readDeed, Cond.code yX1_readDeed cX1_readDeed 1 (some .boolean), Cond.fieldLink RX1 74 "ZoneSampler$Pad" "deed" "I", Cond.methodLink RX1 77 yX1_readDeedKey, Cond.instanceMethod yX1_readDeedKey, Cond.selects RX1 yX1_readDeedKey yX1_readDeedKey, Cond.code yX1_readDeedKey cX1_readDeedKey 2 (some .boolean), Cond.fieldLink RX1 83 "ZoneSampler$Pad" "deedKey" "I", Cond.methodLink RX1 80 yX1_readAmount, Cond.instanceMethod yX1_readAmount, Cond.selects RX1 yX1_readAmount yX1_readAmount, Cond.code yX1_readAmount cX1_readAmount 3 (some .boolean), Cond.fieldLink RX1 86 "ZoneSampler$Pad" "amount" "I"]
def wsX5_fault : List Cond := .code yX5_fault cX5_fault 2 (some .int) :: ((wsX5_fault_r1 ++ (wsX5_fault_r2 ++ wsX5_fault_r3)) ++ wsX50 ++ wsX10)
def wsX5_load_r1 : List Cond := [Cond.fieldLink RX5 32 "ZoneSampler" "pad" "LZoneSampler$Pad;", Cond.fieldLink RX5 10 "ZoneSampler" "now" "LZoneSampler$State;", Cond.fieldLink RX5 25 "ZoneSampler" "history" "LZoneSampler$History;", Cond.methodLink RX5 124 yX1_faultAs, Cond.instanceMethod yX1_faultAs, Cond.selects RX1 yX1_faultAs yX1_faultAs, Cond.initialized RX1, Cond.code yX1_faultAs cX1_faultAs 5 (some .int), Cond.fieldLink RX1 19 "ZoneSampler$Pad" "at" "I", Cond.fieldLink RX1 15 "ZoneSampler$Pad" "length" "I", Cond.methodLink RX1 22 yX1_rewind, Cond.instanceMethod yX1_rewind, Cond.selects RX1 yX1_rewind yX1_rewind, Cond.code yX1_rewind cX1_rewind 1 none, Cond.methodLink RX1 25 yX1_items, Cond.instanceMethod yX1_items, Cond.selects RX1 yX1_items yX1_items, Cond.code yX1_items cX1_items 3 (some .int), Cond.fieldLink RX1 9 "ZoneSampler$Pad" "signs" "[C", Cond.methodLink RX1 29 yX1_readZone, Cond.instanceMethod yX1_readZone, Cond.selects RX1 yX1_readZone yX1_readZone, Cond.code yX1_readZone cX1_readZone 2 (some .boolean), Cond.fieldLink RX1 47 "ZoneSampler$Pad" "value" "I"]
def wsX5_load_r2 : List Cond := [Cond.fieldLink RX1 50 "ZoneSampler$Pad" "low" "I", Cond.fieldLink RX1 53 "ZoneSampler$Pad" "high" "I", Cond.fieldLink RX1 56 "ZoneSampler$Pad" "softest" "I", Cond.fieldLink RX1 59 "ZoneSampler$Pad" "hardest" "I", Cond.fieldLink RX1 62 "ZoneSampler$Pad" "lasting" "I", Cond.fieldLink RX1 68 "ZoneSampler$Pad" "group" "I", Cond.fieldLink RX1 71 "ZoneSampler$Pad" "robin" "I", Cond.methodLink RX1 43 yX1_readNumber, Cond.instanceMethod yX1_readNumber, Cond.selects RX1 yX1_readNumber yX1_readNumber, Cond.code yX1_readNumber cX1_readNumber 8 (some .boolean), Cond.methodLink RX1 40 yX1_sign, Cond.instanceMethod yX1_sign, Cond.selects RX1 yX1_sign yX1_sign, Cond.code yX1_sign cX1_sign 1 (some .int), Cond.methodLink RX1 89 yX1_canBegin, Cond.static yX1_canBegin, Cond.code yX1_canBegin cX1_canBegin 5 (some .boolean), Cond.methodLink RX1 36 yX1_readSign, Cond.instanceMethod yX1_readSign, Cond.selects RX1 yX1_readSign yX1_readSign, Cond.code yX1_readSign cX1_readSign 3 (some .boolean), Cond.methodLink RX1 65 yX1_readMark, Cond.instanceMethod yX1_readMark]
def wsX5_load_r3 : List Cond := [Cond.selects RX1 yX1_readMark yX1_readMark, Cond.code yX1_readMark cX1_readMark 3 (some .boolean), Cond.methodLink RX1 33 yX1_readDeed, Cond.instanceMethod yX1_readDeed, Cond.selects RX1 yX1_readDeed yX1_readDeed, Cond.code yX1_readDeed cX1_readDeed 1 (some .boolean), Cond.fieldLink RX1 74 "ZoneSampler$Pad" "deed" "I", Cond.methodLink RX1 77 yX1_readDeedKey, Cond.instanceMethod yX1_readDeedKey, Cond.selects RX1 yX1_readDeedKey yX1_readDeedKey, Cond.code yX1_readDeedKey cX1_readDeedKey 2 (some .boolean), Cond.fieldLink RX1 83 "ZoneSampler$Pad" "deedKey" "I", Cond.methodLink RX1 80 yX1_readAmount, Cond.instanceMethod yX1_readAmount, Cond.selects RX1 yX1_readAmount yX1_readAmount, Cond.code yX1_readAmount cX1_readAmount 3 (some .boolean), Cond.fieldLink RX1 86 "ZoneSampler$Pad" "amount" "I", Cond.methodLink RX5 127 yX1_items, Cond.methodLink RX5 51 yX4_rows, Cond.instanceMethod yX4_rows, Cond.selects RX4 yX4_rows yX4_rows, Cond.initialized RX4, Cond.code yX4_rows cX4_rows 1 (some .int), Cond.fieldLink RX4 17 "ZoneSampler$Table" "rows" "I"]
def wsX5_load_r4 : List Cond := [Cond.methodLink RX5 57 yX0_record, Cond.instanceMethod yX0_record, Cond.selects RX0 yX0_record yX0_record, Cond.initialized RX0, Cond.code yX0_record cX0_record 3 none, Cond.fieldLink RX0 27 "ZoneSampler$History" "kept" "I", Cond.fieldLink RX0 12 "ZoneSampler$History" "first" "LZoneSampler$State;", Cond.fieldLink RX0 18 "ZoneSampler$History" "second" "LZoneSampler$State;", Cond.fieldLink RX0 21 "ZoneSampler$History" "third" "LZoneSampler$State;", Cond.fieldLink RX0 24 "ZoneSampler$History" "fourth" "LZoneSampler$State;", Cond.methodLink RX0 31 yX0_stateAt, Cond.instanceMethod yX0_stateAt, Cond.selects RX0 yX0_stateAt yX0_stateAt, Cond.code yX0_stateAt cX0_stateAt 2 (some (.object "ZoneSampler$State")), Cond.methodLink RX0 35 yX2_copyFrom, Cond.instanceMethod yX2_copyFrom, Cond.selects RX2 yX2_copyFrom yX2_copyFrom, Cond.initialized RX2, Cond.code yX2_copyFrom cX2_copyFrom 2 none, Cond.fieldLink RX2 14 "ZoneSampler$State" "zones" "LZoneSampler$Table;", Cond.fieldLink RX2 20 "ZoneSampler$State" "voices" "LZoneSampler$Table;", Cond.fieldLink RX2 23 "ZoneSampler$State" "numbers" "[I", Cond.methodLink RX2 31 arraycopyName, Cond.native arraycopyName]
def wsX5_load_r5 : List Cond := [Cond.static arraycopyName, Cond.initialized "java/lang/System", Cond.fieldLink RX2 37 "ZoneSampler$State" "pedalDown" "Z", Cond.fieldLink RX2 41 "ZoneSampler$State" "notes" "I", Cond.methodLink RX2 27 yX4_copyFrom, Cond.instanceMethod yX4_copyFrom, Cond.selects RX4 yX4_copyFrom yX4_copyFrom, Cond.code yX4_copyFrom cX4_copyFrom 2 none, Cond.fieldLink RX4 13 "ZoneSampler$Table" "cells" "[I", Cond.methodLink RX4 28 Lib.Math.min.name, Cond.static Lib.Math.min.name, Cond.initialized "java/lang/Math", Cond.code Lib.Math.min.name Lib.Math.min.code 2 (some .int), Cond.methodLink RX4 33 arraycopyName, Cond.methodLink RX5 130 yX1_rewind, Cond.methodLink RX5 133 yX1_readZone, Cond.methodLink RX5 61 yX2_addZone, Cond.instanceMethod yX2_addZone, Cond.selects RX2 yX2_addZone yX2_addZone, Cond.code yX2_addZone cX2_addZone 6 (some .int), Cond.methodLink RX2 52 yX4_addRow, Cond.instanceMethod yX4_addRow, Cond.selects RX4 yX4_addRow yX4_addRow, Cond.code yX4_addRow cX4_addRow 1 (some .int)]
def wsX5_load_r6 : List Cond := [Cond.fieldLink RX4 7 "ZoneSampler$Table" "width" "I", Cond.methodLink RX2 56 yX4_put, Cond.instanceMethod yX4_put, Cond.selects RX4 yX4_put yX4_put, Cond.code yX4_put cX4_put 5 none, Cond.methodLink RX2 60 yX2_shapeZone, Cond.instanceMethod yX2_shapeZone, Cond.selects RX2 yX2_shapeZone yX2_shapeZone, Cond.code yX2_shapeZone cX2_shapeZone 5 none, Cond.methodLink RX5 69 yX2_shapeZone, Cond.methodLink RX5 159 yX1_readSign, Cond.methodLink RX5 121 yX1_empty, Cond.instanceMethod yX1_empty, Cond.selects RX1 yX1_empty yX1_empty, Cond.code yX1_empty cX1_empty 1 none]
def wsX5_load : List Cond := .code yX5_load cX5_load 4 (some .int) :: ((wsX5_load_r1 ++ (wsX5_load_r2 ++ (wsX5_load_r3 ++ (wsX5_load_r4 ++ (wsX5_load_r5 ++ wsX5_load_r6))))) ++ wsX50 ++ wsX20 ++ wsX10 ++ wsX40 ++ wsX00)
def wsX5_doDeed_r1 : List Cond := [Cond.fieldLink RX5 32 "ZoneSampler" "pad" "LZoneSampler$Pad;", Cond.fieldLink RX5 10 "ZoneSampler" "now" "LZoneSampler$State;", Cond.methodLink RX5 85 yX2_strike, Cond.instanceMethod yX2_strike, Cond.selects RX2 yX2_strike yX2_strike, Cond.initialized RX2, Cond.code yX2_strike cX2_strike 5 (some .int), Cond.fieldLink RX2 41 "ZoneSampler$State" "notes" "I", Cond.fieldLink RX2 14 "ZoneSampler$State" "zones" "LZoneSampler$Table;", Cond.methodLink RX2 85 yX2_moveHeld, Cond.instanceMethod yX2_moveHeld, Cond.selects RX2 yX2_moveHeld yX2_moveHeld, Cond.code yX2_moveHeld cX2_moveHeld 5 (some .int), Cond.fieldLink RX2 20 "ZoneSampler$State" "voices" "LZoneSampler$Table;", Cond.methodLink RX2 64 yX4_rows, Cond.instanceMethod yX4_rows, Cond.selects RX4 yX4_rows yX4_rows, Cond.initialized RX4, Cond.code yX4_rows cX4_rows 1 (some .int), Cond.fieldLink RX4 17 "ZoneSampler$Table" "rows" "I", Cond.methodLink RX2 67 yX4_get, Cond.instanceMethod yX4_get, Cond.selects RX4 yX4_get yX4_get, Cond.code yX4_get cX4_get 4 (some .int)]
def wsX5_doDeed_r2 : List Cond := [Cond.fieldLink RX4 7 "ZoneSampler$Table" "width" "I", Cond.fieldLink RX4 13 "ZoneSampler$Table" "cells" "[I", Cond.methodLink RX2 56 yX4_put, Cond.instanceMethod yX4_put, Cond.selects RX4 yX4_put yX4_put, Cond.code yX4_put cX4_put 5 none, Cond.methodLink RX2 82 yX2_sounds, Cond.instanceMethod yX2_sounds, Cond.selects RX2 yX2_sounds yX2_sounds, Cond.code yX2_sounds cX2_sounds 8 (some .boolean), Cond.methodLink RX2 78 yX2_matches, Cond.instanceMethod yX2_matches, Cond.selects RX2 yX2_matches yX2_matches, Cond.code yX2_matches cX2_matches 4 (some .boolean), Cond.methodLink RX2 45 yX2_number, Cond.instanceMethod yX2_number, Cond.selects RX2 yX2_number yX2_number, Cond.code yX2_number cX2_number 2 (some .int), Cond.fieldLink RX2 23 "ZoneSampler$State" "numbers" "[I", Cond.methodLink RX2 88 yX2_begin, Cond.instanceMethod yX2_begin, Cond.selects RX2 yX2_begin yX2_begin, Cond.code yX2_begin cX2_begin 5 none, Cond.methodLink RX2 94 yX2_choke]
def wsX5_doDeed_r3 : List Cond := [Cond.instanceMethod yX2_choke, Cond.selects RX2 yX2_choke yX2_choke, Cond.code yX2_choke cX2_choke 4 none, Cond.methodLink RX2 71 yX4_removeRow, Cond.instanceMethod yX4_removeRow, Cond.selects RX4 yX4_removeRow yX4_removeRow, Cond.code yX4_removeRow cX4_removeRow 3 none, Cond.methodLink RX4 20 yX4_has, Cond.instanceMethod yX4_has, Cond.selects RX4 yX4_has yX4_has, Cond.code yX4_has cX4_has 2 (some .boolean), Cond.methodLink RX2 75 yX2_grow, Cond.instanceMethod yX2_grow, Cond.selects RX2 yX2_grow yX2_grow, Cond.code yX2_grow cX2_grow 3 none, Cond.methodLink RX2 49 yX2_putNumber, Cond.instanceMethod yX2_putNumber, Cond.selects RX2 yX2_putNumber yX2_putNumber, Cond.code yX2_putNumber cX2_putNumber 3 none, Cond.methodLink RX2 97 yX2_stealDownTo, Cond.instanceMethod yX2_stealDownTo, Cond.selects RX2 yX2_stealDownTo yX2_stealDownTo, Cond.code yX2_stealDownTo cX2_stealDownTo 5 none, Cond.methodLink RX2 100 yX2_stealRank]
def wsX5_doDeed_r4 : List Cond := [Cond.instanceMethod yX2_stealRank, Cond.selects RX2 yX2_stealRank yX2_stealRank, Cond.code yX2_stealRank cX2_stealRank 2 (some .int), Cond.methodLink RX2 52 yX4_addRow, Cond.instanceMethod yX4_addRow, Cond.selects RX4 yX4_addRow yX4_addRow, Cond.code yX4_addRow cX4_addRow 1 (some .int), Cond.methodLink RX2 91 yX2_passTurns, Cond.instanceMethod yX2_passTurns, Cond.selects RX2 yX2_passTurns yX2_passTurns, Cond.code yX2_passTurns cX2_passTurns 6 none, Cond.methodLink RX5 88 yX2_release, Cond.instanceMethod yX2_release, Cond.selects RX2 yX2_release yX2_release, Cond.code yX2_release cX2_release 2 (some .int), Cond.fieldLink RX2 37 "ZoneSampler$State" "pedalDown" "Z", Cond.methodLink RX5 91 yX2_tread, Cond.instanceMethod yX2_tread, Cond.selects RX2 yX2_tread yX2_tread, Cond.code yX2_tread cX2_tread 3 (some .int), Cond.methodLink RX5 94 yX2_runTicks, Cond.instanceMethod yX2_runTicks, Cond.selects RX2 yX2_runTicks yX2_runTicks, Cond.code yX2_runTicks cX2_runTicks 5 (some .int)]
def wsX5_doDeed_r5 : List Cond := [Cond.methodLink RX2 103 yX2_wear, Cond.instanceMethod yX2_wear, Cond.selects RX2 yX2_wear yX2_wear, Cond.code yX2_wear cX2_wear 4 none, Cond.methodLink RX2 106 yX2_fadeOf, Cond.instanceMethod yX2_fadeOf, Cond.selects RX2 yX2_fadeOf yX2_fadeOf, Cond.code yX2_fadeOf cX2_fadeOf 2 (some .int)]
def wsX5_doDeed : List Cond := .code yX5_doDeed cX5_doDeed 1 none :: ((wsX5_doDeed_r1 ++ (wsX5_doDeed_r2 ++ (wsX5_doDeed_r3 ++ (wsX5_doDeed_r4 ++ wsX5_doDeed_r5)))) ++ wsX50 ++ wsX10 ++ wsX20 ++ wsX40)
def wsX5_play_r1 : List Cond := [Cond.fieldLink RX5 32 "ZoneSampler" "pad" "LZoneSampler$Pad;", Cond.fieldLink RX5 25 "ZoneSampler" "history" "LZoneSampler$History;", Cond.fieldLink RX5 10 "ZoneSampler" "now" "LZoneSampler$State;", Cond.methodLink RX5 124 yX1_faultAs, Cond.instanceMethod yX1_faultAs, Cond.selects RX1 yX1_faultAs yX1_faultAs, Cond.initialized RX1, Cond.code yX1_faultAs cX1_faultAs 5 (some .int), Cond.fieldLink RX1 19 "ZoneSampler$Pad" "at" "I", Cond.fieldLink RX1 15 "ZoneSampler$Pad" "length" "I", Cond.methodLink RX1 22 yX1_rewind, Cond.instanceMethod yX1_rewind, Cond.selects RX1 yX1_rewind yX1_rewind, Cond.code yX1_rewind cX1_rewind 1 none, Cond.methodLink RX1 25 yX1_items, Cond.instanceMethod yX1_items, Cond.selects RX1 yX1_items yX1_items, Cond.code yX1_items cX1_items 3 (some .int), Cond.fieldLink RX1 9 "ZoneSampler$Pad" "signs" "[C", Cond.methodLink RX1 29 yX1_readZone, Cond.instanceMethod yX1_readZone, Cond.selects RX1 yX1_readZone yX1_readZone, Cond.code yX1_readZone cX1_readZone 2 (some .boolean), Cond.fieldLink RX1 47 "ZoneSampler$Pad" "value" "I"]
def wsX5_play_r2 : List Cond := [Cond.fieldLink RX1 50 "ZoneSampler$Pad" "low" "I", Cond.fieldLink RX1 53 "ZoneSampler$Pad" "high" "I", Cond.fieldLink RX1 56 "ZoneSampler$Pad" "softest" "I", Cond.fieldLink RX1 59 "ZoneSampler$Pad" "hardest" "I", Cond.fieldLink RX1 62 "ZoneSampler$Pad" "lasting" "I", Cond.fieldLink RX1 68 "ZoneSampler$Pad" "group" "I", Cond.fieldLink RX1 71 "ZoneSampler$Pad" "robin" "I", Cond.methodLink RX1 43 yX1_readNumber, Cond.instanceMethod yX1_readNumber, Cond.selects RX1 yX1_readNumber yX1_readNumber, Cond.code yX1_readNumber cX1_readNumber 8 (some .boolean), Cond.methodLink RX1 40 yX1_sign, Cond.instanceMethod yX1_sign, Cond.selects RX1 yX1_sign yX1_sign, Cond.code yX1_sign cX1_sign 1 (some .int), Cond.methodLink RX1 89 yX1_canBegin, Cond.static yX1_canBegin, Cond.code yX1_canBegin cX1_canBegin 5 (some .boolean), Cond.methodLink RX1 36 yX1_readSign, Cond.instanceMethod yX1_readSign, Cond.selects RX1 yX1_readSign yX1_readSign, Cond.code yX1_readSign cX1_readSign 3 (some .boolean), Cond.methodLink RX1 65 yX1_readMark, Cond.instanceMethod yX1_readMark]
def wsX5_play_r3 : List Cond := [Cond.selects RX1 yX1_readMark yX1_readMark, Cond.code yX1_readMark cX1_readMark 3 (some .boolean), Cond.methodLink RX1 33 yX1_readDeed, Cond.instanceMethod yX1_readDeed, Cond.selects RX1 yX1_readDeed yX1_readDeed, Cond.code yX1_readDeed cX1_readDeed 1 (some .boolean), Cond.fieldLink RX1 74 "ZoneSampler$Pad" "deed" "I", Cond.methodLink RX1 77 yX1_readDeedKey, Cond.instanceMethod yX1_readDeedKey, Cond.selects RX1 yX1_readDeedKey yX1_readDeedKey, Cond.code yX1_readDeedKey cX1_readDeedKey 2 (some .boolean), Cond.fieldLink RX1 83 "ZoneSampler$Pad" "deedKey" "I", Cond.methodLink RX1 80 yX1_readAmount, Cond.instanceMethod yX1_readAmount, Cond.selects RX1 yX1_readAmount yX1_readAmount, Cond.code yX1_readAmount cX1_readAmount 3 (some .boolean), Cond.fieldLink RX1 86 "ZoneSampler$Pad" "amount" "I", Cond.methodLink RX5 57 yX0_record, Cond.instanceMethod yX0_record, Cond.selects RX0 yX0_record yX0_record, Cond.initialized RX0, Cond.code yX0_record cX0_record 3 none, Cond.fieldLink RX0 27 "ZoneSampler$History" "kept" "I", Cond.fieldLink RX0 12 "ZoneSampler$History" "first" "LZoneSampler$State;"]
def wsX5_play_r4 : List Cond := [Cond.fieldLink RX0 18 "ZoneSampler$History" "second" "LZoneSampler$State;", Cond.fieldLink RX0 21 "ZoneSampler$History" "third" "LZoneSampler$State;", Cond.fieldLink RX0 24 "ZoneSampler$History" "fourth" "LZoneSampler$State;", Cond.methodLink RX0 31 yX0_stateAt, Cond.instanceMethod yX0_stateAt, Cond.selects RX0 yX0_stateAt yX0_stateAt, Cond.code yX0_stateAt cX0_stateAt 2 (some (.object "ZoneSampler$State")), Cond.methodLink RX0 35 yX2_copyFrom, Cond.instanceMethod yX2_copyFrom, Cond.selects RX2 yX2_copyFrom yX2_copyFrom, Cond.initialized RX2, Cond.code yX2_copyFrom cX2_copyFrom 2 none, Cond.fieldLink RX2 14 "ZoneSampler$State" "zones" "LZoneSampler$Table;", Cond.fieldLink RX2 20 "ZoneSampler$State" "voices" "LZoneSampler$Table;", Cond.fieldLink RX2 23 "ZoneSampler$State" "numbers" "[I", Cond.methodLink RX2 31 arraycopyName, Cond.native arraycopyName, Cond.static arraycopyName, Cond.initialized "java/lang/System", Cond.fieldLink RX2 37 "ZoneSampler$State" "pedalDown" "Z", Cond.fieldLink RX2 41 "ZoneSampler$State" "notes" "I", Cond.methodLink RX2 27 yX4_copyFrom, Cond.instanceMethod yX4_copyFrom, Cond.selects RX4 yX4_copyFrom yX4_copyFrom]
def wsX5_play_r5 : List Cond := [Cond.initialized RX4, Cond.code yX4_copyFrom cX4_copyFrom 2 none, Cond.fieldLink RX4 13 "ZoneSampler$Table" "cells" "[I", Cond.methodLink RX4 28 Lib.Math.min.name, Cond.static Lib.Math.min.name, Cond.initialized "java/lang/Math", Cond.code Lib.Math.min.name Lib.Math.min.code 2 (some .int), Cond.methodLink RX4 33 arraycopyName, Cond.fieldLink RX4 17 "ZoneSampler$Table" "rows" "I", Cond.methodLink RX5 103 yX2_number, Cond.instanceMethod yX2_number, Cond.selects RX2 yX2_number yX2_number, Cond.code yX2_number cX2_number 2 (some .int), Cond.methodLink RX5 127 yX1_items, Cond.methodLink RX5 130 yX1_rewind, Cond.methodLink RX5 162 yX1_readDeed, Cond.methodLink RX5 165 yX5_doDeed, Cond.instanceMethod yX5_doDeed, Cond.selects RX5 yX5_doDeed yX5_doDeed, Cond.initialized RX5, Cond.code yX5_doDeed cX5_doDeed 1 none, Cond.methodLink RX5 85 yX2_strike, Cond.instanceMethod yX2_strike, Cond.selects RX2 yX2_strike yX2_strike]
def wsX5_play_r6 : List Cond := [Cond.code yX2_strike cX2_strike 5 (some .int), Cond.methodLink RX2 85 yX2_moveHeld, Cond.instanceMethod yX2_moveHeld, Cond.selects RX2 yX2_moveHeld yX2_moveHeld, Cond.code yX2_moveHeld cX2_moveHeld 5 (some .int), Cond.methodLink RX2 64 yX4_rows, Cond.instanceMethod yX4_rows, Cond.selects RX4 yX4_rows yX4_rows, Cond.code yX4_rows cX4_rows 1 (some .int), Cond.methodLink RX2 67 yX4_get, Cond.instanceMethod yX4_get, Cond.selects RX4 yX4_get yX4_get, Cond.code yX4_get cX4_get 4 (some .int), Cond.fieldLink RX4 7 "ZoneSampler$Table" "width" "I", Cond.methodLink RX2 56 yX4_put, Cond.instanceMethod yX4_put, Cond.selects RX4 yX4_put yX4_put, Cond.code yX4_put cX4_put 5 none, Cond.methodLink RX2 82 yX2_sounds, Cond.instanceMethod yX2_sounds, Cond.selects RX2 yX2_sounds yX2_sounds, Cond.code yX2_sounds cX2_sounds 8 (some .boolean), Cond.methodLink RX2 78 yX2_matches, Cond.instanceMethod yX2_matches]
def wsX5_play_r7 : List Cond := [Cond.selects RX2 yX2_matches yX2_matches, Cond.code yX2_matches cX2_matches 4 (some .boolean), Cond.methodLink RX2 45 yX2_number, Cond.methodLink RX2 88 yX2_begin, Cond.instanceMethod yX2_begin, Cond.selects RX2 yX2_begin yX2_begin, Cond.code yX2_begin cX2_begin 5 none, Cond.methodLink RX2 94 yX2_choke, Cond.instanceMethod yX2_choke, Cond.selects RX2 yX2_choke yX2_choke, Cond.code yX2_choke cX2_choke 4 none, Cond.methodLink RX2 71 yX4_removeRow, Cond.instanceMethod yX4_removeRow, Cond.selects RX4 yX4_removeRow yX4_removeRow, Cond.code yX4_removeRow cX4_removeRow 3 none, Cond.methodLink RX4 20 yX4_has, Cond.instanceMethod yX4_has, Cond.selects RX4 yX4_has yX4_has, Cond.code yX4_has cX4_has 2 (some .boolean), Cond.methodLink RX2 75 yX2_grow, Cond.instanceMethod yX2_grow, Cond.selects RX2 yX2_grow yX2_grow, Cond.code yX2_grow cX2_grow 3 none, Cond.methodLink RX2 49 yX2_putNumber]
def wsX5_play_r8 : List Cond := [Cond.instanceMethod yX2_putNumber, Cond.selects RX2 yX2_putNumber yX2_putNumber, Cond.code yX2_putNumber cX2_putNumber 3 none, Cond.methodLink RX2 97 yX2_stealDownTo, Cond.instanceMethod yX2_stealDownTo, Cond.selects RX2 yX2_stealDownTo yX2_stealDownTo, Cond.code yX2_stealDownTo cX2_stealDownTo 5 none, Cond.methodLink RX2 100 yX2_stealRank, Cond.instanceMethod yX2_stealRank, Cond.selects RX2 yX2_stealRank yX2_stealRank, Cond.code yX2_stealRank cX2_stealRank 2 (some .int), Cond.methodLink RX2 52 yX4_addRow, Cond.instanceMethod yX4_addRow, Cond.selects RX4 yX4_addRow yX4_addRow, Cond.code yX4_addRow cX4_addRow 1 (some .int), Cond.methodLink RX2 91 yX2_passTurns, Cond.instanceMethod yX2_passTurns, Cond.selects RX2 yX2_passTurns yX2_passTurns, Cond.code yX2_passTurns cX2_passTurns 6 none, Cond.methodLink RX5 88 yX2_release, Cond.instanceMethod yX2_release, Cond.selects RX2 yX2_release yX2_release, Cond.code yX2_release cX2_release 2 (some .int), Cond.methodLink RX5 91 yX2_tread]
def wsX5_play_r9 : List Cond := [Cond.instanceMethod yX2_tread, Cond.selects RX2 yX2_tread yX2_tread, Cond.code yX2_tread cX2_tread 3 (some .int), Cond.methodLink RX5 94 yX2_runTicks, Cond.instanceMethod yX2_runTicks, Cond.selects RX2 yX2_runTicks yX2_runTicks, Cond.code yX2_runTicks cX2_runTicks 5 (some .int), Cond.methodLink RX2 103 yX2_wear, Cond.instanceMethod yX2_wear, Cond.selects RX2 yX2_wear yX2_wear, Cond.code yX2_wear cX2_wear 4 none, Cond.methodLink RX2 106 yX2_fadeOf, Cond.instanceMethod yX2_fadeOf, Cond.selects RX2 yX2_fadeOf yX2_fadeOf, Cond.code yX2_fadeOf cX2_fadeOf 2 (some .int), Cond.methodLink RX5 159 yX1_readSign, Cond.methodLink RX5 121 yX1_empty, Cond.instanceMethod yX1_empty, Cond.selects RX1 yX1_empty yX1_empty, Cond.code yX1_empty cX1_empty 1 none]
def wsX5_play : List Cond := .code yX5_play cX5_play 4 (some .int) :: ((wsX5_play_r1 ++ (wsX5_play_r2 ++ (wsX5_play_r3 ++ (wsX5_play_r4 ++ (wsX5_play_r5 ++ (wsX5_play_r6 ++ (wsX5_play_r7 ++ (wsX5_play_r8 ++ wsX5_play_r9)))))))) ++ wsX50 ++ wsX10 ++ wsX00 ++ wsX20 ++ wsX40)
def wsX5_zoneOf_r1 : List Cond := [Cond.fieldLink RX5 10 "ZoneSampler" "now" "LZoneSampler$State;", Cond.methodLink RX5 65 yX4_has, Cond.instanceMethod yX4_has, Cond.selects RX4 yX4_has yX4_has, Cond.initialized RX4, Cond.code yX4_has cX4_has 2 (some .boolean), Cond.fieldLink RX4 17 "ZoneSampler$Table" "rows" "I", Cond.methodLink RX5 43 yX5_within, Cond.static yX5_within, Cond.initialized RX5, Cond.code yX5_within cX5_within 3 (some .boolean), Cond.methodLink RX5 73 yX4_rowsWith, Cond.instanceMethod yX4_rowsWith, Cond.selects RX4 yX4_rowsWith yX4_rowsWith, Cond.code yX4_rowsWith cX4_rowsWith 5 (some .int), Cond.methodLink RX4 24 yX4_get, Cond.instanceMethod yX4_get, Cond.selects RX4 yX4_get yX4_get, Cond.code yX4_get cX4_get 4 (some .int), Cond.fieldLink RX4 7 "ZoneSampler$Table" "width" "I", Cond.fieldLink RX4 13 "ZoneSampler$Table" "cells" "[I", Cond.methodLink RX5 171 yX2_canSound, Cond.instanceMethod yX2_canSound, Cond.selects RX2 yX2_canSound yX2_canSound]
def wsX5_zoneOf_r2 : List Cond := [Cond.initialized RX2, Cond.code yX2_canSound cX2_canSound 4 (some .boolean), Cond.fieldLink RX2 14 "ZoneSampler$State" "zones" "LZoneSampler$Table;", Cond.methodLink RX2 67 yX4_get, Cond.methodLink RX2 82 yX2_sounds, Cond.instanceMethod yX2_sounds, Cond.selects RX2 yX2_sounds yX2_sounds, Cond.code yX2_sounds cX2_sounds 8 (some .boolean), Cond.methodLink RX2 78 yX2_matches, Cond.instanceMethod yX2_matches, Cond.selects RX2 yX2_matches yX2_matches, Cond.code yX2_matches cX2_matches 4 (some .boolean), Cond.methodLink RX2 64 yX4_rows, Cond.instanceMethod yX4_rows, Cond.selects RX4 yX4_rows yX4_rows, Cond.code yX4_rows cX4_rows 1 (some .int), Cond.methodLink RX2 45 yX2_number, Cond.instanceMethod yX2_number, Cond.selects RX2 yX2_number yX2_number, Cond.code yX2_number cX2_number 2 (some .int), Cond.fieldLink RX2 23 "ZoneSampler$State" "numbers" "[I", Cond.methodLink RX5 174 yX4_get]
def wsX5_zoneOf : List Cond := .code yX5_zoneOf cX5_zoneOf 3 (some .int) :: ((wsX5_zoneOf_r1 ++ wsX5_zoneOf_r2) ++ wsX50 ++ wsX20 ++ wsX40)
def wsX5_voice_r1 : List Cond := [Cond.fieldLink RX5 10 "ZoneSampler" "now" "LZoneSampler$State;", Cond.methodLink RX5 65 yX4_has, Cond.instanceMethod yX4_has, Cond.selects RX4 yX4_has yX4_has, Cond.initialized RX4, Cond.code yX4_has cX4_has 2 (some .boolean), Cond.fieldLink RX4 17 "ZoneSampler$Table" "rows" "I", Cond.methodLink RX5 43 yX5_within, Cond.static yX5_within, Cond.initialized RX5, Cond.code yX5_within cX5_within 3 (some .boolean), Cond.methodLink RX5 177 yX2_stealPlace, Cond.instanceMethod yX2_stealPlace, Cond.selects RX2 yX2_stealPlace yX2_stealPlace, Cond.initialized RX2, Cond.code yX2_stealPlace cX2_stealPlace 6 (some .int), Cond.fieldLink RX2 20 "ZoneSampler$State" "voices" "LZoneSampler$Table;", Cond.methodLink RX2 100 yX2_stealRank, Cond.instanceMethod yX2_stealRank, Cond.selects RX2 yX2_stealRank yX2_stealRank, Cond.code yX2_stealRank cX2_stealRank 2 (some .int), Cond.methodLink RX2 45 yX2_number, Cond.instanceMethod yX2_number, Cond.selects RX2 yX2_number yX2_number]
def wsX5_voice_r2 : List Cond := [Cond.code yX2_number cX2_number 2 (some .int), Cond.fieldLink RX2 23 "ZoneSampler$State" "numbers" "[I", Cond.methodLink RX2 67 yX4_get, Cond.instanceMethod yX4_get, Cond.selects RX4 yX4_get yX4_get, Cond.code yX4_get cX4_get 4 (some .int), Cond.fieldLink RX4 7 "ZoneSampler$Table" "width" "I", Cond.fieldLink RX4 13 "ZoneSampler$Table" "cells" "[I", Cond.methodLink RX2 64 yX4_rows, Cond.instanceMethod yX4_rows, Cond.selects RX4 yX4_rows yX4_rows, Cond.code yX4_rows cX4_rows 1 (some .int), Cond.methodLink RX5 174 yX4_get]
def wsX5_voice : List Cond := .code yX5_voice cX5_voice 3 (some .int) :: ((wsX5_voice_r1 ++ wsX5_voice_r2) ++ wsX50 ++ wsX20 ++ wsX40)
def wsX5_answers_r1 : List Cond := [Cond.fieldLink RX5 10 "ZoneSampler" "now" "LZoneSampler$State;", Cond.methodLink RX5 81 yX5_isNote, Cond.static yX5_isNote, Cond.initialized RX5, Cond.code yX5_isNote cX5_isNote 2 (some .boolean), Cond.methodLink RX5 43 yX5_within, Cond.static yX5_within, Cond.code yX5_within cX5_within 3 (some .boolean), Cond.methodLink RX5 180 yX2_matching, Cond.instanceMethod yX2_matching, Cond.selects RX2 yX2_matching yX2_matching, Cond.initialized RX2, Cond.code yX2_matching cX2_matching 5 (some .int), Cond.fieldLink RX2 14 "ZoneSampler$State" "zones" "LZoneSampler$Table;", Cond.methodLink RX2 64 yX4_rows, Cond.instanceMethod yX4_rows, Cond.selects RX4 yX4_rows yX4_rows, Cond.initialized RX4, Cond.code yX4_rows cX4_rows 1 (some .int), Cond.fieldLink RX4 17 "ZoneSampler$Table" "rows" "I", Cond.methodLink RX2 78 yX2_matches, Cond.instanceMethod yX2_matches, Cond.selects RX2 yX2_matches yX2_matches, Cond.code yX2_matches cX2_matches 4 (some .boolean)]
def wsX5_answers_r2 : List Cond := [Cond.methodLink RX2 67 yX4_get, Cond.instanceMethod yX4_get, Cond.selects RX4 yX4_get yX4_get, Cond.code yX4_get cX4_get 4 (some .int), Cond.fieldLink RX4 7 "ZoneSampler$Table" "width" "I", Cond.fieldLink RX4 13 "ZoneSampler$Table" "cells" "[I"]
def wsX5_answers : List Cond := .code yX5_answers cX5_answers 3 (some .int) :: ((wsX5_answers_r1 ++ wsX5_answers_r2) ++ wsX50 ++ wsX20 ++ wsX40)
def wsX5_map_r1 : List Cond := [Cond.fieldLink RX5 39 "ZoneSampler" "survey" "LZoneSampler$Survey;", Cond.fieldLink RX5 10 "ZoneSampler" "now" "LZoneSampler$State;", Cond.methodLink RX5 43 yX5_within, Cond.static yX5_within, Cond.initialized RX5, Cond.code yX5_within cX5_within 3 (some .boolean), Cond.methodLink RX5 183 yX3_goByPlaces, Cond.instanceMethod yX3_goByPlaces, Cond.selects RX3 yX3_goByPlaces yX3_goByPlaces, Cond.initialized RX3, Cond.code yX3_goByPlaces cX3_goByPlaces 4 none, Cond.methodLink RX3 28 yX3_start, Cond.instanceMethod yX3_start, Cond.selects RX3 yX3_start yX3_start, Cond.code yX3_start cX3_start 2 none, Cond.fieldLink RX3 9 "ZoneSampler$Survey" "depths" "[I", Cond.fieldLink RX3 15 "ZoneSampler$Survey" "holes" "I", Cond.fieldLink RX3 19 "ZoneSampler$Survey" "overlaps" "I", Cond.fieldLink RX3 22 "ZoneSampler$Survey" "deepest" "I", Cond.fieldLink RX3 25 "ZoneSampler$Survey" "firstHole" "I", Cond.methodLink RX3 31 yX2_matching, Cond.instanceMethod yX2_matching, Cond.selects RX2 yX2_matching yX2_matching, Cond.initialized RX2]
def wsX5_map_r2 : List Cond := [Cond.code yX2_matching cX2_matching 5 (some .int), Cond.fieldLink RX2 14 "ZoneSampler$State" "zones" "LZoneSampler$Table;", Cond.methodLink RX2 64 yX4_rows, Cond.instanceMethod yX4_rows, Cond.selects RX4 yX4_rows yX4_rows, Cond.initialized RX4, Cond.code yX4_rows cX4_rows 1 (some .int), Cond.fieldLink RX4 17 "ZoneSampler$Table" "rows" "I", Cond.methodLink RX2 78 yX2_matches, Cond.instanceMethod yX2_matches, Cond.selects RX2 yX2_matches yX2_matches, Cond.code yX2_matches cX2_matches 4 (some .boolean), Cond.methodLink RX2 67 yX4_get, Cond.instanceMethod yX4_get, Cond.selects RX4 yX4_get yX4_get, Cond.code yX4_get cX4_get 4 (some .int), Cond.fieldLink RX4 7 "ZoneSampler$Table" "width" "I", Cond.fieldLink RX4 13 "ZoneSampler$Table" "cells" "[I", Cond.methodLink RX3 37 yX3_see, Cond.instanceMethod yX3_see, Cond.selects RX3 yX3_see yX3_see, Cond.code yX3_see cX3_see 3 none, Cond.methodLink RX3 58 Lib.Math.max.name, Cond.static Lib.Math.max.name]
def wsX5_map_r3 : List Cond := [Cond.initialized "java/lang/Math", Cond.code Lib.Math.max.name Lib.Math.max.code 2 (some .int), Cond.methodLink RX5 186 yX3_goByEdges, Cond.instanceMethod yX3_goByEdges, Cond.selects RX3 yX3_goByEdges yX3_goByEdges, Cond.code yX3_goByEdges cX3_goByEdges 4 none, Cond.methodLink RX3 45 yX4_rows, Cond.methodLink RX3 51 yX4_get, Cond.methodLink RX3 54 yX3_deepen, Cond.instanceMethod yX3_deepen, Cond.selects RX3 yX3_deepen yX3_deepen, Cond.code yX3_deepen cX3_deepen 5 none, Cond.methodLink RX5 189 yX3_finding, Cond.instanceMethod yX3_finding, Cond.selects RX3 yX3_finding yX3_finding, Cond.code yX3_finding cX3_finding 2 (some .int)]
def wsX5_map : List Cond := .code yX5_map cX5_map 3 (some .int) :: ((wsX5_map_r1 ++ (wsX5_map_r2 ++ wsX5_map_r3)) ++ wsX50 ++ wsX30 ++ wsX20 ++ wsX40)
def wsX5_count_r1 : List Cond := [Cond.fieldLink RX5 10 "ZoneSampler" "now" "LZoneSampler$State;", Cond.fieldLink RX5 32 "ZoneSampler" "pad" "LZoneSampler$Pad;", Cond.fieldLink RX5 25 "ZoneSampler" "history" "LZoneSampler$History;", Cond.methodLink RX5 43 yX5_within, Cond.static yX5_within, Cond.initialized RX5, Cond.code yX5_within cX5_within 3 (some .boolean), Cond.methodLink RX5 103 yX2_number, Cond.instanceMethod yX2_number, Cond.selects RX2 yX2_number yX2_number, Cond.initialized RX2, Cond.code yX2_number cX2_number 2 (some .int), Cond.fieldLink RX2 23 "ZoneSampler$State" "numbers" "[I", Cond.methodLink RX5 51 yX4_rows, Cond.instanceMethod yX4_rows, Cond.selects RX4 yX4_rows yX4_rows, Cond.initialized RX4, Cond.code yX4_rows cX4_rows 1 (some .int), Cond.fieldLink RX4 17 "ZoneSampler$Table" "rows" "I", Cond.methodLink RX5 73 yX4_rowsWith, Cond.instanceMethod yX4_rowsWith, Cond.selects RX4 yX4_rowsWith yX4_rowsWith, Cond.code yX4_rowsWith cX4_rowsWith 5 (some .int), Cond.methodLink RX4 24 yX4_get]
def wsX5_count_r2 : List Cond := [Cond.instanceMethod yX4_get, Cond.selects RX4 yX4_get yX4_get, Cond.code yX4_get cX4_get 4 (some .int), Cond.fieldLink RX4 7 "ZoneSampler$Table" "width" "I", Cond.fieldLink RX4 13 "ZoneSampler$Table" "cells" "[I", Cond.methodLink RX5 192 yX4_sumOf, Cond.instanceMethod yX4_sumOf, Cond.selects RX4 yX4_sumOf yX4_sumOf, Cond.code yX4_sumOf cX4_sumOf 4 (some .int), Cond.methodLink RX5 114 yX1_length, Cond.instanceMethod yX1_length, Cond.selects RX1 yX1_length yX1_length, Cond.initialized RX1, Cond.code yX1_length cX1_length 1 (some .int), Cond.fieldLink RX1 15 "ZoneSampler$Pad" "length" "I", Cond.methodLink RX5 199 yX0_size, Cond.instanceMethod yX0_size, Cond.selects RX0 yX0_size yX0_size, Cond.initialized RX0, Cond.code yX0_size cX0_size 1 (some .int), Cond.fieldLink RX0 27 "ZoneSampler$History" "kept" "I"]
def wsX5_count : List Cond := .code yX5_count cX5_count 2 (some .int) :: ((wsX5_count_r1 ++ wsX5_count_r2) ++ wsX50 ++ wsX20 ++ wsX40 ++ wsX10 ++ wsX00)
def wsX5_loudness : List Cond := .code yX5_loudness cX5_loudness 2 (some .double) :: ([.fieldLink RX5 10 "ZoneSampler" "now" "LZoneSampler$State;", .methodLink RX5 51 yX4_rows, .instanceMethod yX4_rows, .selects RX4 yX4_rows yX4_rows, .initialized RX4, .code yX4_rows cX4_rows 1 (some .int), .fieldLink RX4 17 "ZoneSampler$Table" "rows" "I", .methodLink RX5 192 yX4_sumOf, .instanceMethod yX4_sumOf, .selects RX4 yX4_sumOf yX4_sumOf, .code yX4_sumOf cX4_sumOf 4 (some .int), .methodLink RX4 24 yX4_get, .instanceMethod yX4_get, .selects RX4 yX4_get yX4_get, .code yX4_get cX4_get 4 (some .int), .fieldLink RX4 7 "ZoneSampler$Table" "width" "I", .fieldLink RX4 13 "ZoneSampler$Table" "cells" "[I"] ++ wsX50 ++ wsX20 ++ wsX40)
def wsX5_ifHit_r1 : List Cond := [Cond.fieldLink RX5 10 "ZoneSampler" "now" "LZoneSampler$State;", Cond.fieldLink RX5 16 "ZoneSampler" "trial" "LZoneSampler$State;", Cond.methodLink RX5 81 yX5_isNote, Cond.static yX5_isNote, Cond.initialized RX5, Cond.code yX5_isNote cX5_isNote 2 (some .boolean), Cond.methodLink RX5 43 yX5_within, Cond.static yX5_within, Cond.code yX5_within cX5_within 3 (some .boolean), Cond.methodLink RX5 202 yX2_firstSounding, Cond.instanceMethod yX2_firstSounding, Cond.selects RX2 yX2_firstSounding yX2_firstSounding, Cond.initialized RX2, Cond.code yX2_firstSounding cX2_firstSounding 4 (some .int), Cond.fieldLink RX2 14 "ZoneSampler$State" "zones" "LZoneSampler$Table;", Cond.methodLink RX2 64 yX4_rows, Cond.instanceMethod yX4_rows, Cond.selects RX4 yX4_rows yX4_rows, Cond.initialized RX4, Cond.code yX4_rows cX4_rows 1 (some .int), Cond.fieldLink RX4 17 "ZoneSampler$Table" "rows" "I", Cond.methodLink RX2 82 yX2_sounds, Cond.instanceMethod yX2_sounds, Cond.selects RX2 yX2_sounds yX2_sounds]
def wsX5_ifHit_r2 : List Cond := [Cond.code yX2_sounds cX2_sounds 8 (some .boolean), Cond.methodLink RX2 78 yX2_matches, Cond.instanceMethod yX2_matches, Cond.selects RX2 yX2_matches yX2_matches, Cond.code yX2_matches cX2_matches 4 (some .boolean), Cond.methodLink RX2 67 yX4_get, Cond.instanceMethod yX4_get, Cond.selects RX4 yX4_get yX4_get, Cond.code yX4_get cX4_get 4 (some .int), Cond.fieldLink RX4 7 "ZoneSampler$Table" "width" "I", Cond.fieldLink RX4 13 "ZoneSampler$Table" "cells" "[I", Cond.methodLink RX2 45 yX2_number, Cond.instanceMethod yX2_number, Cond.selects RX2 yX2_number yX2_number, Cond.code yX2_number cX2_number 2 (some .int), Cond.fieldLink RX2 23 "ZoneSampler$State" "numbers" "[I", Cond.methodLink RX5 205 yX2_copyFrom, Cond.instanceMethod yX2_copyFrom, Cond.selects RX2 yX2_copyFrom yX2_copyFrom, Cond.code yX2_copyFrom cX2_copyFrom 2 none, Cond.fieldLink RX2 20 "ZoneSampler$State" "voices" "LZoneSampler$Table;", Cond.methodLink RX2 31 arraycopyName, Cond.native arraycopyName, Cond.static arraycopyName]
def wsX5_ifHit_r3 : List Cond := [Cond.initialized "java/lang/System", Cond.fieldLink RX2 37 "ZoneSampler$State" "pedalDown" "Z", Cond.fieldLink RX2 41 "ZoneSampler$State" "notes" "I", Cond.methodLink RX2 27 yX4_copyFrom, Cond.instanceMethod yX4_copyFrom, Cond.selects RX4 yX4_copyFrom yX4_copyFrom, Cond.code yX4_copyFrom cX4_copyFrom 2 none, Cond.methodLink RX4 28 Lib.Math.min.name, Cond.static Lib.Math.min.name, Cond.initialized "java/lang/Math", Cond.code Lib.Math.min.name Lib.Math.min.code 2 (some .int), Cond.methodLink RX4 33 arraycopyName, Cond.methodLink RX5 85 yX2_strike, Cond.instanceMethod yX2_strike, Cond.selects RX2 yX2_strike yX2_strike, Cond.code yX2_strike cX2_strike 5 (some .int), Cond.methodLink RX2 85 yX2_moveHeld, Cond.instanceMethod yX2_moveHeld, Cond.selects RX2 yX2_moveHeld yX2_moveHeld, Cond.code yX2_moveHeld cX2_moveHeld 5 (some .int), Cond.methodLink RX2 56 yX4_put, Cond.instanceMethod yX4_put, Cond.selects RX4 yX4_put yX4_put, Cond.code yX4_put cX4_put 5 none]
def wsX5_ifHit_r4 : List Cond := [Cond.methodLink RX2 88 yX2_begin, Cond.instanceMethod yX2_begin, Cond.selects RX2 yX2_begin yX2_begin, Cond.code yX2_begin cX2_begin 5 none, Cond.methodLink RX2 94 yX2_choke, Cond.instanceMethod yX2_choke, Cond.selects RX2 yX2_choke yX2_choke, Cond.code yX2_choke cX2_choke 4 none, Cond.methodLink RX2 71 yX4_removeRow, Cond.instanceMethod yX4_removeRow, Cond.selects RX4 yX4_removeRow yX4_removeRow, Cond.code yX4_removeRow cX4_removeRow 3 none, Cond.methodLink RX4 20 yX4_has, Cond.instanceMethod yX4_has, Cond.selects RX4 yX4_has yX4_has, Cond.code yX4_has cX4_has 2 (some .boolean), Cond.methodLink RX2 75 yX2_grow, Cond.instanceMethod yX2_grow, Cond.selects RX2 yX2_grow yX2_grow, Cond.code yX2_grow cX2_grow 3 none, Cond.methodLink RX2 49 yX2_putNumber, Cond.instanceMethod yX2_putNumber, Cond.selects RX2 yX2_putNumber yX2_putNumber, Cond.code yX2_putNumber cX2_putNumber 3 none]
def wsX5_ifHit_r5 : List Cond := [Cond.methodLink RX2 97 yX2_stealDownTo, Cond.instanceMethod yX2_stealDownTo, Cond.selects RX2 yX2_stealDownTo yX2_stealDownTo, Cond.code yX2_stealDownTo cX2_stealDownTo 5 none, Cond.methodLink RX2 100 yX2_stealRank, Cond.instanceMethod yX2_stealRank, Cond.selects RX2 yX2_stealRank yX2_stealRank, Cond.code yX2_stealRank cX2_stealRank 2 (some .int), Cond.methodLink RX2 52 yX4_addRow, Cond.instanceMethod yX4_addRow, Cond.selects RX4 yX4_addRow yX4_addRow, Cond.code yX4_addRow cX4_addRow 1 (some .int), Cond.methodLink RX2 91 yX2_passTurns, Cond.instanceMethod yX2_passTurns, Cond.selects RX2 yX2_passTurns yX2_passTurns, Cond.code yX2_passTurns cX2_passTurns 6 none, Cond.methodLink RX5 103 yX2_number, Cond.methodLink RX5 51 yX4_rows]
def wsX5_ifHit : List Cond := .code yX5_ifHit cX5_ifHit 5 (some .int) :: ((wsX5_ifHit_r1 ++ (wsX5_ifHit_r2 ++ (wsX5_ifHit_r3 ++ (wsX5_ifHit_r4 ++ wsX5_ifHit_r5)))) ++ wsX50 ++ wsX20 ++ wsX40)
def wsX5_silentIn_r1 : List Cond := [Cond.fieldLink RX5 10 "ZoneSampler" "now" "LZoneSampler$State;", Cond.methodLink RX5 211 Lib.Math.max.name, Cond.static Lib.Math.max.name, Cond.initialized "java/lang/Math", Cond.code Lib.Math.max.name Lib.Math.max.code 2 (some .int), Cond.methodLink RX5 51 yX4_rows, Cond.instanceMethod yX4_rows, Cond.selects RX4 yX4_rows yX4_rows, Cond.initialized RX4, Cond.code yX4_rows cX4_rows 1 (some .int), Cond.fieldLink RX4 17 "ZoneSampler$Table" "rows" "I", Cond.methodLink RX5 208 yX2_ticksLeft, Cond.instanceMethod yX2_ticksLeft, Cond.selects RX2 yX2_ticksLeft yX2_ticksLeft, Cond.initialized RX2, Cond.code yX2_ticksLeft cX2_ticksLeft 5 (some .int), Cond.methodLink RX2 109 Lib.Math.max.name, Cond.fieldLink RX2 20 "ZoneSampler$State" "voices" "LZoneSampler$Table;", Cond.fieldLink RX2 14 "ZoneSampler$State" "zones" "LZoneSampler$Table;", Cond.methodLink RX2 114 Lib.Math.min.name, Cond.static Lib.Math.min.name, Cond.code Lib.Math.min.name Lib.Math.min.code 2 (some .int), Cond.methodLink RX2 106 yX2_fadeOf, Cond.instanceMethod yX2_fadeOf]
def wsX5_silentIn_r2 : List Cond := [Cond.selects RX2 yX2_fadeOf yX2_fadeOf, Cond.code yX2_fadeOf cX2_fadeOf 2 (some .int), Cond.methodLink RX2 67 yX4_get, Cond.instanceMethod yX4_get, Cond.selects RX4 yX4_get yX4_get, Cond.code yX4_get cX4_get 4 (some .int), Cond.fieldLink RX4 7 "ZoneSampler$Table" "width" "I", Cond.fieldLink RX4 13 "ZoneSampler$Table" "cells" "[I", Cond.methodLink RX2 45 yX2_number, Cond.instanceMethod yX2_number, Cond.selects RX2 yX2_number yX2_number, Cond.code yX2_number cX2_number 2 (some .int), Cond.fieldLink RX2 23 "ZoneSampler$State" "numbers" "[I"]
def wsX5_silentIn : List Cond := .code yX5_silentIn cX5_silentIn 3 (some .int) :: ((wsX5_silentIn_r1 ++ wsX5_silentIn_r2) ++ wsX50 ++ wsX20 ++ wsX40)
def wsX5_chord_r1 : List Cond := [Cond.fieldLink RX5 10 "ZoneSampler" "now" "LZoneSampler$State;", Cond.methodLink RX5 43 yX5_within, Cond.static yX5_within, Cond.initialized RX5, Cond.code yX5_within cX5_within 3 (some .boolean), Cond.methodLink RX5 216 yX2_sounding, Cond.instanceMethod yX2_sounding, Cond.selects RX2 yX2_sounding yX2_sounding, Cond.initialized RX2, Cond.code yX2_sounding cX2_sounding 5 (some .int), Cond.fieldLink RX2 14 "ZoneSampler$State" "zones" "LZoneSampler$Table;", Cond.methodLink RX2 64 yX4_rows, Cond.instanceMethod yX4_rows, Cond.selects RX4 yX4_rows yX4_rows, Cond.initialized RX4, Cond.code yX4_rows cX4_rows 1 (some .int), Cond.fieldLink RX4 17 "ZoneSampler$Table" "rows" "I", Cond.methodLink RX2 82 yX2_sounds, Cond.instanceMethod yX2_sounds, Cond.selects RX2 yX2_sounds yX2_sounds, Cond.code yX2_sounds cX2_sounds 8 (some .boolean), Cond.methodLink RX2 78 yX2_matches, Cond.instanceMethod yX2_matches, Cond.selects RX2 yX2_matches yX2_matches]
def wsX5_chord_r2 : List Cond := [Cond.code yX2_matches cX2_matches 4 (some .boolean), Cond.methodLink RX2 67 yX4_get, Cond.instanceMethod yX4_get, Cond.selects RX4 yX4_get yX4_get, Cond.code yX4_get cX4_get 4 (some .int), Cond.fieldLink RX4 7 "ZoneSampler$Table" "width" "I", Cond.fieldLink RX4 13 "ZoneSampler$Table" "cells" "[I", Cond.methodLink RX2 45 yX2_number, Cond.instanceMethod yX2_number, Cond.selects RX2 yX2_number yX2_number, Cond.code yX2_number cX2_number 2 (some .int), Cond.fieldLink RX2 23 "ZoneSampler$State" "numbers" "[I"]
def wsX5_chord : List Cond := .code yX5_chord cX5_chord 6 (some .int) :: ((wsX5_chord_r1 ++ wsX5_chord_r2) ++ wsX50 ++ wsX20 ++ wsX40)
def wsX5_undo_r1 : List Cond := [Cond.fieldLink RX5 25 "ZoneSampler" "history" "LZoneSampler$History;", Cond.fieldLink RX5 10 "ZoneSampler" "now" "LZoneSampler$State;", Cond.methodLink RX5 199 yX0_size, Cond.instanceMethod yX0_size, Cond.selects RX0 yX0_size yX0_size, Cond.initialized RX0, Cond.code yX0_size cX0_size 1 (some .int), Cond.fieldLink RX0 27 "ZoneSampler$History" "kept" "I", Cond.methodLink RX5 219 yX0_goBack, Cond.instanceMethod yX0_goBack, Cond.selects RX0 yX0_goBack yX0_goBack, Cond.code yX0_goBack cX0_goBack 2 none, Cond.methodLink RX0 31 yX0_stateAt, Cond.instanceMethod yX0_stateAt, Cond.selects RX0 yX0_stateAt yX0_stateAt, Cond.code yX0_stateAt cX0_stateAt 2 (some (.object "ZoneSampler$State")), Cond.fieldLink RX0 12 "ZoneSampler$History" "first" "LZoneSampler$State;", Cond.fieldLink RX0 18 "ZoneSampler$History" "second" "LZoneSampler$State;", Cond.fieldLink RX0 21 "ZoneSampler$History" "third" "LZoneSampler$State;", Cond.fieldLink RX0 24 "ZoneSampler$History" "fourth" "LZoneSampler$State;", Cond.methodLink RX0 35 yX2_copyFrom, Cond.instanceMethod yX2_copyFrom, Cond.selects RX2 yX2_copyFrom yX2_copyFrom, Cond.initialized RX2]
def wsX5_undo_r2 : List Cond := [Cond.code yX2_copyFrom cX2_copyFrom 2 none, Cond.fieldLink RX2 14 "ZoneSampler$State" "zones" "LZoneSampler$Table;", Cond.fieldLink RX2 20 "ZoneSampler$State" "voices" "LZoneSampler$Table;", Cond.fieldLink RX2 23 "ZoneSampler$State" "numbers" "[I", Cond.methodLink RX2 31 arraycopyName, Cond.native arraycopyName, Cond.static arraycopyName, Cond.initialized "java/lang/System", Cond.fieldLink RX2 37 "ZoneSampler$State" "pedalDown" "Z", Cond.fieldLink RX2 41 "ZoneSampler$State" "notes" "I", Cond.methodLink RX2 27 yX4_copyFrom, Cond.instanceMethod yX4_copyFrom, Cond.selects RX4 yX4_copyFrom yX4_copyFrom, Cond.initialized RX4, Cond.code yX4_copyFrom cX4_copyFrom 2 none, Cond.fieldLink RX4 13 "ZoneSampler$Table" "cells" "[I", Cond.methodLink RX4 28 Lib.Math.min.name, Cond.static Lib.Math.min.name, Cond.initialized "java/lang/Math", Cond.code Lib.Math.min.name Lib.Math.min.code 2 (some .int), Cond.methodLink RX4 33 arraycopyName, Cond.fieldLink RX4 17 "ZoneSampler$Table" "rows" "I"]
def wsX5_undo : List Cond := .code yX5_undo cX5_undo 1 (some .int) :: ((wsX5_undo_r1 ++ wsX5_undo_r2) ++ wsX50 ++ wsX00 ++ wsX20 ++ wsX40)
def wsX5_save_r1 : List Cond := [Cond.fieldLink RX5 19 "ZoneSampler" "snapshot" "LZoneSampler$State;", Cond.fieldLink RX5 10 "ZoneSampler" "now" "LZoneSampler$State;", Cond.fieldLink RX5 222 "ZoneSampler" "hasSnapshot" "Z", Cond.methodLink RX5 205 yX2_copyFrom, Cond.instanceMethod yX2_copyFrom, Cond.selects RX2 yX2_copyFrom yX2_copyFrom, Cond.initialized RX2, Cond.code yX2_copyFrom cX2_copyFrom 2 none, Cond.fieldLink RX2 14 "ZoneSampler$State" "zones" "LZoneSampler$Table;", Cond.fieldLink RX2 20 "ZoneSampler$State" "voices" "LZoneSampler$Table;", Cond.fieldLink RX2 23 "ZoneSampler$State" "numbers" "[I", Cond.methodLink RX2 31 arraycopyName, Cond.native arraycopyName, Cond.static arraycopyName, Cond.initialized "java/lang/System", Cond.fieldLink RX2 37 "ZoneSampler$State" "pedalDown" "Z", Cond.fieldLink RX2 41 "ZoneSampler$State" "notes" "I", Cond.methodLink RX2 27 yX4_copyFrom, Cond.instanceMethod yX4_copyFrom, Cond.selects RX4 yX4_copyFrom yX4_copyFrom, Cond.initialized RX4, Cond.code yX4_copyFrom cX4_copyFrom 2 none, Cond.fieldLink RX4 13 "ZoneSampler$Table" "cells" "[I", Cond.methodLink RX4 28 Lib.Math.min.name]
def wsX5_save_r2 : List Cond := [Cond.static Lib.Math.min.name, Cond.initialized "java/lang/Math", Cond.code Lib.Math.min.name Lib.Math.min.code 2 (some .int), Cond.methodLink RX4 33 arraycopyName, Cond.fieldLink RX4 17 "ZoneSampler$Table" "rows" "I", Cond.methodLink RX5 51 yX4_rows, Cond.instanceMethod yX4_rows, Cond.selects RX4 yX4_rows yX4_rows, Cond.code yX4_rows cX4_rows 1 (some .int)]
def wsX5_save : List Cond := .code yX5_save cX5_save 1 (some .int) :: ((wsX5_save_r1 ++ wsX5_save_r2) ++ wsX50 ++ wsX20 ++ wsX40)
def wsX5_restore_r1 : List Cond := [Cond.fieldLink RX5 222 "ZoneSampler" "hasSnapshot" "Z", Cond.fieldLink RX5 25 "ZoneSampler" "history" "LZoneSampler$History;", Cond.fieldLink RX5 10 "ZoneSampler" "now" "LZoneSampler$State;", Cond.fieldLink RX5 19 "ZoneSampler" "snapshot" "LZoneSampler$State;", Cond.methodLink RX5 57 yX0_record, Cond.instanceMethod yX0_record, Cond.selects RX0 yX0_record yX0_record, Cond.initialized RX0, Cond.code yX0_record cX0_record 3 none, Cond.fieldLink RX0 27 "ZoneSampler$History" "kept" "I", Cond.fieldLink RX0 12 "ZoneSampler$History" "first" "LZoneSampler$State;", Cond.fieldLink RX0 18 "ZoneSampler$History" "second" "LZoneSampler$State;", Cond.fieldLink RX0 21 "ZoneSampler$History" "third" "LZoneSampler$State;", Cond.fieldLink RX0 24 "ZoneSampler$History" "fourth" "LZoneSampler$State;", Cond.methodLink RX0 31 yX0_stateAt, Cond.instanceMethod yX0_stateAt, Cond.selects RX0 yX0_stateAt yX0_stateAt, Cond.code yX0_stateAt cX0_stateAt 2 (some (.object "ZoneSampler$State")), Cond.methodLink RX0 35 yX2_copyFrom, Cond.instanceMethod yX2_copyFrom, Cond.selects RX2 yX2_copyFrom yX2_copyFrom, Cond.initialized RX2, Cond.code yX2_copyFrom cX2_copyFrom 2 none, Cond.fieldLink RX2 14 "ZoneSampler$State" "zones" "LZoneSampler$Table;"]
def wsX5_restore_r2 : List Cond := [Cond.fieldLink RX2 20 "ZoneSampler$State" "voices" "LZoneSampler$Table;", Cond.fieldLink RX2 23 "ZoneSampler$State" "numbers" "[I", Cond.methodLink RX2 31 arraycopyName, Cond.native arraycopyName, Cond.static arraycopyName, Cond.initialized "java/lang/System", Cond.fieldLink RX2 37 "ZoneSampler$State" "pedalDown" "Z", Cond.fieldLink RX2 41 "ZoneSampler$State" "notes" "I", Cond.methodLink RX2 27 yX4_copyFrom, Cond.instanceMethod yX4_copyFrom, Cond.selects RX4 yX4_copyFrom yX4_copyFrom, Cond.initialized RX4, Cond.code yX4_copyFrom cX4_copyFrom 2 none, Cond.fieldLink RX4 13 "ZoneSampler$Table" "cells" "[I", Cond.methodLink RX4 28 Lib.Math.min.name, Cond.static Lib.Math.min.name, Cond.initialized "java/lang/Math", Cond.code Lib.Math.min.name Lib.Math.min.code 2 (some .int), Cond.methodLink RX4 33 arraycopyName, Cond.fieldLink RX4 17 "ZoneSampler$Table" "rows" "I", Cond.methodLink RX5 205 yX2_copyFrom, Cond.methodLink RX5 51 yX4_rows, Cond.instanceMethod yX4_rows, Cond.selects RX4 yX4_rows yX4_rows]
def wsX5_restore_r3 : List Cond := [Cond.code yX4_rows cX4_rows 1 (some .int)]
def wsX5_restore : List Cond := .code yX5_restore cX5_restore 1 (some .int) :: ((wsX5_restore_r1 ++ (wsX5_restore_r2 ++ wsX5_restore_r3)) ++ wsX50 ++ wsX20 ++ wsX00 ++ wsX40)
def wsX6_init : List Cond := .code yX6_init cX6_init 1 none :: ([.methodLink RX6 1 objectInit, .instanceMethod objectInit, .code objectInit ⟨#[0xb1]⟩ 1 none, .arrayClass .int, .fieldLink RX6 7 "ZoneSamplerModel" "s" "[I", .fieldLink RX6 13 "ZoneSamplerModel" "aside" "[I", .fieldLink RX6 16 "ZoneSamplerModel" "past" "[I", .fieldLink RX6 19 "ZoneSamplerModel" "kept" "[I", .fieldLink RX6 22 "ZoneSamplerModel" "pad" "[I", .arrayClass .boolean, .fieldLink RX6 25 "ZoneSamplerModel" "sounds" "[Z", .fieldLink RX6 29 "ZoneSamplerModel" "read" "[I"] ++ wsX60)
def wsX6_in : List Cond := .code yX6_in cX6_in 3 (some .boolean) :: ([])
def wsX6_copies : List Cond := .code yX6_copies cX6_copies 5 none :: ([])
def wsX6_records : List Cond := .code yX6_records cX6_records 2 none :: ([.fieldLink RX6 32 "ZoneSamplerModel" "known" "I", .fieldLink RX6 16 "ZoneSamplerModel" "past" "[I", .fieldLink RX6 7 "ZoneSamplerModel" "s" "[I", .methodLink RX6 36 yX6_copies, .static yX6_copies, .initialized RX6, .code yX6_copies cX6_copies 5 none] ++ wsX60)
def wsX6_isZone : List Cond := .code yX6_isZone cX6_isZone 2 (some .boolean) :: ([.fieldLink RX6 7 "ZoneSamplerModel" "s" "[I", .methodLink RX6 40 yX6_in, .static yX6_in, .initialized RX6, .code yX6_in cX6_in 3 (some .boolean)] ++ wsX60)
def wsX6_ofZone : List Cond := .code yX6_ofZone cX6_ofZone 3 (some .int) :: ([.fieldLink RX6 7 "ZoneSamplerModel" "s" "[I"] ++ wsX60)
def wsX6_laysZone : List Cond := .code yX6_laysZone cX6_laysZone 4 none :: ([.fieldLink RX6 7 "ZoneSamplerModel" "s" "[I"] ++ wsX60)
def wsX6_of : List Cond := .code yX6_of cX6_of 3 (some .int) :: ([.fieldLink RX6 7 "ZoneSamplerModel" "s" "[I"] ++ wsX60)
def wsX6_lays : List Cond := .code yX6_lays cX6_lays 4 none :: ([.fieldLink RX6 7 "ZoneSamplerModel" "s" "[I"] ++ wsX60)
def wsX6_isAnswer : List Cond := .code yX6_isAnswer cX6_isAnswer 4 (some .boolean) :: ([.methodLink RX6 44 yX6_ofZone, .instanceMethod yX6_ofZone, .selects RX6 yX6_ofZone yX6_ofZone, .initialized RX6, .code yX6_ofZone cX6_ofZone 3 (some .int), .fieldLink RX6 7 "ZoneSamplerModel" "s" "[I", .methodLink RX6 40 yX6_in, .static yX6_in, .code yX6_in cX6_in 3 (some .boolean)] ++ wsX60)
def wsX6_answering : List Cond := .code yX6_answering cX6_answering 5 (some .int) :: ([.fieldLink RX6 7 "ZoneSamplerModel" "s" "[I", .methodLink RX6 48 yX6_isAnswer, .instanceMethod yX6_isAnswer, .selects RX6 yX6_isAnswer yX6_isAnswer, .initialized RX6, .code yX6_isAnswer cX6_isAnswer 4 (some .boolean), .methodLink RX6 44 yX6_ofZone, .instanceMethod yX6_ofZone, .selects RX6 yX6_ofZone yX6_ofZone, .code yX6_ofZone cX6_ofZone 3 (some .int), .methodLink RX6 40 yX6_in, .static yX6_in, .code yX6_in cX6_in 3 (some .boolean)] ++ wsX60)
def wsX6_ofRobin : List Cond := .code yX6_ofRobin cX6_ofRobin 7 (some .int) :: ([.methodLink RX6 44 yX6_ofZone, .instanceMethod yX6_ofZone, .selects RX6 yX6_ofZone yX6_ofZone, .initialized RX6, .code yX6_ofZone cX6_ofZone 3 (some .int), .fieldLink RX6 7 "ZoneSamplerModel" "s" "[I", .methodLink RX6 48 yX6_isAnswer, .instanceMethod yX6_isAnswer, .selects RX6 yX6_isAnswer yX6_isAnswer, .code yX6_isAnswer cX6_isAnswer 4 (some .boolean), .methodLink RX6 40 yX6_in, .static yX6_in, .code yX6_in cX6_in 3 (some .boolean)] ++ wsX60)
def wsX6_isSounding : List Cond := .code yX6_isSounding cX6_isSounding 6 (some .boolean) :: ([.fieldLink RX6 7 "ZoneSamplerModel" "s" "[I", .methodLink RX6 44 yX6_ofZone, .instanceMethod yX6_ofZone, .selects RX6 yX6_ofZone yX6_ofZone, .initialized RX6, .code yX6_ofZone cX6_ofZone 3 (some .int), .methodLink RX6 48 yX6_isAnswer, .instanceMethod yX6_isAnswer, .selects RX6 yX6_isAnswer yX6_isAnswer, .code yX6_isAnswer cX6_isAnswer 4 (some .boolean), .methodLink RX6 40 yX6_in, .static yX6_in, .code yX6_in cX6_in 3 (some .boolean), .methodLink RX6 51 yX6_ofRobin, .instanceMethod yX6_ofRobin, .selects RX6 yX6_ofRobin yX6_ofRobin, .code yX6_ofRobin cX6_ofRobin 7 (some .int)] ++ wsX60)
def wsX6_dropsVoice : List Cond := .code yX6_dropsVoice cX6_dropsVoice 3 none :: ([.fieldLink RX6 7 "ZoneSamplerModel" "s" "[I"] ++ wsX60)
def wsX6_soon : List Cond := .code yX6_soon cX6_soon 2 (some .int) :: ([.fieldLink RX6 7 "ZoneSamplerModel" "s" "[I", .methodLink RX6 55 yX6_of, .instanceMethod yX6_of, .selects RX6 yX6_of yX6_of, .initialized RX6, .code yX6_of cX6_of 3 (some .int)] ++ wsX60)
def wsX6_steals : List Cond := .code yX6_steals cX6_steals 3 none :: ([.fieldLink RX6 7 "ZoneSamplerModel" "s" "[I", .methodLink RX6 58 yX6_soon, .instanceMethod yX6_soon, .selects RX6 yX6_soon yX6_soon, .initialized RX6, .code yX6_soon cX6_soon 2 (some .int), .methodLink RX6 55 yX6_of, .instanceMethod yX6_of, .selects RX6 yX6_of yX6_of, .code yX6_of cX6_of 3 (some .int), .methodLink RX6 62 yX6_dropsVoice, .instanceMethod yX6_dropsVoice, .selects RX6 yX6_dropsVoice yX6_dropsVoice, .code yX6_dropsVoice cX6_dropsVoice 3 none] ++ wsX60)
def wsX6_chokes : List Cond := .code yX6_chokes cX6_chokes 4 none :: ([.fieldLink RX6 7 "ZoneSamplerModel" "s" "[I", .methodLink RX6 55 yX6_of, .instanceMethod yX6_of, .selects RX6 yX6_of yX6_of, .initialized RX6, .code yX6_of cX6_of 3 (some .int), .methodLink RX6 44 yX6_ofZone, .instanceMethod yX6_ofZone, .selects RX6 yX6_ofZone yX6_ofZone, .code yX6_ofZone cX6_ofZone 3 (some .int), .methodLink RX6 62 yX6_dropsVoice, .instanceMethod yX6_dropsVoice, .selects RX6 yX6_dropsVoice yX6_dropsVoice, .code yX6_dropsVoice cX6_dropsVoice 3 none] ++ wsX60)
def wsX6_begins_r1 : List Cond := [Cond.fieldLink RX6 7 "ZoneSamplerModel" "s" "[I", Cond.methodLink RX6 44 yX6_ofZone, Cond.instanceMethod yX6_ofZone, Cond.selects RX6 yX6_ofZone yX6_ofZone, Cond.initialized RX6, Cond.code yX6_ofZone cX6_ofZone 3 (some .int), Cond.methodLink RX6 66 yX6_chokes, Cond.instanceMethod yX6_chokes, Cond.selects RX6 yX6_chokes yX6_chokes, Cond.code yX6_chokes cX6_chokes 4 none, Cond.methodLink RX6 55 yX6_of, Cond.instanceMethod yX6_of, Cond.selects RX6 yX6_of yX6_of, Cond.code yX6_of cX6_of 3 (some .int), Cond.methodLink RX6 62 yX6_dropsVoice, Cond.instanceMethod yX6_dropsVoice, Cond.selects RX6 yX6_dropsVoice yX6_dropsVoice, Cond.code yX6_dropsVoice cX6_dropsVoice 3 none, Cond.methodLink RX6 69 yX6_steals, Cond.instanceMethod yX6_steals, Cond.selects RX6 yX6_steals yX6_steals, Cond.code yX6_steals cX6_steals 3 none, Cond.methodLink RX6 58 yX6_soon, Cond.instanceMethod yX6_soon]
def wsX6_begins_r2 : List Cond := [Cond.selects RX6 yX6_soon yX6_soon, Cond.code yX6_soon cX6_soon 2 (some .int), Cond.methodLink RX6 72 yX6_lays, Cond.instanceMethod yX6_lays, Cond.selects RX6 yX6_lays yX6_lays, Cond.code yX6_lays cX6_lays 4 none]
def wsX6_begins : List Cond := .code yX6_begins cX6_begins 5 none :: ((wsX6_begins_r1 ++ wsX6_begins_r2) ++ wsX60)
def wsX6_goHit_r1 : List Cond := [Cond.fieldLink RX6 7 "ZoneSamplerModel" "s" "[I", Cond.fieldLink RX6 76 "ZoneSamplerModel" "firstZone" "I", Cond.fieldLink RX6 25 "ZoneSamplerModel" "sounds" "[Z", Cond.methodLink RX6 55 yX6_of, Cond.instanceMethod yX6_of, Cond.selects RX6 yX6_of yX6_of, Cond.initialized RX6, Cond.code yX6_of cX6_of 3 (some .int), Cond.methodLink RX6 72 yX6_lays, Cond.instanceMethod yX6_lays, Cond.selects RX6 yX6_lays yX6_lays, Cond.code yX6_lays cX6_lays 4 none, Cond.methodLink RX6 79 yX6_isSounding, Cond.instanceMethod yX6_isSounding, Cond.selects RX6 yX6_isSounding yX6_isSounding, Cond.code yX6_isSounding cX6_isSounding 6 (some .boolean), Cond.methodLink RX6 44 yX6_ofZone, Cond.instanceMethod yX6_ofZone, Cond.selects RX6 yX6_ofZone yX6_ofZone, Cond.code yX6_ofZone cX6_ofZone 3 (some .int), Cond.methodLink RX6 48 yX6_isAnswer, Cond.instanceMethod yX6_isAnswer, Cond.selects RX6 yX6_isAnswer yX6_isAnswer, Cond.code yX6_isAnswer cX6_isAnswer 4 (some .boolean)]
def wsX6_goHit_r2 : List Cond := [Cond.methodLink RX6 40 yX6_in, Cond.static yX6_in, Cond.code yX6_in cX6_in 3 (some .boolean), Cond.methodLink RX6 51 yX6_ofRobin, Cond.instanceMethod yX6_ofRobin, Cond.selects RX6 yX6_ofRobin yX6_ofRobin, Cond.code yX6_ofRobin cX6_ofRobin 7 (some .int), Cond.methodLink RX6 82 yX6_begins, Cond.instanceMethod yX6_begins, Cond.selects RX6 yX6_begins yX6_begins, Cond.code yX6_begins cX6_begins 5 none, Cond.methodLink RX6 66 yX6_chokes, Cond.instanceMethod yX6_chokes, Cond.selects RX6 yX6_chokes yX6_chokes, Cond.code yX6_chokes cX6_chokes 4 none, Cond.methodLink RX6 62 yX6_dropsVoice, Cond.instanceMethod yX6_dropsVoice, Cond.selects RX6 yX6_dropsVoice yX6_dropsVoice, Cond.code yX6_dropsVoice cX6_dropsVoice 3 none, Cond.methodLink RX6 69 yX6_steals, Cond.instanceMethod yX6_steals, Cond.selects RX6 yX6_steals yX6_steals, Cond.code yX6_steals cX6_steals 3 none, Cond.methodLink RX6 58 yX6_soon]
def wsX6_goHit_r3 : List Cond := [Cond.instanceMethod yX6_soon, Cond.selects RX6 yX6_soon yX6_soon, Cond.code yX6_soon cX6_soon 2 (some .int)]
def wsX6_goHit : List Cond := .code yX6_goHit cX6_goHit 5 (some .int) :: ((wsX6_goHit_r1 ++ (wsX6_goHit_r2 ++ wsX6_goHit_r3)) ++ wsX60)
def wsX6_goLet : List Cond := .code yX6_goLet cX6_goLet 5 (some .int) :: ([.fieldLink RX6 7 "ZoneSamplerModel" "s" "[I", .methodLink RX6 55 yX6_of, .instanceMethod yX6_of, .selects RX6 yX6_of yX6_of, .initialized RX6, .code yX6_of cX6_of 3 (some .int), .methodLink RX6 72 yX6_lays, .instanceMethod yX6_lays, .selects RX6 yX6_lays yX6_lays, .code yX6_lays cX6_lays 4 none] ++ wsX60)
def wsX6_goPedal : List Cond := .code yX6_goPedal cX6_goPedal 3 (some .int) :: ([.fieldLink RX6 7 "ZoneSamplerModel" "s" "[I", .methodLink RX6 55 yX6_of, .instanceMethod yX6_of, .selects RX6 yX6_of yX6_of, .initialized RX6, .code yX6_of cX6_of 3 (some .int), .methodLink RX6 72 yX6_lays, .instanceMethod yX6_lays, .selects RX6 yX6_lays yX6_lays, .code yX6_lays cX6_lays 4 none] ++ wsX60)
def wsX6_tick : List Cond := .code yX6_tick cX6_tick 3 (some .int) :: ([.fieldLink RX6 7 "ZoneSamplerModel" "s" "[I", .methodLink RX6 55 yX6_of, .instanceMethod yX6_of, .selects RX6 yX6_of yX6_of, .initialized RX6, .code yX6_of cX6_of 3 (some .int), .methodLink RX6 72 yX6_lays, .instanceMethod yX6_lays, .selects RX6 yX6_lays yX6_lays, .code yX6_lays cX6_lays 4 none, .methodLink RX6 44 yX6_ofZone, .instanceMethod yX6_ofZone, .selects RX6 yX6_ofZone yX6_ofZone, .code yX6_ofZone cX6_ofZone 3 (some .int), .methodLink RX6 62 yX6_dropsVoice, .instanceMethod yX6_dropsVoice, .selects RX6 yX6_dropsVoice yX6_dropsVoice, .code yX6_dropsVoice cX6_dropsVoice 3 none] ++ wsX60)
def wsX6_goPass : List Cond := .code yX6_goPass cX6_goPass 4 (some .int) :: ([.methodLink RX6 85 yX6_tick, .instanceMethod yX6_tick, .selects RX6 yX6_tick yX6_tick, .initialized RX6, .code yX6_tick cX6_tick 3 (some .int), .fieldLink RX6 7 "ZoneSamplerModel" "s" "[I", .methodLink RX6 55 yX6_of, .instanceMethod yX6_of, .selects RX6 yX6_of yX6_of, .code yX6_of cX6_of 3 (some .int), .methodLink RX6 72 yX6_lays, .instanceMethod yX6_lays, .selects RX6 yX6_lays yX6_lays, .code yX6_lays cX6_lays 4 none, .methodLink RX6 44 yX6_ofZone, .instanceMethod yX6_ofZone, .selects RX6 yX6_ofZone yX6_ofZone, .code yX6_ofZone cX6_ofZone 3 (some .int), .methodLink RX6 62 yX6_dropsVoice, .instanceMethod yX6_dropsVoice, .selects RX6 yX6_dropsVoice yX6_dropsVoice, .code yX6_dropsVoice cX6_dropsVoice 3 none] ++ wsX60)
def wsX6_addsZone : List Cond := .code yX6_addsZone cX6_addsZone 6 none :: ([.fieldLink RX6 7 "ZoneSamplerModel" "s" "[I", .methodLink RX6 89 yX6_laysZone, .instanceMethod yX6_laysZone, .selects RX6 yX6_laysZone yX6_laysZone, .initialized RX6, .code yX6_laysZone cX6_laysZone 4 none] ++ wsX60)
def wsX6_zone : List Cond := .code yX6_zone cX6_zone 5 (some .int) :: ([.fieldLink RX6 7 "ZoneSamplerModel" "s" "[I", .methodLink RX6 40 yX6_in, .static yX6_in, .initialized RX6, .code yX6_in cX6_in 3 (some .boolean), .methodLink RX6 92 yX6_records, .instanceMethod yX6_records, .selects RX6 yX6_records yX6_records, .code yX6_records cX6_records 2 none, .fieldLink RX6 32 "ZoneSamplerModel" "known" "I", .fieldLink RX6 16 "ZoneSamplerModel" "past" "[I", .methodLink RX6 36 yX6_copies, .static yX6_copies, .code yX6_copies cX6_copies 5 none, .methodLink RX6 95 yX6_addsZone, .instanceMethod yX6_addsZone, .selects RX6 yX6_addsZone yX6_addsZone, .code yX6_addsZone cX6_addsZone 6 none, .methodLink RX6 89 yX6_laysZone, .instanceMethod yX6_laysZone, .selects RX6 yX6_laysZone yX6_laysZone, .code yX6_laysZone cX6_laysZone 4 none] ++ wsX60)
def wsX6_like_r1 : List Cond := [Cond.fieldLink RX6 7 "ZoneSamplerModel" "s" "[I", Cond.methodLink RX6 99 yX6_isZone, Cond.instanceMethod yX6_isZone, Cond.selects RX6 yX6_isZone yX6_isZone, Cond.initialized RX6, Cond.code yX6_isZone cX6_isZone 2 (some .boolean), Cond.methodLink RX6 40 yX6_in, Cond.static yX6_in, Cond.code yX6_in cX6_in 3 (some .boolean), Cond.methodLink RX6 92 yX6_records, Cond.instanceMethod yX6_records, Cond.selects RX6 yX6_records yX6_records, Cond.code yX6_records cX6_records 2 none, Cond.fieldLink RX6 32 "ZoneSamplerModel" "known" "I", Cond.fieldLink RX6 16 "ZoneSamplerModel" "past" "[I", Cond.methodLink RX6 36 yX6_copies, Cond.static yX6_copies, Cond.code yX6_copies cX6_copies 5 none, Cond.methodLink RX6 89 yX6_laysZone, Cond.instanceMethod yX6_laysZone, Cond.selects RX6 yX6_laysZone yX6_laysZone, Cond.code yX6_laysZone cX6_laysZone 4 none, Cond.methodLink RX6 44 yX6_ofZone, Cond.instanceMethod yX6_ofZone]
def wsX6_like_r2 : List Cond := [Cond.selects RX6 yX6_ofZone yX6_ofZone, Cond.code yX6_ofZone cX6_ofZone 3 (some .int)]
def wsX6_like : List Cond := .code yX6_like cX6_like 7 (some .int) :: ((wsX6_like_r1 ++ wsX6_like_r2) ++ wsX60)
def wsX6_takeZone_r1 : List Cond := [Cond.fieldLink RX6 7 "ZoneSamplerModel" "s" "[I", Cond.methodLink RX6 99 yX6_isZone, Cond.instanceMethod yX6_isZone, Cond.selects RX6 yX6_isZone yX6_isZone, Cond.initialized RX6, Cond.code yX6_isZone cX6_isZone 2 (some .boolean), Cond.methodLink RX6 40 yX6_in, Cond.static yX6_in, Cond.code yX6_in cX6_in 3 (some .boolean), Cond.methodLink RX6 92 yX6_records, Cond.instanceMethod yX6_records, Cond.selects RX6 yX6_records yX6_records, Cond.code yX6_records cX6_records 2 none, Cond.fieldLink RX6 32 "ZoneSamplerModel" "known" "I", Cond.fieldLink RX6 16 "ZoneSamplerModel" "past" "[I", Cond.methodLink RX6 36 yX6_copies, Cond.static yX6_copies, Cond.code yX6_copies cX6_copies 5 none, Cond.methodLink RX6 55 yX6_of, Cond.instanceMethod yX6_of, Cond.selects RX6 yX6_of yX6_of, Cond.code yX6_of cX6_of 3 (some .int), Cond.methodLink RX6 62 yX6_dropsVoice, Cond.instanceMethod yX6_dropsVoice]
def wsX6_takeZone_r2 : List Cond := [Cond.selects RX6 yX6_dropsVoice yX6_dropsVoice, Cond.code yX6_dropsVoice cX6_dropsVoice 3 none, Cond.methodLink RX6 72 yX6_lays, Cond.instanceMethod yX6_lays, Cond.selects RX6 yX6_lays yX6_lays, Cond.code yX6_lays cX6_lays 4 none]
def wsX6_takeZone : List Cond := .code yX6_takeZone cX6_takeZone 5 (some .int) :: ((wsX6_takeZone_r1 ++ wsX6_takeZone_r2) ++ wsX60)
def wsX6_isNote : List Cond := .code yX6_isNote cX6_isNote 2 (some .boolean) :: ([.methodLink RX6 40 yX6_in, .static yX6_in, .initialized RX6, .code yX6_in cX6_in 3 (some .boolean)])
def wsX6_hit_r1 : List Cond := [Cond.methodLink RX6 103 yX6_isNote, Cond.static yX6_isNote, Cond.initialized RX6, Cond.code yX6_isNote cX6_isNote 2 (some .boolean), Cond.methodLink RX6 40 yX6_in, Cond.static yX6_in, Cond.code yX6_in cX6_in 3 (some .boolean), Cond.methodLink RX6 92 yX6_records, Cond.instanceMethod yX6_records, Cond.selects RX6 yX6_records yX6_records, Cond.code yX6_records cX6_records 2 none, Cond.fieldLink RX6 32 "ZoneSamplerModel" "known" "I", Cond.fieldLink RX6 16 "ZoneSamplerModel" "past" "[I", Cond.fieldLink RX6 7 "ZoneSamplerModel" "s" "[I", Cond.methodLink RX6 36 yX6_copies, Cond.static yX6_copies, Cond.code yX6_copies cX6_copies 5 none, Cond.methodLink RX6 107 yX6_goHit, Cond.instanceMethod yX6_goHit, Cond.selects RX6 yX6_goHit yX6_goHit, Cond.code yX6_goHit cX6_goHit 5 (some .int), Cond.fieldLink RX6 76 "ZoneSamplerModel" "firstZone" "I", Cond.fieldLink RX6 25 "ZoneSamplerModel" "sounds" "[Z", Cond.methodLink RX6 55 yX6_of]
def wsX6_hit_r2 : List Cond := [Cond.instanceMethod yX6_of, Cond.selects RX6 yX6_of yX6_of, Cond.code yX6_of cX6_of 3 (some .int), Cond.methodLink RX6 72 yX6_lays, Cond.instanceMethod yX6_lays, Cond.selects RX6 yX6_lays yX6_lays, Cond.code yX6_lays cX6_lays 4 none, Cond.methodLink RX6 79 yX6_isSounding, Cond.instanceMethod yX6_isSounding, Cond.selects RX6 yX6_isSounding yX6_isSounding, Cond.code yX6_isSounding cX6_isSounding 6 (some .boolean), Cond.methodLink RX6 44 yX6_ofZone, Cond.instanceMethod yX6_ofZone, Cond.selects RX6 yX6_ofZone yX6_ofZone, Cond.code yX6_ofZone cX6_ofZone 3 (some .int), Cond.methodLink RX6 48 yX6_isAnswer, Cond.instanceMethod yX6_isAnswer, Cond.selects RX6 yX6_isAnswer yX6_isAnswer, Cond.code yX6_isAnswer cX6_isAnswer 4 (some .boolean), Cond.methodLink RX6 51 yX6_ofRobin, Cond.instanceMethod yX6_ofRobin, Cond.selects RX6 yX6_ofRobin yX6_ofRobin, Cond.code yX6_ofRobin cX6_ofRobin 7 (some .int), Cond.methodLink RX6 82 yX6_begins]
def wsX6_hit_r3 : List Cond := [Cond.instanceMethod yX6_begins, Cond.selects RX6 yX6_begins yX6_begins, Cond.code yX6_begins cX6_begins 5 none, Cond.methodLink RX6 66 yX6_chokes, Cond.instanceMethod yX6_chokes, Cond.selects RX6 yX6_chokes yX6_chokes, Cond.code yX6_chokes cX6_chokes 4 none, Cond.methodLink RX6 62 yX6_dropsVoice, Cond.instanceMethod yX6_dropsVoice, Cond.selects RX6 yX6_dropsVoice yX6_dropsVoice, Cond.code yX6_dropsVoice cX6_dropsVoice 3 none, Cond.methodLink RX6 69 yX6_steals, Cond.instanceMethod yX6_steals, Cond.selects RX6 yX6_steals yX6_steals, Cond.code yX6_steals cX6_steals 3 none, Cond.methodLink RX6 58 yX6_soon, Cond.instanceMethod yX6_soon, Cond.selects RX6 yX6_soon yX6_soon, Cond.code yX6_soon cX6_soon 2 (some .int)]
def wsX6_hit : List Cond := .code yX6_hit cX6_hit 3 (some .int) :: ((wsX6_hit_r1 ++ (wsX6_hit_r2 ++ wsX6_hit_r3)) ++ wsX60)
def wsX6_letGo_r1 : List Cond := [Cond.methodLink RX6 40 yX6_in, Cond.static yX6_in, Cond.initialized RX6, Cond.code yX6_in cX6_in 3 (some .boolean), Cond.methodLink RX6 92 yX6_records, Cond.instanceMethod yX6_records, Cond.selects RX6 yX6_records yX6_records, Cond.code yX6_records cX6_records 2 none, Cond.fieldLink RX6 32 "ZoneSamplerModel" "known" "I", Cond.fieldLink RX6 16 "ZoneSamplerModel" "past" "[I", Cond.fieldLink RX6 7 "ZoneSamplerModel" "s" "[I", Cond.methodLink RX6 36 yX6_copies, Cond.static yX6_copies, Cond.code yX6_copies cX6_copies 5 none, Cond.methodLink RX6 110 yX6_goLet, Cond.instanceMethod yX6_goLet, Cond.selects RX6 yX6_goLet yX6_goLet, Cond.code yX6_goLet cX6_goLet 5 (some .int), Cond.methodLink RX6 55 yX6_of, Cond.instanceMethod yX6_of, Cond.selects RX6 yX6_of yX6_of, Cond.code yX6_of cX6_of 3 (some .int), Cond.methodLink RX6 72 yX6_lays, Cond.instanceMethod yX6_lays]
def wsX6_letGo_r2 : List Cond := [Cond.selects RX6 yX6_lays yX6_lays, Cond.code yX6_lays cX6_lays 4 none]
def wsX6_letGo : List Cond := .code yX6_letGo cX6_letGo 2 (some .int) :: ((wsX6_letGo_r1 ++ wsX6_letGo_r2) ++ wsX60)
def wsX6_pedal : List Cond := .code yX6_pedal cX6_pedal 1 (some .int) :: ([.methodLink RX6 92 yX6_records, .instanceMethod yX6_records, .selects RX6 yX6_records yX6_records, .initialized RX6, .code yX6_records cX6_records 2 none, .fieldLink RX6 32 "ZoneSamplerModel" "known" "I", .fieldLink RX6 16 "ZoneSamplerModel" "past" "[I", .fieldLink RX6 7 "ZoneSamplerModel" "s" "[I", .methodLink RX6 36 yX6_copies, .static yX6_copies, .code yX6_copies cX6_copies 5 none, .methodLink RX6 113 yX6_goPedal, .instanceMethod yX6_goPedal, .selects RX6 yX6_goPedal yX6_goPedal, .code yX6_goPedal cX6_goPedal 3 (some .int), .methodLink RX6 55 yX6_of, .instanceMethod yX6_of, .selects RX6 yX6_of yX6_of, .code yX6_of cX6_of 3 (some .int), .methodLink RX6 72 yX6_lays, .instanceMethod yX6_lays, .selects RX6 yX6_lays yX6_lays, .code yX6_lays cX6_lays 4 none] ++ wsX60)
def wsX6_pass_r1 : List Cond := [Cond.methodLink RX6 40 yX6_in, Cond.static yX6_in, Cond.initialized RX6, Cond.code yX6_in cX6_in 3 (some .boolean), Cond.methodLink RX6 92 yX6_records, Cond.instanceMethod yX6_records, Cond.selects RX6 yX6_records yX6_records, Cond.code yX6_records cX6_records 2 none, Cond.fieldLink RX6 32 "ZoneSamplerModel" "known" "I", Cond.fieldLink RX6 16 "ZoneSamplerModel" "past" "[I", Cond.fieldLink RX6 7 "ZoneSamplerModel" "s" "[I", Cond.methodLink RX6 36 yX6_copies, Cond.static yX6_copies, Cond.code yX6_copies cX6_copies 5 none, Cond.methodLink RX6 116 yX6_goPass, Cond.instanceMethod yX6_goPass, Cond.selects RX6 yX6_goPass yX6_goPass, Cond.code yX6_goPass cX6_goPass 4 (some .int), Cond.methodLink RX6 85 yX6_tick, Cond.instanceMethod yX6_tick, Cond.selects RX6 yX6_tick yX6_tick, Cond.code yX6_tick cX6_tick 3 (some .int), Cond.methodLink RX6 55 yX6_of, Cond.instanceMethod yX6_of]
def wsX6_pass_r2 : List Cond := [Cond.selects RX6 yX6_of yX6_of, Cond.code yX6_of cX6_of 3 (some .int), Cond.methodLink RX6 72 yX6_lays, Cond.instanceMethod yX6_lays, Cond.selects RX6 yX6_lays yX6_lays, Cond.code yX6_lays cX6_lays 4 none, Cond.methodLink RX6 44 yX6_ofZone, Cond.instanceMethod yX6_ofZone, Cond.selects RX6 yX6_ofZone yX6_ofZone, Cond.code yX6_ofZone cX6_ofZone 3 (some .int), Cond.methodLink RX6 62 yX6_dropsVoice, Cond.instanceMethod yX6_dropsVoice, Cond.selects RX6 yX6_dropsVoice yX6_dropsVoice, Cond.code yX6_dropsVoice cX6_dropsVoice 3 none]
def wsX6_pass : List Cond := .code yX6_pass cX6_pass 2 (some .int) :: ((wsX6_pass_r1 ++ wsX6_pass_r2) ++ wsX60)
def wsX6_silence : List Cond := .code yX6_silence cX6_silence 2 (some .int) :: ([.fieldLink RX6 7 "ZoneSamplerModel" "s" "[I", .methodLink RX6 92 yX6_records, .instanceMethod yX6_records, .selects RX6 yX6_records yX6_records, .initialized RX6, .code yX6_records cX6_records 2 none, .fieldLink RX6 32 "ZoneSamplerModel" "known" "I", .fieldLink RX6 16 "ZoneSamplerModel" "past" "[I", .methodLink RX6 36 yX6_copies, .static yX6_copies, .code yX6_copies cX6_copies 5 none, .methodLink RX6 62 yX6_dropsVoice, .instanceMethod yX6_dropsVoice, .selects RX6 yX6_dropsVoice yX6_dropsVoice, .code yX6_dropsVoice cX6_dropsVoice 3 none] ++ wsX60)
def wsX6_leastOf : List Cond := .code yX6_leastOf cX6_leastOf 1 (some .int) :: ([])
def wsX6_mostOf : List Cond := .code yX6_mostOf cX6_mostOf 1 (some .int) :: ([])
def wsX6_set_r1 : List Cond := [Cond.fieldLink RX6 7 "ZoneSamplerModel" "s" "[I", Cond.methodLink RX6 40 yX6_in, Cond.static yX6_in, Cond.initialized RX6, Cond.code yX6_in cX6_in 3 (some .boolean), Cond.methodLink RX6 119 yX6_leastOf, Cond.static yX6_leastOf, Cond.code yX6_leastOf cX6_leastOf 1 (some .int), Cond.methodLink RX6 122 yX6_mostOf, Cond.static yX6_mostOf, Cond.code yX6_mostOf cX6_mostOf 1 (some .int), Cond.methodLink RX6 92 yX6_records, Cond.instanceMethod yX6_records, Cond.selects RX6 yX6_records yX6_records, Cond.code yX6_records cX6_records 2 none, Cond.fieldLink RX6 32 "ZoneSamplerModel" "known" "I", Cond.fieldLink RX6 16 "ZoneSamplerModel" "past" "[I", Cond.methodLink RX6 36 yX6_copies, Cond.static yX6_copies, Cond.code yX6_copies cX6_copies 5 none, Cond.methodLink RX6 69 yX6_steals, Cond.instanceMethod yX6_steals, Cond.selects RX6 yX6_steals yX6_steals, Cond.code yX6_steals cX6_steals 3 none]
def wsX6_set_r2 : List Cond := [Cond.methodLink RX6 58 yX6_soon, Cond.instanceMethod yX6_soon, Cond.selects RX6 yX6_soon yX6_soon, Cond.code yX6_soon cX6_soon 2 (some .int), Cond.methodLink RX6 55 yX6_of, Cond.instanceMethod yX6_of, Cond.selects RX6 yX6_of yX6_of, Cond.code yX6_of cX6_of 3 (some .int), Cond.methodLink RX6 62 yX6_dropsVoice, Cond.instanceMethod yX6_dropsVoice, Cond.selects RX6 yX6_dropsVoice yX6_dropsVoice, Cond.code yX6_dropsVoice cX6_dropsVoice 3 none]
def wsX6_set : List Cond := .code yX6_set cX6_set 4 (some .int) :: ((wsX6_set_r1 ++ wsX6_set_r2) ++ wsX60)
def wsX6_append : List Cond := .code yX6_append cX6_append 2 (some .int) :: ([.fieldLink RX6 125 "ZoneSamplerModel" "length" "I", .fieldLink RX6 22 "ZoneSamplerModel" "pad" "[I", .methodLink RX6 40 yX6_in, .static yX6_in, .initialized RX6, .code yX6_in cX6_in 3 (some .boolean)] ++ wsX60)
def wsX6_clear : List Cond := .code yX6_clear cX6_clear 2 (some .int) :: ([.fieldLink RX6 125 "ZoneSamplerModel" "length" "I"] ++ wsX60)
def wsX6_here : List Cond := .code yX6_here cX6_here 1 (some .int) :: ([.fieldLink RX6 128 "ZoneSamplerModel" "spot" "I", .fieldLink RX6 125 "ZoneSamplerModel" "length" "I", .fieldLink RX6 22 "ZoneSamplerModel" "pad" "[I"] ++ wsX60)
def wsX6_takes : List Cond := .code yX6_takes cX6_takes 2 none :: ([.fieldLink RX6 131 "ZoneSamplerModel" "isForm" "Z", .fieldLink RX6 128 "ZoneSamplerModel" "spot" "I"] ++ wsX60)
def wsX6_canBegin : List Cond := .code yX6_canBegin cX6_canBegin 5 (some .boolean) :: ([])
def wsX6_takesNumber : List Cond := .code yX6_takesNumber cX6_takesNumber 5 (some .int) :: ([.fieldLink RX6 131 "ZoneSamplerModel" "isForm" "Z", .fieldLink RX6 128 "ZoneSamplerModel" "spot" "I", .methodLink RX6 135 yX6_here, .instanceMethod yX6_here, .selects RX6 yX6_here yX6_here, .initialized RX6, .code yX6_here cX6_here 1 (some .int), .fieldLink RX6 125 "ZoneSamplerModel" "length" "I", .fieldLink RX6 22 "ZoneSamplerModel" "pad" "[I", .methodLink RX6 40 yX6_in, .static yX6_in, .code yX6_in cX6_in 3 (some .boolean), .methodLink RX6 138 yX6_canBegin, .static yX6_canBegin, .code yX6_canBegin cX6_canBegin 5 (some .boolean), .methodLink RX6 141 yX6_takes, .instanceMethod yX6_takes, .selects RX6 yX6_takes yX6_takes, .code yX6_takes cX6_takes 2 none] ++ wsX60)
def wsX6_takesRange : List Cond := .code yX6_takesRange cX6_takesRange 4 none :: ([.fieldLink RX6 29 "ZoneSamplerModel" "read" "[I", .methodLink RX6 145 yX6_takesNumber, .instanceMethod yX6_takesNumber, .selects RX6 yX6_takesNumber yX6_takesNumber, .initialized RX6, .code yX6_takesNumber cX6_takesNumber 5 (some .int), .fieldLink RX6 131 "ZoneSamplerModel" "isForm" "Z", .fieldLink RX6 128 "ZoneSamplerModel" "spot" "I", .methodLink RX6 135 yX6_here, .instanceMethod yX6_here, .selects RX6 yX6_here yX6_here, .code yX6_here cX6_here 1 (some .int), .fieldLink RX6 125 "ZoneSamplerModel" "length" "I", .fieldLink RX6 22 "ZoneSamplerModel" "pad" "[I", .methodLink RX6 40 yX6_in, .static yX6_in, .code yX6_in cX6_in 3 (some .boolean), .methodLink RX6 138 yX6_canBegin, .static yX6_canBegin, .code yX6_canBegin cX6_canBegin 5 (some .boolean), .methodLink RX6 141 yX6_takes, .instanceMethod yX6_takes, .selects RX6 yX6_takes yX6_takes, .code yX6_takes cX6_takes 2 none] ++ wsX60)
def wsX6_takesMark : List Cond := .code yX6_takesMark cX6_takesMark 3 (some .int) :: ([.fieldLink RX6 131 "ZoneSamplerModel" "isForm" "Z", .fieldLink RX6 128 "ZoneSamplerModel" "spot" "I", .methodLink RX6 135 yX6_here, .instanceMethod yX6_here, .selects RX6 yX6_here yX6_here, .initialized RX6, .code yX6_here cX6_here 1 (some .int), .fieldLink RX6 125 "ZoneSamplerModel" "length" "I", .fieldLink RX6 22 "ZoneSamplerModel" "pad" "[I", .methodLink RX6 145 yX6_takesNumber, .instanceMethod yX6_takesNumber, .selects RX6 yX6_takesNumber yX6_takesNumber, .code yX6_takesNumber cX6_takesNumber 5 (some .int), .methodLink RX6 40 yX6_in, .static yX6_in, .code yX6_in cX6_in 3 (some .boolean), .methodLink RX6 138 yX6_canBegin, .static yX6_canBegin, .code yX6_canBegin cX6_canBegin 5 (some .boolean), .methodLink RX6 141 yX6_takes, .instanceMethod yX6_takes, .selects RX6 yX6_takes yX6_takes, .code yX6_takes cX6_takes 2 none] ++ wsX60)
def wsX6_takesZone_r1 : List Cond := [Cond.fieldLink RX6 148 "ZoneSamplerModel" "reads" "I", Cond.fieldLink RX6 29 "ZoneSamplerModel" "read" "[I", Cond.methodLink RX6 151 yX6_takesRange, Cond.instanceMethod yX6_takesRange, Cond.selects RX6 yX6_takesRange yX6_takesRange, Cond.initialized RX6, Cond.code yX6_takesRange cX6_takesRange 4 none, Cond.methodLink RX6 145 yX6_takesNumber, Cond.instanceMethod yX6_takesNumber, Cond.selects RX6 yX6_takesNumber yX6_takesNumber, Cond.code yX6_takesNumber cX6_takesNumber 5 (some .int), Cond.fieldLink RX6 131 "ZoneSamplerModel" "isForm" "Z", Cond.fieldLink RX6 128 "ZoneSamplerModel" "spot" "I", Cond.methodLink RX6 135 yX6_here, Cond.instanceMethod yX6_here, Cond.selects RX6 yX6_here yX6_here, Cond.code yX6_here cX6_here 1 (some .int), Cond.fieldLink RX6 125 "ZoneSamplerModel" "length" "I", Cond.fieldLink RX6 22 "ZoneSamplerModel" "pad" "[I", Cond.methodLink RX6 40 yX6_in, Cond.static yX6_in, Cond.code yX6_in cX6_in 3 (some .boolean), Cond.methodLink RX6 138 yX6_canBegin, Cond.static yX6_canBegin]
def wsX6_takesZone_r2 : List Cond := [Cond.code yX6_canBegin cX6_canBegin 5 (some .boolean), Cond.methodLink RX6 141 yX6_takes, Cond.instanceMethod yX6_takes, Cond.selects RX6 yX6_takes yX6_takes, Cond.code yX6_takes cX6_takes 2 none, Cond.methodLink RX6 154 yX6_takesMark, Cond.instanceMethod yX6_takesMark, Cond.selects RX6 yX6_takesMark yX6_takesMark, Cond.code yX6_takesMark cX6_takesMark 3 (some .int)]
def wsX6_takesZone : List Cond := .code yX6_takesZone cX6_takesZone 2 none :: ((wsX6_takesZone_r1 ++ wsX6_takesZone_r2) ++ wsX60)
def wsX6_areZones_r1 : List Cond := [Cond.fieldLink RX6 128 "ZoneSamplerModel" "spot" "I", Cond.fieldLink RX6 131 "ZoneSamplerModel" "isForm" "Z", Cond.fieldLink RX6 148 "ZoneSamplerModel" "reads" "I", Cond.fieldLink RX6 125 "ZoneSamplerModel" "length" "I", Cond.methodLink RX6 157 yX6_takesZone, Cond.instanceMethod yX6_takesZone, Cond.selects RX6 yX6_takesZone yX6_takesZone, Cond.initialized RX6, Cond.code yX6_takesZone cX6_takesZone 2 none, Cond.fieldLink RX6 29 "ZoneSamplerModel" "read" "[I", Cond.methodLink RX6 151 yX6_takesRange, Cond.instanceMethod yX6_takesRange, Cond.selects RX6 yX6_takesRange yX6_takesRange, Cond.code yX6_takesRange cX6_takesRange 4 none, Cond.methodLink RX6 145 yX6_takesNumber, Cond.instanceMethod yX6_takesNumber, Cond.selects RX6 yX6_takesNumber yX6_takesNumber, Cond.code yX6_takesNumber cX6_takesNumber 5 (some .int), Cond.methodLink RX6 135 yX6_here, Cond.instanceMethod yX6_here, Cond.selects RX6 yX6_here yX6_here, Cond.code yX6_here cX6_here 1 (some .int), Cond.fieldLink RX6 22 "ZoneSamplerModel" "pad" "[I", Cond.methodLink RX6 40 yX6_in]
def wsX6_areZones_r2 : List Cond := [Cond.static yX6_in, Cond.code yX6_in cX6_in 3 (some .boolean), Cond.methodLink RX6 138 yX6_canBegin, Cond.static yX6_canBegin, Cond.code yX6_canBegin cX6_canBegin 5 (some .boolean), Cond.methodLink RX6 141 yX6_takes, Cond.instanceMethod yX6_takes, Cond.selects RX6 yX6_takes yX6_takes, Cond.code yX6_takes cX6_takes 2 none, Cond.methodLink RX6 154 yX6_takesMark, Cond.instanceMethod yX6_takesMark, Cond.selects RX6 yX6_takesMark yX6_takesMark, Cond.code yX6_takesMark cX6_takesMark 3 (some .int)]
def wsX6_areZones : List Cond := .code yX6_areZones cX6_areZones 1 (some .boolean) :: ((wsX6_areZones_r1 ++ wsX6_areZones_r2) ++ wsX60)
def wsX6_takesDeed_r1 : List Cond := [Cond.fieldLink RX6 160 "ZoneSamplerModel" "letter" "I", Cond.fieldLink RX6 163 "ZoneSamplerModel" "first" "I", Cond.fieldLink RX6 166 "ZoneSamplerModel" "second" "I", Cond.methodLink RX6 135 yX6_here, Cond.instanceMethod yX6_here, Cond.selects RX6 yX6_here yX6_here, Cond.initialized RX6, Cond.code yX6_here cX6_here 1 (some .int), Cond.fieldLink RX6 128 "ZoneSamplerModel" "spot" "I", Cond.fieldLink RX6 125 "ZoneSamplerModel" "length" "I", Cond.fieldLink RX6 22 "ZoneSamplerModel" "pad" "[I", Cond.methodLink RX6 141 yX6_takes, Cond.instanceMethod yX6_takes, Cond.selects RX6 yX6_takes yX6_takes, Cond.code yX6_takes cX6_takes 2 none, Cond.fieldLink RX6 131 "ZoneSamplerModel" "isForm" "Z", Cond.methodLink RX6 145 yX6_takesNumber, Cond.instanceMethod yX6_takesNumber, Cond.selects RX6 yX6_takesNumber yX6_takesNumber, Cond.code yX6_takesNumber cX6_takesNumber 5 (some .int), Cond.methodLink RX6 40 yX6_in, Cond.static yX6_in, Cond.code yX6_in cX6_in 3 (some .boolean), Cond.methodLink RX6 138 yX6_canBegin]
def wsX6_takesDeed_r2 : List Cond := [Cond.static yX6_canBegin, Cond.code yX6_canBegin cX6_canBegin 5 (some .boolean)]
def wsX6_takesDeed : List Cond := .code yX6_takesDeed cX6_takesDeed 1 none :: ((wsX6_takesDeed_r1 ++ wsX6_takesDeed_r2) ++ wsX60)
def wsX6_isScore_r1 : List Cond := [Cond.fieldLink RX6 128 "ZoneSamplerModel" "spot" "I", Cond.fieldLink RX6 131 "ZoneSamplerModel" "isForm" "Z", Cond.fieldLink RX6 125 "ZoneSamplerModel" "length" "I", Cond.methodLink RX6 169 yX6_takesDeed, Cond.instanceMethod yX6_takesDeed, Cond.selects RX6 yX6_takesDeed yX6_takesDeed, Cond.initialized RX6, Cond.code yX6_takesDeed cX6_takesDeed 1 none, Cond.fieldLink RX6 160 "ZoneSamplerModel" "letter" "I", Cond.fieldLink RX6 163 "ZoneSamplerModel" "first" "I", Cond.fieldLink RX6 166 "ZoneSamplerModel" "second" "I", Cond.methodLink RX6 135 yX6_here, Cond.instanceMethod yX6_here, Cond.selects RX6 yX6_here yX6_here, Cond.code yX6_here cX6_here 1 (some .int), Cond.fieldLink RX6 22 "ZoneSamplerModel" "pad" "[I", Cond.methodLink RX6 141 yX6_takes, Cond.instanceMethod yX6_takes, Cond.selects RX6 yX6_takes yX6_takes, Cond.code yX6_takes cX6_takes 2 none, Cond.methodLink RX6 145 yX6_takesNumber, Cond.instanceMethod yX6_takesNumber, Cond.selects RX6 yX6_takesNumber yX6_takesNumber, Cond.code yX6_takesNumber cX6_takesNumber 5 (some .int)]
def wsX6_isScore_r2 : List Cond := [Cond.methodLink RX6 40 yX6_in, Cond.static yX6_in, Cond.code yX6_in cX6_in 3 (some .boolean), Cond.methodLink RX6 138 yX6_canBegin, Cond.static yX6_canBegin, Cond.code yX6_canBegin cX6_canBegin 5 (some .boolean)]
def wsX6_isScore : List Cond := .code yX6_isScore cX6_isScore 1 (some .boolean) :: ((wsX6_isScore_r1 ++ wsX6_isScore_r2) ++ wsX60)
def wsX6_fault_r1 : List Cond := [Cond.fieldLink RX6 128 "ZoneSamplerModel" "spot" "I", Cond.methodLink RX6 40 yX6_in, Cond.static yX6_in, Cond.initialized RX6, Cond.code yX6_in cX6_in 3 (some .boolean), Cond.methodLink RX6 172 yX6_areZones, Cond.instanceMethod yX6_areZones, Cond.selects RX6 yX6_areZones yX6_areZones, Cond.code yX6_areZones cX6_areZones 1 (some .boolean), Cond.fieldLink RX6 131 "ZoneSamplerModel" "isForm" "Z", Cond.fieldLink RX6 148 "ZoneSamplerModel" "reads" "I", Cond.fieldLink RX6 125 "ZoneSamplerModel" "length" "I", Cond.methodLink RX6 157 yX6_takesZone, Cond.instanceMethod yX6_takesZone, Cond.selects RX6 yX6_takesZone yX6_takesZone, Cond.code yX6_takesZone cX6_takesZone 2 none, Cond.fieldLink RX6 29 "ZoneSamplerModel" "read" "[I", Cond.methodLink RX6 151 yX6_takesRange, Cond.instanceMethod yX6_takesRange, Cond.selects RX6 yX6_takesRange yX6_takesRange, Cond.code yX6_takesRange cX6_takesRange 4 none, Cond.methodLink RX6 145 yX6_takesNumber, Cond.instanceMethod yX6_takesNumber, Cond.selects RX6 yX6_takesNumber yX6_takesNumber]
def wsX6_fault_r2 : List Cond := [Cond.code yX6_takesNumber cX6_takesNumber 5 (some .int), Cond.methodLink RX6 135 yX6_here, Cond.instanceMethod yX6_here, Cond.selects RX6 yX6_here yX6_here, Cond.code yX6_here cX6_here 1 (some .int), Cond.fieldLink RX6 22 "ZoneSamplerModel" "pad" "[I", Cond.methodLink RX6 138 yX6_canBegin, Cond.static yX6_canBegin, Cond.code yX6_canBegin cX6_canBegin 5 (some .boolean), Cond.methodLink RX6 141 yX6_takes, Cond.instanceMethod yX6_takes, Cond.selects RX6 yX6_takes yX6_takes, Cond.code yX6_takes cX6_takes 2 none, Cond.methodLink RX6 154 yX6_takesMark, Cond.instanceMethod yX6_takesMark, Cond.selects RX6 yX6_takesMark yX6_takesMark, Cond.code yX6_takesMark cX6_takesMark 3 (some .int), Cond.methodLink RX6 176 yX6_isScore, Cond.instanceMethod yX6_isScore, Cond.selects RX6 yX6_isScore yX6_isScore, Cond.code yX6_isScore cX6_isScore 1 (some .boolean), Cond.methodLink RX6 169 yX6_takesDeed, Cond.instanceMethod yX6_takesDeed, Cond.selects RX6 yX6_takesDeed yX6_takesDeed]
def wsX6_fault_r3 : List Cond := [Cond.code yX6_takesDeed cX6_takesDeed 1 none, Cond.fieldLink RX6 160 "ZoneSamplerModel" "letter" "I", Cond.fieldLink RX6 163 "ZoneSamplerModel" "first" "I", Cond.fieldLink RX6 166 "ZoneSamplerModel" "second" "I"]
def wsX6_fault : List Cond := .code yX6_fault cX6_fault 2 (some .int) :: ((wsX6_fault_r1 ++ (wsX6_fault_r2 ++ wsX6_fault_r3)) ++ wsX60)
def wsX6_load_r1 : List Cond := [Cond.fieldLink RX6 7 "ZoneSamplerModel" "s" "[I", Cond.fieldLink RX6 148 "ZoneSamplerModel" "reads" "I", Cond.fieldLink RX6 29 "ZoneSamplerModel" "read" "[I", Cond.fieldLink RX6 125 "ZoneSamplerModel" "length" "I", Cond.methodLink RX6 172 yX6_areZones, Cond.instanceMethod yX6_areZones, Cond.selects RX6 yX6_areZones yX6_areZones, Cond.initialized RX6, Cond.code yX6_areZones cX6_areZones 1 (some .boolean), Cond.fieldLink RX6 128 "ZoneSamplerModel" "spot" "I", Cond.fieldLink RX6 131 "ZoneSamplerModel" "isForm" "Z", Cond.methodLink RX6 157 yX6_takesZone, Cond.instanceMethod yX6_takesZone, Cond.selects RX6 yX6_takesZone yX6_takesZone, Cond.code yX6_takesZone cX6_takesZone 2 none, Cond.methodLink RX6 151 yX6_takesRange, Cond.instanceMethod yX6_takesRange, Cond.selects RX6 yX6_takesRange yX6_takesRange, Cond.code yX6_takesRange cX6_takesRange 4 none, Cond.methodLink RX6 145 yX6_takesNumber, Cond.instanceMethod yX6_takesNumber, Cond.selects RX6 yX6_takesNumber yX6_takesNumber, Cond.code yX6_takesNumber cX6_takesNumber 5 (some .int), Cond.methodLink RX6 135 yX6_here]
def wsX6_load_r2 : List Cond := [Cond.instanceMethod yX6_here, Cond.selects RX6 yX6_here yX6_here, Cond.code yX6_here cX6_here 1 (some .int), Cond.fieldLink RX6 22 "ZoneSamplerModel" "pad" "[I", Cond.methodLink RX6 40 yX6_in, Cond.static yX6_in, Cond.code yX6_in cX6_in 3 (some .boolean), Cond.methodLink RX6 138 yX6_canBegin, Cond.static yX6_canBegin, Cond.code yX6_canBegin cX6_canBegin 5 (some .boolean), Cond.methodLink RX6 141 yX6_takes, Cond.instanceMethod yX6_takes, Cond.selects RX6 yX6_takes yX6_takes, Cond.code yX6_takes cX6_takes 2 none, Cond.methodLink RX6 154 yX6_takesMark, Cond.instanceMethod yX6_takesMark, Cond.selects RX6 yX6_takesMark yX6_takesMark, Cond.code yX6_takesMark cX6_takesMark 3 (some .int), Cond.methodLink RX6 92 yX6_records, Cond.instanceMethod yX6_records, Cond.selects RX6 yX6_records yX6_records, Cond.code yX6_records cX6_records 2 none, Cond.fieldLink RX6 32 "ZoneSamplerModel" "known" "I", Cond.fieldLink RX6 16 "ZoneSamplerModel" "past" "[I"]
def wsX6_load_r3 : List Cond := [Cond.methodLink RX6 36 yX6_copies, Cond.static yX6_copies, Cond.code yX6_copies cX6_copies 5 none, Cond.methodLink RX6 95 yX6_addsZone, Cond.instanceMethod yX6_addsZone, Cond.selects RX6 yX6_addsZone yX6_addsZone, Cond.code yX6_addsZone cX6_addsZone 6 none, Cond.methodLink RX6 89 yX6_laysZone, Cond.instanceMethod yX6_laysZone, Cond.selects RX6 yX6_laysZone yX6_laysZone, Cond.code yX6_laysZone cX6_laysZone 4 none]
def wsX6_load : List Cond := .code yX6_load cX6_load 3 (some .int) :: ((wsX6_load_r1 ++ (wsX6_load_r2 ++ wsX6_load_r3)) ++ wsX60)
def wsX6_doesDeed_r1 : List Cond := [Cond.fieldLink RX6 160 "ZoneSamplerModel" "letter" "I", Cond.fieldLink RX6 163 "ZoneSamplerModel" "first" "I", Cond.fieldLink RX6 166 "ZoneSamplerModel" "second" "I", Cond.methodLink RX6 107 yX6_goHit, Cond.instanceMethod yX6_goHit, Cond.selects RX6 yX6_goHit yX6_goHit, Cond.initialized RX6, Cond.code yX6_goHit cX6_goHit 5 (some .int), Cond.fieldLink RX6 7 "ZoneSamplerModel" "s" "[I", Cond.fieldLink RX6 76 "ZoneSamplerModel" "firstZone" "I", Cond.fieldLink RX6 25 "ZoneSamplerModel" "sounds" "[Z", Cond.methodLink RX6 55 yX6_of, Cond.instanceMethod yX6_of, Cond.selects RX6 yX6_of yX6_of, Cond.code yX6_of cX6_of 3 (some .int), Cond.methodLink RX6 72 yX6_lays, Cond.instanceMethod yX6_lays, Cond.selects RX6 yX6_lays yX6_lays, Cond.code yX6_lays cX6_lays 4 none, Cond.methodLink RX6 79 yX6_isSounding, Cond.instanceMethod yX6_isSounding, Cond.selects RX6 yX6_isSounding yX6_isSounding, Cond.code yX6_isSounding cX6_isSounding 6 (some .boolean), Cond.methodLink RX6 44 yX6_ofZone]
def wsX6_doesDeed_r2 : List Cond := [Cond.instanceMethod yX6_ofZone, Cond.selects RX6 yX6_ofZone yX6_ofZone, Cond.code yX6_ofZone cX6_ofZone 3 (some .int), Cond.methodLink RX6 48 yX6_isAnswer, Cond.instanceMethod yX6_isAnswer, Cond.selects RX6 yX6_isAnswer yX6_isAnswer, Cond.code yX6_isAnswer cX6_isAnswer 4 (some .boolean), Cond.methodLink RX6 40 yX6_in, Cond.static yX6_in, Cond.code yX6_in cX6_in 3 (some .boolean), Cond.methodLink RX6 51 yX6_ofRobin, Cond.instanceMethod yX6_ofRobin, Cond.selects RX6 yX6_ofRobin yX6_ofRobin, Cond.code yX6_ofRobin cX6_ofRobin 7 (some .int), Cond.methodLink RX6 82 yX6_begins, Cond.instanceMethod yX6_begins, Cond.selects RX6 yX6_begins yX6_begins, Cond.code yX6_begins cX6_begins 5 none, Cond.methodLink RX6 66 yX6_chokes, Cond.instanceMethod yX6_chokes, Cond.selects RX6 yX6_chokes yX6_chokes, Cond.code yX6_chokes cX6_chokes 4 none, Cond.methodLink RX6 62 yX6_dropsVoice, Cond.instanceMethod yX6_dropsVoice]
def wsX6_doesDeed_r3 : List Cond := [Cond.selects RX6 yX6_dropsVoice yX6_dropsVoice, Cond.code yX6_dropsVoice cX6_dropsVoice 3 none, Cond.methodLink RX6 69 yX6_steals, Cond.instanceMethod yX6_steals, Cond.selects RX6 yX6_steals yX6_steals, Cond.code yX6_steals cX6_steals 3 none, Cond.methodLink RX6 58 yX6_soon, Cond.instanceMethod yX6_soon, Cond.selects RX6 yX6_soon yX6_soon, Cond.code yX6_soon cX6_soon 2 (some .int), Cond.methodLink RX6 110 yX6_goLet, Cond.instanceMethod yX6_goLet, Cond.selects RX6 yX6_goLet yX6_goLet, Cond.code yX6_goLet cX6_goLet 5 (some .int), Cond.methodLink RX6 113 yX6_goPedal, Cond.instanceMethod yX6_goPedal, Cond.selects RX6 yX6_goPedal yX6_goPedal, Cond.code yX6_goPedal cX6_goPedal 3 (some .int), Cond.methodLink RX6 116 yX6_goPass, Cond.instanceMethod yX6_goPass, Cond.selects RX6 yX6_goPass yX6_goPass, Cond.code yX6_goPass cX6_goPass 4 (some .int), Cond.methodLink RX6 85 yX6_tick, Cond.instanceMethod yX6_tick]
def wsX6_doesDeed_r4 : List Cond := [Cond.selects RX6 yX6_tick yX6_tick, Cond.code yX6_tick cX6_tick 3 (some .int)]
def wsX6_doesDeed : List Cond := .code yX6_doesDeed cX6_doesDeed 5 none :: ((wsX6_doesDeed_r1 ++ (wsX6_doesDeed_r2 ++ (wsX6_doesDeed_r3 ++ wsX6_doesDeed_r4))) ++ wsX60)
def wsX6_play_r1 : List Cond := [Cond.fieldLink RX6 7 "ZoneSamplerModel" "s" "[I", Cond.fieldLink RX6 128 "ZoneSamplerModel" "spot" "I", Cond.fieldLink RX6 125 "ZoneSamplerModel" "length" "I", Cond.methodLink RX6 176 yX6_isScore, Cond.instanceMethod yX6_isScore, Cond.selects RX6 yX6_isScore yX6_isScore, Cond.initialized RX6, Cond.code yX6_isScore cX6_isScore 1 (some .boolean), Cond.fieldLink RX6 131 "ZoneSamplerModel" "isForm" "Z", Cond.methodLink RX6 169 yX6_takesDeed, Cond.instanceMethod yX6_takesDeed, Cond.selects RX6 yX6_takesDeed yX6_takesDeed, Cond.code yX6_takesDeed cX6_takesDeed 1 none, Cond.fieldLink RX6 160 "ZoneSamplerModel" "letter" "I", Cond.fieldLink RX6 163 "ZoneSamplerModel" "first" "I", Cond.fieldLink RX6 166 "ZoneSamplerModel" "second" "I", Cond.methodLink RX6 135 yX6_here, Cond.instanceMethod yX6_here, Cond.selects RX6 yX6_here yX6_here, Cond.code yX6_here cX6_here 1 (some .int), Cond.fieldLink RX6 22 "ZoneSamplerModel" "pad" "[I", Cond.methodLink RX6 141 yX6_takes, Cond.instanceMethod yX6_takes, Cond.selects RX6 yX6_takes yX6_takes]
def wsX6_play_r2 : List Cond := [Cond.code yX6_takes cX6_takes 2 none, Cond.methodLink RX6 145 yX6_takesNumber, Cond.instanceMethod yX6_takesNumber, Cond.selects RX6 yX6_takesNumber yX6_takesNumber, Cond.code yX6_takesNumber cX6_takesNumber 5 (some .int), Cond.methodLink RX6 40 yX6_in, Cond.static yX6_in, Cond.code yX6_in cX6_in 3 (some .boolean), Cond.methodLink RX6 138 yX6_canBegin, Cond.static yX6_canBegin, Cond.code yX6_canBegin cX6_canBegin 5 (some .boolean), Cond.methodLink RX6 92 yX6_records, Cond.instanceMethod yX6_records, Cond.selects RX6 yX6_records yX6_records, Cond.code yX6_records cX6_records 2 none, Cond.fieldLink RX6 32 "ZoneSamplerModel" "known" "I", Cond.fieldLink RX6 16 "ZoneSamplerModel" "past" "[I", Cond.methodLink RX6 36 yX6_copies, Cond.static yX6_copies, Cond.code yX6_copies cX6_copies 5 none, Cond.methodLink RX6 179 yX6_doesDeed, Cond.instanceMethod yX6_doesDeed, Cond.selects RX6 yX6_doesDeed yX6_doesDeed, Cond.code yX6_doesDeed cX6_doesDeed 5 none]
def wsX6_play_r3 : List Cond := [Cond.methodLink RX6 107 yX6_goHit, Cond.instanceMethod yX6_goHit, Cond.selects RX6 yX6_goHit yX6_goHit, Cond.code yX6_goHit cX6_goHit 5 (some .int), Cond.fieldLink RX6 76 "ZoneSamplerModel" "firstZone" "I", Cond.fieldLink RX6 25 "ZoneSamplerModel" "sounds" "[Z", Cond.methodLink RX6 55 yX6_of, Cond.instanceMethod yX6_of, Cond.selects RX6 yX6_of yX6_of, Cond.code yX6_of cX6_of 3 (some .int), Cond.methodLink RX6 72 yX6_lays, Cond.instanceMethod yX6_lays, Cond.selects RX6 yX6_lays yX6_lays, Cond.code yX6_lays cX6_lays 4 none, Cond.methodLink RX6 79 yX6_isSounding, Cond.instanceMethod yX6_isSounding, Cond.selects RX6 yX6_isSounding yX6_isSounding, Cond.code yX6_isSounding cX6_isSounding 6 (some .boolean), Cond.methodLink RX6 44 yX6_ofZone, Cond.instanceMethod yX6_ofZone, Cond.selects RX6 yX6_ofZone yX6_ofZone, Cond.code yX6_ofZone cX6_ofZone 3 (some .int), Cond.methodLink RX6 48 yX6_isAnswer, Cond.instanceMethod yX6_isAnswer]
def wsX6_play_r4 : List Cond := [Cond.selects RX6 yX6_isAnswer yX6_isAnswer, Cond.code yX6_isAnswer cX6_isAnswer 4 (some .boolean), Cond.methodLink RX6 51 yX6_ofRobin, Cond.instanceMethod yX6_ofRobin, Cond.selects RX6 yX6_ofRobin yX6_ofRobin, Cond.code yX6_ofRobin cX6_ofRobin 7 (some .int), Cond.methodLink RX6 82 yX6_begins, Cond.instanceMethod yX6_begins, Cond.selects RX6 yX6_begins yX6_begins, Cond.code yX6_begins cX6_begins 5 none, Cond.methodLink RX6 66 yX6_chokes, Cond.instanceMethod yX6_chokes, Cond.selects RX6 yX6_chokes yX6_chokes, Cond.code yX6_chokes cX6_chokes 4 none, Cond.methodLink RX6 62 yX6_dropsVoice, Cond.instanceMethod yX6_dropsVoice, Cond.selects RX6 yX6_dropsVoice yX6_dropsVoice, Cond.code yX6_dropsVoice cX6_dropsVoice 3 none, Cond.methodLink RX6 69 yX6_steals, Cond.instanceMethod yX6_steals, Cond.selects RX6 yX6_steals yX6_steals, Cond.code yX6_steals cX6_steals 3 none, Cond.methodLink RX6 58 yX6_soon, Cond.instanceMethod yX6_soon]
def wsX6_play_r5 : List Cond := [Cond.selects RX6 yX6_soon yX6_soon, Cond.code yX6_soon cX6_soon 2 (some .int), Cond.methodLink RX6 110 yX6_goLet, Cond.instanceMethod yX6_goLet, Cond.selects RX6 yX6_goLet yX6_goLet, Cond.code yX6_goLet cX6_goLet 5 (some .int), Cond.methodLink RX6 113 yX6_goPedal, Cond.instanceMethod yX6_goPedal, Cond.selects RX6 yX6_goPedal yX6_goPedal, Cond.code yX6_goPedal cX6_goPedal 3 (some .int), Cond.methodLink RX6 116 yX6_goPass, Cond.instanceMethod yX6_goPass, Cond.selects RX6 yX6_goPass yX6_goPass, Cond.code yX6_goPass cX6_goPass 4 (some .int), Cond.methodLink RX6 85 yX6_tick, Cond.instanceMethod yX6_tick, Cond.selects RX6 yX6_tick yX6_tick, Cond.code yX6_tick cX6_tick 3 (some .int)]
def wsX6_play : List Cond := .code yX6_play cX6_play 2 (some .int) :: ((wsX6_play_r1 ++ (wsX6_play_r2 ++ (wsX6_play_r3 ++ (wsX6_play_r4 ++ wsX6_play_r5)))) ++ wsX60)
def wsX6_voicesOf : List Cond := .code yX6_voicesOf cX6_voicesOf 4 (some .int) :: ([.fieldLink RX6 7 "ZoneSamplerModel" "s" "[I", .methodLink RX6 55 yX6_of, .instanceMethod yX6_of, .selects RX6 yX6_of yX6_of, .initialized RX6, .code yX6_of cX6_of 3 (some .int)] ++ wsX60)
def wsX6_canSound : List Cond := .code yX6_canSound cX6_canSound 5 (some .boolean) :: ([.methodLink RX6 44 yX6_ofZone, .instanceMethod yX6_ofZone, .selects RX6 yX6_ofZone yX6_ofZone, .initialized RX6, .code yX6_ofZone cX6_ofZone 3 (some .int), .fieldLink RX6 7 "ZoneSamplerModel" "s" "[I", .methodLink RX6 79 yX6_isSounding, .instanceMethod yX6_isSounding, .selects RX6 yX6_isSounding yX6_isSounding, .code yX6_isSounding cX6_isSounding 6 (some .boolean), .methodLink RX6 48 yX6_isAnswer, .instanceMethod yX6_isAnswer, .selects RX6 yX6_isAnswer yX6_isAnswer, .code yX6_isAnswer cX6_isAnswer 4 (some .boolean), .methodLink RX6 40 yX6_in, .static yX6_in, .code yX6_in cX6_in 3 (some .boolean), .methodLink RX6 51 yX6_ofRobin, .instanceMethod yX6_ofRobin, .selects RX6 yX6_ofRobin yX6_ofRobin, .code yX6_ofRobin cX6_ofRobin 7 (some .int)] ++ wsX60)
def wsX6_zoneOf_r1 : List Cond := [Cond.methodLink RX6 99 yX6_isZone, Cond.instanceMethod yX6_isZone, Cond.selects RX6 yX6_isZone yX6_isZone, Cond.initialized RX6, Cond.code yX6_isZone cX6_isZone 2 (some .boolean), Cond.fieldLink RX6 7 "ZoneSamplerModel" "s" "[I", Cond.methodLink RX6 40 yX6_in, Cond.static yX6_in, Cond.code yX6_in cX6_in 3 (some .boolean), Cond.methodLink RX6 44 yX6_ofZone, Cond.instanceMethod yX6_ofZone, Cond.selects RX6 yX6_ofZone yX6_ofZone, Cond.code yX6_ofZone cX6_ofZone 3 (some .int), Cond.methodLink RX6 182 yX6_voicesOf, Cond.instanceMethod yX6_voicesOf, Cond.selects RX6 yX6_voicesOf yX6_voicesOf, Cond.code yX6_voicesOf cX6_voicesOf 4 (some .int), Cond.methodLink RX6 55 yX6_of, Cond.instanceMethod yX6_of, Cond.selects RX6 yX6_of yX6_of, Cond.code yX6_of cX6_of 3 (some .int), Cond.methodLink RX6 185 yX6_canSound, Cond.instanceMethod yX6_canSound, Cond.selects RX6 yX6_canSound yX6_canSound]
def wsX6_zoneOf_r2 : List Cond := [Cond.code yX6_canSound cX6_canSound 5 (some .boolean), Cond.methodLink RX6 79 yX6_isSounding, Cond.instanceMethod yX6_isSounding, Cond.selects RX6 yX6_isSounding yX6_isSounding, Cond.code yX6_isSounding cX6_isSounding 6 (some .boolean), Cond.methodLink RX6 48 yX6_isAnswer, Cond.instanceMethod yX6_isAnswer, Cond.selects RX6 yX6_isAnswer yX6_isAnswer, Cond.code yX6_isAnswer cX6_isAnswer 4 (some .boolean), Cond.methodLink RX6 51 yX6_ofRobin, Cond.instanceMethod yX6_ofRobin, Cond.selects RX6 yX6_ofRobin yX6_ofRobin, Cond.code yX6_ofRobin cX6_ofRobin 7 (some .int)]
def wsX6_zoneOf : List Cond := .code yX6_zoneOf cX6_zoneOf 3 (some .int) :: ((wsX6_zoneOf_r1 ++ wsX6_zoneOf_r2) ++ wsX60)
def wsX6_rankOf : List Cond := .code yX6_rankOf cX6_rankOf 4 (some .int) :: ([.fieldLink RX6 7 "ZoneSamplerModel" "s" "[I", .methodLink RX6 58 yX6_soon, .instanceMethod yX6_soon, .selects RX6 yX6_soon yX6_soon, .initialized RX6, .code yX6_soon cX6_soon 2 (some .int), .methodLink RX6 55 yX6_of, .instanceMethod yX6_of, .selects RX6 yX6_of yX6_of, .code yX6_of cX6_of 3 (some .int)] ++ wsX60)
def wsX6_voice : List Cond := .code yX6_voice cX6_voice 3 (some .int) :: ([.fieldLink RX6 7 "ZoneSamplerModel" "s" "[I", .methodLink RX6 40 yX6_in, .static yX6_in, .initialized RX6, .code yX6_in cX6_in 3 (some .boolean), .methodLink RX6 55 yX6_of, .instanceMethod yX6_of, .selects RX6 yX6_of yX6_of, .code yX6_of cX6_of 3 (some .int), .methodLink RX6 188 yX6_rankOf, .instanceMethod yX6_rankOf, .selects RX6 yX6_rankOf yX6_rankOf, .code yX6_rankOf cX6_rankOf 4 (some .int), .methodLink RX6 58 yX6_soon, .instanceMethod yX6_soon, .selects RX6 yX6_soon yX6_soon, .code yX6_soon cX6_soon 2 (some .int)] ++ wsX60)
def wsX6_answers : List Cond := .code yX6_answers cX6_answers 3 (some .int) :: ([.methodLink RX6 103 yX6_isNote, .static yX6_isNote, .initialized RX6, .code yX6_isNote cX6_isNote 2 (some .boolean), .methodLink RX6 40 yX6_in, .static yX6_in, .code yX6_in cX6_in 3 (some .boolean), .methodLink RX6 191 yX6_answering, .instanceMethod yX6_answering, .selects RX6 yX6_answering yX6_answering, .code yX6_answering cX6_answering 5 (some .int), .fieldLink RX6 7 "ZoneSamplerModel" "s" "[I", .methodLink RX6 48 yX6_isAnswer, .instanceMethod yX6_isAnswer, .selects RX6 yX6_isAnswer yX6_isAnswer, .code yX6_isAnswer cX6_isAnswer 4 (some .boolean), .methodLink RX6 44 yX6_ofZone, .instanceMethod yX6_ofZone, .selects RX6 yX6_ofZone yX6_ofZone, .code yX6_ofZone cX6_ofZone 3 (some .int)] ++ wsX60)
def wsX6_map : List Cond := .code yX6_map cX6_map 10 (some .int) :: ([.methodLink RX6 40 yX6_in, .static yX6_in, .initialized RX6, .code yX6_in cX6_in 3 (some .boolean), .methodLink RX6 191 yX6_answering, .instanceMethod yX6_answering, .selects RX6 yX6_answering yX6_answering, .code yX6_answering cX6_answering 5 (some .int), .fieldLink RX6 7 "ZoneSamplerModel" "s" "[I", .methodLink RX6 48 yX6_isAnswer, .instanceMethod yX6_isAnswer, .selects RX6 yX6_isAnswer yX6_isAnswer, .code yX6_isAnswer cX6_isAnswer 4 (some .boolean), .methodLink RX6 44 yX6_ofZone, .instanceMethod yX6_ofZone, .selects RX6 yX6_ofZone yX6_ofZone, .code yX6_ofZone cX6_ofZone 3 (some .int)] ++ wsX60)
def wsX6_inState : List Cond := .code yX6_inState cX6_inState 4 (some .int) :: ([.fieldLink RX6 7 "ZoneSamplerModel" "s" "[I", .methodLink RX6 55 yX6_of, .instanceMethod yX6_of, .selects RX6 yX6_of yX6_of, .initialized RX6, .code yX6_of cX6_of 3 (some .int)] ++ wsX60)
def wsX6_allLoud : List Cond := .code yX6_allLoud cX6_allLoud 3 (some .int) :: ([.fieldLink RX6 7 "ZoneSamplerModel" "s" "[I", .methodLink RX6 55 yX6_of, .instanceMethod yX6_of, .selects RX6 yX6_of yX6_of, .initialized RX6, .code yX6_of cX6_of 3 (some .int)] ++ wsX60)
def wsX6_count : List Cond := .code yX6_count cX6_count 2 (some .int) :: ([.fieldLink RX6 7 "ZoneSamplerModel" "s" "[I", .fieldLink RX6 125 "ZoneSamplerModel" "length" "I", .fieldLink RX6 32 "ZoneSamplerModel" "known" "I", .methodLink RX6 194 yX6_inState, .instanceMethod yX6_inState, .selects RX6 yX6_inState yX6_inState, .initialized RX6, .code yX6_inState cX6_inState 4 (some .int), .methodLink RX6 55 yX6_of, .instanceMethod yX6_of, .selects RX6 yX6_of yX6_of, .code yX6_of cX6_of 3 (some .int), .methodLink RX6 197 yX6_allLoud, .instanceMethod yX6_allLoud, .selects RX6 yX6_allLoud yX6_allLoud, .code yX6_allLoud cX6_allLoud 3 (some .int), .methodLink RX6 40 yX6_in, .static yX6_in, .code yX6_in cX6_in 3 (some .boolean)] ++ wsX60)
def wsX6_loudness : List Cond := .code yX6_loudness cX6_loudness 1 (some .double) :: ([.fieldLink RX6 7 "ZoneSamplerModel" "s" "[I", .methodLink RX6 197 yX6_allLoud, .instanceMethod yX6_allLoud, .selects RX6 yX6_allLoud yX6_allLoud, .initialized RX6, .code yX6_allLoud cX6_allLoud 3 (some .int), .methodLink RX6 55 yX6_of, .instanceMethod yX6_of, .selects RX6 yX6_of yX6_of, .code yX6_of cX6_of 3 (some .int)] ++ wsX60)
def wsX6_ifHit_r1 : List Cond := [Cond.fieldLink RX6 7 "ZoneSamplerModel" "s" "[I", Cond.fieldLink RX6 13 "ZoneSamplerModel" "aside" "[I", Cond.fieldLink RX6 76 "ZoneSamplerModel" "firstZone" "I", Cond.methodLink RX6 103 yX6_isNote, Cond.static yX6_isNote, Cond.initialized RX6, Cond.code yX6_isNote cX6_isNote 2 (some .boolean), Cond.methodLink RX6 40 yX6_in, Cond.static yX6_in, Cond.code yX6_in cX6_in 3 (some .boolean), Cond.methodLink RX6 36 yX6_copies, Cond.static yX6_copies, Cond.code yX6_copies cX6_copies 5 none, Cond.methodLink RX6 107 yX6_goHit, Cond.instanceMethod yX6_goHit, Cond.selects RX6 yX6_goHit yX6_goHit, Cond.code yX6_goHit cX6_goHit 5 (some .int), Cond.fieldLink RX6 25 "ZoneSamplerModel" "sounds" "[Z", Cond.methodLink RX6 55 yX6_of, Cond.instanceMethod yX6_of, Cond.selects RX6 yX6_of yX6_of, Cond.code yX6_of cX6_of 3 (some .int), Cond.methodLink RX6 72 yX6_lays, Cond.instanceMethod yX6_lays]
def wsX6_ifHit_r2 : List Cond := [Cond.selects RX6 yX6_lays yX6_lays, Cond.code yX6_lays cX6_lays 4 none, Cond.methodLink RX6 79 yX6_isSounding, Cond.instanceMethod yX6_isSounding, Cond.selects RX6 yX6_isSounding yX6_isSounding, Cond.code yX6_isSounding cX6_isSounding 6 (some .boolean), Cond.methodLink RX6 44 yX6_ofZone, Cond.instanceMethod yX6_ofZone, Cond.selects RX6 yX6_ofZone yX6_ofZone, Cond.code yX6_ofZone cX6_ofZone 3 (some .int), Cond.methodLink RX6 48 yX6_isAnswer, Cond.instanceMethod yX6_isAnswer, Cond.selects RX6 yX6_isAnswer yX6_isAnswer, Cond.code yX6_isAnswer cX6_isAnswer 4 (some .boolean), Cond.methodLink RX6 51 yX6_ofRobin, Cond.instanceMethod yX6_ofRobin, Cond.selects RX6 yX6_ofRobin yX6_ofRobin, Cond.code yX6_ofRobin cX6_ofRobin 7 (some .int), Cond.methodLink RX6 82 yX6_begins, Cond.instanceMethod yX6_begins, Cond.selects RX6 yX6_begins yX6_begins, Cond.code yX6_begins cX6_begins 5 none, Cond.methodLink RX6 66 yX6_chokes, Cond.instanceMethod yX6_chokes]
def wsX6_ifHit_r3 : List Cond := [Cond.selects RX6 yX6_chokes yX6_chokes, Cond.code yX6_chokes cX6_chokes 4 none, Cond.methodLink RX6 62 yX6_dropsVoice, Cond.instanceMethod yX6_dropsVoice, Cond.selects RX6 yX6_dropsVoice yX6_dropsVoice, Cond.code yX6_dropsVoice cX6_dropsVoice 3 none, Cond.methodLink RX6 69 yX6_steals, Cond.instanceMethod yX6_steals, Cond.selects RX6 yX6_steals yX6_steals, Cond.code yX6_steals cX6_steals 3 none, Cond.methodLink RX6 58 yX6_soon, Cond.instanceMethod yX6_soon, Cond.selects RX6 yX6_soon yX6_soon, Cond.code yX6_soon cX6_soon 2 (some .int)]
def wsX6_ifHit : List Cond := .code yX6_ifHit cX6_ifHit 6 (some .int) :: ((wsX6_ifHit_r1 ++ (wsX6_ifHit_r2 ++ wsX6_ifHit_r3)) ++ wsX60)
def wsX6_silentIn_r1 : List Cond := [Cond.fieldLink RX6 7 "ZoneSamplerModel" "s" "[I", Cond.fieldLink RX6 13 "ZoneSamplerModel" "aside" "[I", Cond.methodLink RX6 36 yX6_copies, Cond.static yX6_copies, Cond.initialized RX6, Cond.code yX6_copies cX6_copies 5 none, Cond.methodLink RX6 85 yX6_tick, Cond.instanceMethod yX6_tick, Cond.selects RX6 yX6_tick yX6_tick, Cond.code yX6_tick cX6_tick 3 (some .int), Cond.methodLink RX6 55 yX6_of, Cond.instanceMethod yX6_of, Cond.selects RX6 yX6_of yX6_of, Cond.code yX6_of cX6_of 3 (some .int), Cond.methodLink RX6 72 yX6_lays, Cond.instanceMethod yX6_lays, Cond.selects RX6 yX6_lays yX6_lays, Cond.code yX6_lays cX6_lays 4 none, Cond.methodLink RX6 44 yX6_ofZone, Cond.instanceMethod yX6_ofZone, Cond.selects RX6 yX6_ofZone yX6_ofZone, Cond.code yX6_ofZone cX6_ofZone 3 (some .int), Cond.methodLink RX6 62 yX6_dropsVoice, Cond.instanceMethod yX6_dropsVoice]
def wsX6_silentIn_r2 : List Cond := [Cond.selects RX6 yX6_dropsVoice yX6_dropsVoice, Cond.code yX6_dropsVoice cX6_dropsVoice 3 none]
def wsX6_silentIn : List Cond := .code yX6_silentIn cX6_silentIn 3 (some .int) :: ((wsX6_silentIn_r1 ++ wsX6_silentIn_r2) ++ wsX60)
def wsX6_chord_r1 : List Cond := [Cond.fieldLink RX6 7 "ZoneSamplerModel" "s" "[I", Cond.fieldLink RX6 13 "ZoneSamplerModel" "aside" "[I", Cond.methodLink RX6 40 yX6_in, Cond.static yX6_in, Cond.initialized RX6, Cond.code yX6_in cX6_in 3 (some .boolean), Cond.methodLink RX6 36 yX6_copies, Cond.static yX6_copies, Cond.code yX6_copies cX6_copies 5 none, Cond.methodLink RX6 107 yX6_goHit, Cond.instanceMethod yX6_goHit, Cond.selects RX6 yX6_goHit yX6_goHit, Cond.code yX6_goHit cX6_goHit 5 (some .int), Cond.fieldLink RX6 76 "ZoneSamplerModel" "firstZone" "I", Cond.fieldLink RX6 25 "ZoneSamplerModel" "sounds" "[Z", Cond.methodLink RX6 55 yX6_of, Cond.instanceMethod yX6_of, Cond.selects RX6 yX6_of yX6_of, Cond.code yX6_of cX6_of 3 (some .int), Cond.methodLink RX6 72 yX6_lays, Cond.instanceMethod yX6_lays, Cond.selects RX6 yX6_lays yX6_lays, Cond.code yX6_lays cX6_lays 4 none, Cond.methodLink RX6 79 yX6_isSounding]
def wsX6_chord_r2 : List Cond := [Cond.instanceMethod yX6_isSounding, Cond.selects RX6 yX6_isSounding yX6_isSounding, Cond.code yX6_isSounding cX6_isSounding 6 (some .boolean), Cond.methodLink RX6 44 yX6_ofZone, Cond.instanceMethod yX6_ofZone, Cond.selects RX6 yX6_ofZone yX6_ofZone, Cond.code yX6_ofZone cX6_ofZone 3 (some .int), Cond.methodLink RX6 48 yX6_isAnswer, Cond.instanceMethod yX6_isAnswer, Cond.selects RX6 yX6_isAnswer yX6_isAnswer, Cond.code yX6_isAnswer cX6_isAnswer 4 (some .boolean), Cond.methodLink RX6 51 yX6_ofRobin, Cond.instanceMethod yX6_ofRobin, Cond.selects RX6 yX6_ofRobin yX6_ofRobin, Cond.code yX6_ofRobin cX6_ofRobin 7 (some .int), Cond.methodLink RX6 82 yX6_begins, Cond.instanceMethod yX6_begins, Cond.selects RX6 yX6_begins yX6_begins, Cond.code yX6_begins cX6_begins 5 none, Cond.methodLink RX6 66 yX6_chokes, Cond.instanceMethod yX6_chokes, Cond.selects RX6 yX6_chokes yX6_chokes, Cond.code yX6_chokes cX6_chokes 4 none, Cond.methodLink RX6 62 yX6_dropsVoice]
def wsX6_chord_r3 : List Cond := [Cond.instanceMethod yX6_dropsVoice, Cond.selects RX6 yX6_dropsVoice yX6_dropsVoice, Cond.code yX6_dropsVoice cX6_dropsVoice 3 none, Cond.methodLink RX6 69 yX6_steals, Cond.instanceMethod yX6_steals, Cond.selects RX6 yX6_steals yX6_steals, Cond.code yX6_steals cX6_steals 3 none, Cond.methodLink RX6 58 yX6_soon, Cond.instanceMethod yX6_soon, Cond.selects RX6 yX6_soon yX6_soon, Cond.code yX6_soon cX6_soon 2 (some .int)]
def wsX6_chord : List Cond := .code yX6_chord cX6_chord 6 (some .int) :: ((wsX6_chord_r1 ++ (wsX6_chord_r2 ++ wsX6_chord_r3)) ++ wsX60)
def wsX6_undo : List Cond := .code yX6_undo cX6_undo 1 (some .int) :: ([.fieldLink RX6 32 "ZoneSamplerModel" "known" "I", .fieldLink RX6 16 "ZoneSamplerModel" "past" "[I", .fieldLink RX6 7 "ZoneSamplerModel" "s" "[I", .methodLink RX6 36 yX6_copies, .static yX6_copies, .initialized RX6, .code yX6_copies cX6_copies 5 none] ++ wsX60)
def wsX6_save : List Cond := .code yX6_save cX6_save 1 (some .int) :: ([.fieldLink RX6 7 "ZoneSamplerModel" "s" "[I", .fieldLink RX6 19 "ZoneSamplerModel" "kept" "[I", .fieldLink RX6 200 "ZoneSamplerModel" "isKept" "Z", .methodLink RX6 36 yX6_copies, .static yX6_copies, .initialized RX6, .code yX6_copies cX6_copies 5 none] ++ wsX60)
def wsX6_restore : List Cond := .code yX6_restore cX6_restore 1 (some .int) :: ([.fieldLink RX6 200 "ZoneSamplerModel" "isKept" "Z", .fieldLink RX6 19 "ZoneSamplerModel" "kept" "[I", .fieldLink RX6 7 "ZoneSamplerModel" "s" "[I", .methodLink RX6 92 yX6_records, .instanceMethod yX6_records, .selects RX6 yX6_records yX6_records, .initialized RX6, .code yX6_records cX6_records 2 none, .fieldLink RX6 32 "ZoneSamplerModel" "known" "I", .fieldLink RX6 16 "ZoneSamplerModel" "past" "[I", .methodLink RX6 36 yX6_copies, .static yX6_copies, .code yX6_copies cX6_copies 5 none] ++ wsX60)
def wsJ9_max_7cf53 : List Cond := .code yJ9_max_7cf53 cJ9_max_7cf53 2 (some .int) :: ([])
def wsJ9_min_7cf53 : List Cond := .code yJ9_min_7cf53 cJ9_min_7cf53 2 (some .int) :: ([])
def wsL_law_r1 : List Cond := [Cond.classLink RL 7 RX5, Cond.instantiable RX5 7, Cond.initialized RX5, Cond.classLink RL 10 RX6, Cond.instantiable RX6 17, Cond.initialized RX6, Cond.methodLink RL 9 yX5_init, Cond.instanceMethod yX5_init, Cond.code yX5_init cX5_init 1 none, Cond.methodLink RX5 1 objectInit, Cond.instanceMethod objectInit, Cond.code objectInit ⟨#[0xb1]⟩ 1 none, Cond.classLink RX5 7 RX2, Cond.instantiable RX2 5, Cond.initialized RX2, Cond.fieldLink RX5 10 "ZoneSampler" "now" "LZoneSampler$State;", Cond.fieldLink RX5 16 "ZoneSampler" "trial" "LZoneSampler$State;", Cond.fieldLink RX5 19 "ZoneSampler" "snapshot" "LZoneSampler$State;", Cond.classLink RX5 22 RX0, Cond.instantiable RX0 5, Cond.initialized RX0, Cond.fieldLink RX5 25 "ZoneSampler" "history" "LZoneSampler$History;", Cond.classLink RX5 29 RX1, Cond.instantiable RX1 14]
def wsL_law_r2 : List Cond := [Cond.initialized RX1, Cond.fieldLink RX5 32 "ZoneSampler" "pad" "LZoneSampler$Pad;", Cond.classLink RX5 36 RX3, Cond.instantiable RX3 5, Cond.initialized RX3, Cond.fieldLink RX5 39 "ZoneSampler" "survey" "LZoneSampler$Survey;", Cond.methodLink RX5 9 yX2_init, Cond.instanceMethod yX2_init, Cond.code yX2_init cX2_init 1 none, Cond.methodLink RX2 3 objectInit, Cond.classLink RX2 9 RX4, Cond.instantiable RX4 3, Cond.initialized RX4, Cond.fieldLink RX2 14 "ZoneSampler$State" "zones" "LZoneSampler$Table;", Cond.fieldLink RX2 20 "ZoneSampler$State" "voices" "LZoneSampler$Table;", Cond.arrayClass .int, Cond.fieldLink RX2 23 "ZoneSampler$State" "numbers" "[I", Cond.methodLink RX2 11 yX4_init, Cond.instanceMethod yX4_init, Cond.code yX4_init cX4_init 3 none, Cond.methodLink RX4 1 objectInit, Cond.fieldLink RX4 7 "ZoneSampler$Table" "width" "I", Cond.fieldLink RX4 13 "ZoneSampler$Table" "cells" "[I", Cond.instanceMethod yX0_init]
def wsL_law_r3 : List Cond := [Cond.code yX0_init cX0_init 1 none, Cond.methodLink RX0 3 objectInit, Cond.classLink RX0 9 RX2, Cond.fieldLink RX0 12 "ZoneSampler$History" "first" "LZoneSampler$State;", Cond.fieldLink RX0 18 "ZoneSampler$History" "second" "LZoneSampler$State;", Cond.fieldLink RX0 21 "ZoneSampler$History" "third" "LZoneSampler$State;", Cond.fieldLink RX0 24 "ZoneSampler$History" "fourth" "LZoneSampler$State;", Cond.methodLink RX0 11 yX2_init, Cond.instanceMethod yX1_init, Cond.code yX1_init cX1_init 1 none, Cond.methodLink RX1 3 objectInit, Cond.arrayClass .char, Cond.fieldLink RX1 9 "ZoneSampler$Pad" "signs" "[C", Cond.instanceMethod yX3_init, Cond.code yX3_init cX3_init 1 none, Cond.methodLink RX3 3 objectInit, Cond.fieldLink RX3 9 "ZoneSampler$Survey" "depths" "[I", Cond.methodLink RL 12 yX6_init, Cond.instanceMethod yX6_init, Cond.code yX6_init cX6_init 1 none, Cond.methodLink RX6 1 objectInit, Cond.fieldLink RX6 7 "ZoneSamplerModel" "s" "[I", Cond.fieldLink RX6 13 "ZoneSamplerModel" "aside" "[I", Cond.fieldLink RX6 16 "ZoneSamplerModel" "past" "[I"]
def wsL_law_r4 : List Cond := [Cond.fieldLink RX6 19 "ZoneSamplerModel" "kept" "[I", Cond.fieldLink RX6 22 "ZoneSamplerModel" "pad" "[I", Cond.arrayClass .boolean, Cond.fieldLink RX6 25 "ZoneSamplerModel" "sounds" "[Z", Cond.fieldLink RX6 29 "ZoneSamplerModel" "read" "[I", Cond.methodLink RL 13 yX5_zone, Cond.instanceMethod yX5_zone, Cond.selects RX5 yX5_zone yX5_zone, Cond.code yX5_zone cX5_zone 5 (some .int), Cond.methodLink RX5 43 yX5_within, Cond.static yX5_within, Cond.code yX5_within cX5_within 3 (some .boolean), Cond.methodLink RX5 51 yX4_rows, Cond.instanceMethod yX4_rows, Cond.selects RX4 yX4_rows yX4_rows, Cond.code yX4_rows cX4_rows 1 (some .int), Cond.fieldLink RX4 17 "ZoneSampler$Table" "rows" "I", Cond.methodLink RX5 57 yX0_record, Cond.instanceMethod yX0_record, Cond.selects RX0 yX0_record yX0_record, Cond.code yX0_record cX0_record 3 none, Cond.fieldLink RX0 27 "ZoneSampler$History" "kept" "I", Cond.methodLink RX0 31 yX0_stateAt, Cond.instanceMethod yX0_stateAt]
def wsL_law_r5 : List Cond := [Cond.selects RX0 yX0_stateAt yX0_stateAt, Cond.code yX0_stateAt cX0_stateAt 2 (some (.object "ZoneSampler$State")), Cond.methodLink RX0 35 yX2_copyFrom, Cond.instanceMethod yX2_copyFrom, Cond.selects RX2 yX2_copyFrom yX2_copyFrom, Cond.code yX2_copyFrom cX2_copyFrom 2 none, Cond.methodLink RX2 31 arraycopyName, Cond.native arraycopyName, Cond.static arraycopyName, Cond.initialized "java/lang/System", Cond.fieldLink RX2 37 "ZoneSampler$State" "pedalDown" "Z", Cond.fieldLink RX2 41 "ZoneSampler$State" "notes" "I", Cond.methodLink RX2 27 yX4_copyFrom, Cond.instanceMethod yX4_copyFrom, Cond.selects RX4 yX4_copyFrom yX4_copyFrom, Cond.code yX4_copyFrom cX4_copyFrom 2 none, Cond.methodLink RX4 28 Lib.Math.min.name, Cond.static Lib.Math.min.name, Cond.initialized "java/lang/Math", Cond.code Lib.Math.min.name Lib.Math.min.code 2 (some .int), Cond.methodLink RX4 33 arraycopyName, Cond.methodLink RX5 61 yX2_addZone, Cond.instanceMethod yX2_addZone, Cond.selects RX2 yX2_addZone yX2_addZone]
def wsL_law_r6 : List Cond := [Cond.code yX2_addZone cX2_addZone 6 (some .int), Cond.methodLink RX2 52 yX4_addRow, Cond.instanceMethod yX4_addRow, Cond.selects RX4 yX4_addRow yX4_addRow, Cond.code yX4_addRow cX4_addRow 1 (some .int), Cond.methodLink RX2 56 yX4_put, Cond.instanceMethod yX4_put, Cond.selects RX4 yX4_put yX4_put, Cond.code yX4_put cX4_put 5 none, Cond.methodLink RX2 60 yX2_shapeZone, Cond.instanceMethod yX2_shapeZone, Cond.selects RX2 yX2_shapeZone yX2_shapeZone, Cond.code yX2_shapeZone cX2_shapeZone 5 none, Cond.methodLink RL 17 yX6_zone, Cond.instanceMethod yX6_zone, Cond.selects RX6 yX6_zone yX6_zone, Cond.code yX6_zone cX6_zone 5 (some .int), Cond.methodLink RX6 40 yX6_in, Cond.static yX6_in, Cond.code yX6_in cX6_in 3 (some .boolean), Cond.methodLink RX6 92 yX6_records, Cond.instanceMethod yX6_records, Cond.selects RX6 yX6_records yX6_records, Cond.code yX6_records cX6_records 2 none]
def wsL_law_r7 : List Cond := [Cond.fieldLink RX6 32 "ZoneSamplerModel" "known" "I", Cond.methodLink RX6 36 yX6_copies, Cond.static yX6_copies, Cond.code yX6_copies cX6_copies 5 none, Cond.methodLink RX6 95 yX6_addsZone, Cond.instanceMethod yX6_addsZone, Cond.selects RX6 yX6_addsZone yX6_addsZone, Cond.code yX6_addsZone cX6_addsZone 6 none, Cond.methodLink RX6 89 yX6_laysZone, Cond.instanceMethod yX6_laysZone, Cond.selects RX6 yX6_laysZone yX6_laysZone, Cond.code yX6_laysZone cX6_laysZone 4 none, Cond.methodLink RL 18 yX5_like, Cond.instanceMethod yX5_like, Cond.selects RX5 yX5_like yX5_like, Cond.code yX5_like cX5_like 5 (some .int), Cond.methodLink RX5 65 yX4_has, Cond.instanceMethod yX4_has, Cond.selects RX4 yX4_has yX4_has, Cond.code yX4_has cX4_has 2 (some .boolean), Cond.methodLink RX5 69 yX2_shapeZone, Cond.methodLink RX5 73 yX4_rowsWith, Cond.instanceMethod yX4_rowsWith, Cond.selects RX4 yX4_rowsWith yX4_rowsWith]
def wsL_law_r8 : List Cond := [Cond.code yX4_rowsWith cX4_rowsWith 5 (some .int), Cond.methodLink RX4 24 yX4_get, Cond.instanceMethod yX4_get, Cond.selects RX4 yX4_get yX4_get, Cond.code yX4_get cX4_get 4 (some .int), Cond.methodLink RL 21 yX6_like, Cond.instanceMethod yX6_like, Cond.selects RX6 yX6_like yX6_like, Cond.code yX6_like cX6_like 7 (some .int), Cond.methodLink RX6 99 yX6_isZone, Cond.instanceMethod yX6_isZone, Cond.selects RX6 yX6_isZone yX6_isZone, Cond.code yX6_isZone cX6_isZone 2 (some .boolean), Cond.methodLink RX6 44 yX6_ofZone, Cond.instanceMethod yX6_ofZone, Cond.selects RX6 yX6_ofZone yX6_ofZone, Cond.code yX6_ofZone cX6_ofZone 3 (some .int), Cond.methodLink RL 22 yX5_takeZone, Cond.instanceMethod yX5_takeZone, Cond.selects RX5 yX5_takeZone yX5_takeZone, Cond.code yX5_takeZone cX5_takeZone 2 (some .int), Cond.methodLink RX5 77 yX2_dropZone, Cond.instanceMethod yX2_dropZone, Cond.selects RX2 yX2_dropZone yX2_dropZone]
def wsL_law_r9 : List Cond := [Cond.code yX2_dropZone cX2_dropZone 5 (some .int), Cond.methodLink RX2 64 yX4_rows, Cond.methodLink RX2 67 yX4_get, Cond.methodLink RX2 71 yX4_removeRow, Cond.instanceMethod yX4_removeRow, Cond.selects RX4 yX4_removeRow yX4_removeRow, Cond.code yX4_removeRow cX4_removeRow 3 none, Cond.methodLink RX4 20 yX4_has, Cond.methodLink RX2 75 yX2_grow, Cond.instanceMethod yX2_grow, Cond.selects RX2 yX2_grow yX2_grow, Cond.code yX2_grow cX2_grow 3 none, Cond.methodLink RX2 45 yX2_number, Cond.instanceMethod yX2_number, Cond.selects RX2 yX2_number yX2_number, Cond.code yX2_number cX2_number 2 (some .int), Cond.methodLink RX2 49 yX2_putNumber, Cond.instanceMethod yX2_putNumber, Cond.selects RX2 yX2_putNumber yX2_putNumber, Cond.code yX2_putNumber cX2_putNumber 3 none, Cond.methodLink RL 26 yX6_takeZone, Cond.instanceMethod yX6_takeZone, Cond.selects RX6 yX6_takeZone yX6_takeZone, Cond.code yX6_takeZone cX6_takeZone 5 (some .int)]
def wsL_law_r10 : List Cond := [Cond.methodLink RX6 55 yX6_of, Cond.instanceMethod yX6_of, Cond.selects RX6 yX6_of yX6_of, Cond.code yX6_of cX6_of 3 (some .int), Cond.methodLink RX6 62 yX6_dropsVoice, Cond.instanceMethod yX6_dropsVoice, Cond.selects RX6 yX6_dropsVoice yX6_dropsVoice, Cond.code yX6_dropsVoice cX6_dropsVoice 3 none, Cond.methodLink RX6 72 yX6_lays, Cond.instanceMethod yX6_lays, Cond.selects RX6 yX6_lays yX6_lays, Cond.code yX6_lays cX6_lays 4 none, Cond.methodLink RL 27 yX5_hit, Cond.instanceMethod yX5_hit, Cond.selects RX5 yX5_hit yX5_hit, Cond.code yX5_hit cX5_hit 3 (some .int), Cond.methodLink RX5 81 yX5_isNote, Cond.static yX5_isNote, Cond.code yX5_isNote cX5_isNote 2 (some .boolean), Cond.methodLink RX5 85 yX2_strike, Cond.instanceMethod yX2_strike, Cond.selects RX2 yX2_strike yX2_strike, Cond.code yX2_strike cX2_strike 5 (some .int), Cond.methodLink RX2 85 yX2_moveHeld]
def wsL_law_r11 : List Cond := [Cond.instanceMethod yX2_moveHeld, Cond.selects RX2 yX2_moveHeld yX2_moveHeld, Cond.code yX2_moveHeld cX2_moveHeld 5 (some .int), Cond.methodLink RX2 82 yX2_sounds, Cond.instanceMethod yX2_sounds, Cond.selects RX2 yX2_sounds yX2_sounds, Cond.code yX2_sounds cX2_sounds 8 (some .boolean), Cond.methodLink RX2 78 yX2_matches, Cond.instanceMethod yX2_matches, Cond.selects RX2 yX2_matches yX2_matches, Cond.code yX2_matches cX2_matches 4 (some .boolean), Cond.methodLink RX2 88 yX2_begin, Cond.instanceMethod yX2_begin, Cond.selects RX2 yX2_begin yX2_begin, Cond.code yX2_begin cX2_begin 5 none, Cond.methodLink RX2 94 yX2_choke, Cond.instanceMethod yX2_choke, Cond.selects RX2 yX2_choke yX2_choke, Cond.code yX2_choke cX2_choke 4 none, Cond.methodLink RX2 97 yX2_stealDownTo, Cond.instanceMethod yX2_stealDownTo, Cond.selects RX2 yX2_stealDownTo yX2_stealDownTo, Cond.code yX2_stealDownTo cX2_stealDownTo 5 none, Cond.methodLink RX2 100 yX2_stealRank]
def wsL_law_r12 : List Cond := [Cond.instanceMethod yX2_stealRank, Cond.selects RX2 yX2_stealRank yX2_stealRank, Cond.code yX2_stealRank cX2_stealRank 2 (some .int), Cond.methodLink RX2 91 yX2_passTurns, Cond.instanceMethod yX2_passTurns, Cond.selects RX2 yX2_passTurns yX2_passTurns, Cond.code yX2_passTurns cX2_passTurns 6 none, Cond.methodLink RL 31 yX6_hit, Cond.instanceMethod yX6_hit, Cond.selects RX6 yX6_hit yX6_hit, Cond.code yX6_hit cX6_hit 3 (some .int), Cond.methodLink RX6 103 yX6_isNote, Cond.static yX6_isNote, Cond.code yX6_isNote cX6_isNote 2 (some .boolean), Cond.methodLink RX6 107 yX6_goHit, Cond.instanceMethod yX6_goHit, Cond.selects RX6 yX6_goHit yX6_goHit, Cond.code yX6_goHit cX6_goHit 5 (some .int), Cond.fieldLink RX6 76 "ZoneSamplerModel" "firstZone" "I", Cond.methodLink RX6 79 yX6_isSounding, Cond.instanceMethod yX6_isSounding, Cond.selects RX6 yX6_isSounding yX6_isSounding, Cond.code yX6_isSounding cX6_isSounding 6 (some .boolean), Cond.methodLink RX6 48 yX6_isAnswer]
def wsL_law_r13 : List Cond := [Cond.instanceMethod yX6_isAnswer, Cond.selects RX6 yX6_isAnswer yX6_isAnswer, Cond.code yX6_isAnswer cX6_isAnswer 4 (some .boolean), Cond.methodLink RX6 51 yX6_ofRobin, Cond.instanceMethod yX6_ofRobin, Cond.selects RX6 yX6_ofRobin yX6_ofRobin, Cond.code yX6_ofRobin cX6_ofRobin 7 (some .int), Cond.methodLink RX6 82 yX6_begins, Cond.instanceMethod yX6_begins, Cond.selects RX6 yX6_begins yX6_begins, Cond.code yX6_begins cX6_begins 5 none, Cond.methodLink RX6 66 yX6_chokes, Cond.instanceMethod yX6_chokes, Cond.selects RX6 yX6_chokes yX6_chokes, Cond.code yX6_chokes cX6_chokes 4 none, Cond.methodLink RX6 69 yX6_steals, Cond.instanceMethod yX6_steals, Cond.selects RX6 yX6_steals yX6_steals, Cond.code yX6_steals cX6_steals 3 none, Cond.methodLink RX6 58 yX6_soon, Cond.instanceMethod yX6_soon, Cond.selects RX6 yX6_soon yX6_soon, Cond.code yX6_soon cX6_soon 2 (some .int), Cond.methodLink RL 32 yX5_letGo]
def wsL_law_r14 : List Cond := [Cond.instanceMethod yX5_letGo, Cond.selects RX5 yX5_letGo yX5_letGo, Cond.code yX5_letGo cX5_letGo 2 (some .int), Cond.methodLink RX5 88 yX2_release, Cond.instanceMethod yX2_release, Cond.selects RX2 yX2_release yX2_release, Cond.code yX2_release cX2_release 2 (some .int), Cond.methodLink RL 35 yX6_letGo, Cond.instanceMethod yX6_letGo, Cond.selects RX6 yX6_letGo yX6_letGo, Cond.code yX6_letGo cX6_letGo 2 (some .int), Cond.methodLink RX6 110 yX6_goLet, Cond.instanceMethod yX6_goLet, Cond.selects RX6 yX6_goLet yX6_goLet, Cond.code yX6_goLet cX6_goLet 5 (some .int), Cond.methodLink RL 36 yX5_pedal, Cond.instanceMethod yX5_pedal, Cond.selects RX5 yX5_pedal yX5_pedal, Cond.code yX5_pedal cX5_pedal 1 (some .int), Cond.methodLink RX5 91 yX2_tread, Cond.instanceMethod yX2_tread, Cond.selects RX2 yX2_tread yX2_tread, Cond.code yX2_tread cX2_tread 3 (some .int), Cond.methodLink RL 40 yX6_pedal]
def wsL_law_r15 : List Cond := [Cond.instanceMethod yX6_pedal, Cond.selects RX6 yX6_pedal yX6_pedal, Cond.code yX6_pedal cX6_pedal 1 (some .int), Cond.methodLink RX6 113 yX6_goPedal, Cond.instanceMethod yX6_goPedal, Cond.selects RX6 yX6_goPedal yX6_goPedal, Cond.code yX6_goPedal cX6_goPedal 3 (some .int), Cond.methodLink RL 41 yX5_pass, Cond.instanceMethod yX5_pass, Cond.selects RX5 yX5_pass yX5_pass, Cond.code yX5_pass cX5_pass 2 (some .int), Cond.methodLink RX5 94 yX2_runTicks, Cond.instanceMethod yX2_runTicks, Cond.selects RX2 yX2_runTicks yX2_runTicks, Cond.code yX2_runTicks cX2_runTicks 5 (some .int), Cond.methodLink RX2 103 yX2_wear, Cond.instanceMethod yX2_wear, Cond.selects RX2 yX2_wear yX2_wear, Cond.code yX2_wear cX2_wear 4 none, Cond.methodLink RX2 106 yX2_fadeOf, Cond.instanceMethod yX2_fadeOf, Cond.selects RX2 yX2_fadeOf yX2_fadeOf, Cond.code yX2_fadeOf cX2_fadeOf 2 (some .int), Cond.methodLink RL 44 yX6_pass]
def wsL_law_r16 : List Cond := [Cond.instanceMethod yX6_pass, Cond.selects RX6 yX6_pass yX6_pass, Cond.code yX6_pass cX6_pass 2 (some .int), Cond.methodLink RX6 116 yX6_goPass, Cond.instanceMethod yX6_goPass, Cond.selects RX6 yX6_goPass yX6_goPass, Cond.code yX6_goPass cX6_goPass 4 (some .int), Cond.methodLink RX6 85 yX6_tick, Cond.instanceMethod yX6_tick, Cond.selects RX6 yX6_tick yX6_tick, Cond.code yX6_tick cX6_tick 3 (some .int), Cond.methodLink RL 45 yX5_silence, Cond.instanceMethod yX5_silence, Cond.selects RX5 yX5_silence yX5_silence, Cond.code yX5_silence cX5_silence 1 (some .int), Cond.methodLink RX5 97 yX2_stopAll, Cond.instanceMethod yX2_stopAll, Cond.selects RX2 yX2_stopAll yX2_stopAll, Cond.code yX2_stopAll cX2_stopAll 2 (some .int), Cond.methodLink RX2 117 yX4_removeAll, Cond.instanceMethod yX4_removeAll, Cond.selects RX4 yX4_removeAll yX4_removeAll, Cond.code yX4_removeAll cX4_removeAll 1 none, Cond.methodLink RL 48 yX6_silence]
def wsL_law_r17 : List Cond := [Cond.instanceMethod yX6_silence, Cond.selects RX6 yX6_silence yX6_silence, Cond.code yX6_silence cX6_silence 2 (some .int), Cond.methodLink RL 49 yX5_set, Cond.instanceMethod yX5_set, Cond.selects RX5 yX5_set yX5_set, Cond.code yX5_set cX5_set 4 (some .int), Cond.methodLink RX5 100 yX5_isSetting, Cond.static yX5_isSetting, Cond.code yX5_isSetting cX5_isSetting 2 (some .boolean), Cond.methodLink RX5 103 yX2_number, Cond.methodLink RX5 106 yX2_putNumber, Cond.methodLink RX5 110 yX2_stealDownTo, Cond.methodLink RL 52 yX6_set, Cond.instanceMethod yX6_set, Cond.selects RX6 yX6_set yX6_set, Cond.code yX6_set cX6_set 4 (some .int), Cond.methodLink RX6 119 yX6_leastOf, Cond.static yX6_leastOf, Cond.code yX6_leastOf cX6_leastOf 1 (some .int), Cond.methodLink RX6 122 yX6_mostOf, Cond.static yX6_mostOf, Cond.code yX6_mostOf cX6_mostOf 1 (some .int), Cond.methodLink RL 53 yX5_append]
def wsL_law_r18 : List Cond := [Cond.instanceMethod yX5_append, Cond.selects RX5 yX5_append yX5_append, Cond.code yX5_append cX5_append 2 (some .int), Cond.methodLink RX5 114 yX1_length, Cond.instanceMethod yX1_length, Cond.selects RX1 yX1_length yX1_length, Cond.code yX1_length cX1_length 1 (some .int), Cond.fieldLink RX1 15 "ZoneSampler$Pad" "length" "I", Cond.methodLink RX5 117 yX1_add, Cond.instanceMethod yX1_add, Cond.selects RX1 yX1_add yX1_add, Cond.code yX1_add cX1_add 2 none, Cond.methodLink RL 56 yX6_append, Cond.instanceMethod yX6_append, Cond.selects RX6 yX6_append yX6_append, Cond.code yX6_append cX6_append 2 (some .int), Cond.fieldLink RX6 125 "ZoneSamplerModel" "length" "I", Cond.methodLink RL 57 yX5_clear, Cond.instanceMethod yX5_clear, Cond.selects RX5 yX5_clear yX5_clear, Cond.code yX5_clear cX5_clear 2 (some .int), Cond.methodLink RX5 121 yX1_empty, Cond.instanceMethod yX1_empty, Cond.selects RX1 yX1_empty yX1_empty]
def wsL_law_r19 : List Cond := [Cond.code yX1_empty cX1_empty 1 none, Cond.methodLink RL 60 yX6_clear, Cond.instanceMethod yX6_clear, Cond.selects RX6 yX6_clear yX6_clear, Cond.code yX6_clear cX6_clear 2 (some .int), Cond.methodLink RL 61 yX5_fault, Cond.instanceMethod yX5_fault, Cond.selects RX5 yX5_fault yX5_fault, Cond.code yX5_fault cX5_fault 2 (some .int), Cond.methodLink RX5 124 yX1_faultAs, Cond.instanceMethod yX1_faultAs, Cond.selects RX1 yX1_faultAs yX1_faultAs, Cond.code yX1_faultAs cX1_faultAs 5 (some .int), Cond.fieldLink RX1 19 "ZoneSampler$Pad" "at" "I", Cond.methodLink RX1 22 yX1_rewind, Cond.instanceMethod yX1_rewind, Cond.selects RX1 yX1_rewind yX1_rewind, Cond.code yX1_rewind cX1_rewind 1 none, Cond.methodLink RX1 25 yX1_items, Cond.instanceMethod yX1_items, Cond.selects RX1 yX1_items yX1_items, Cond.code yX1_items cX1_items 3 (some .int), Cond.methodLink RX1 29 yX1_readZone, Cond.instanceMethod yX1_readZone]
def wsL_law_r20 : List Cond := [Cond.selects RX1 yX1_readZone yX1_readZone, Cond.code yX1_readZone cX1_readZone 2 (some .boolean), Cond.fieldLink RX1 47 "ZoneSampler$Pad" "value" "I", Cond.fieldLink RX1 50 "ZoneSampler$Pad" "low" "I", Cond.fieldLink RX1 53 "ZoneSampler$Pad" "high" "I", Cond.fieldLink RX1 56 "ZoneSampler$Pad" "softest" "I", Cond.fieldLink RX1 59 "ZoneSampler$Pad" "hardest" "I", Cond.fieldLink RX1 62 "ZoneSampler$Pad" "lasting" "I", Cond.fieldLink RX1 68 "ZoneSampler$Pad" "group" "I", Cond.fieldLink RX1 71 "ZoneSampler$Pad" "robin" "I", Cond.methodLink RX1 43 yX1_readNumber, Cond.instanceMethod yX1_readNumber, Cond.selects RX1 yX1_readNumber yX1_readNumber, Cond.code yX1_readNumber cX1_readNumber 8 (some .boolean), Cond.methodLink RX1 40 yX1_sign, Cond.instanceMethod yX1_sign, Cond.selects RX1 yX1_sign yX1_sign, Cond.code yX1_sign cX1_sign 1 (some .int), Cond.methodLink RX1 89 yX1_canBegin, Cond.static yX1_canBegin, Cond.code yX1_canBegin cX1_canBegin 5 (some .boolean), Cond.methodLink RX1 36 yX1_readSign, Cond.instanceMethod yX1_readSign, Cond.selects RX1 yX1_readSign yX1_readSign]
def wsL_law_r21 : List Cond := [Cond.code yX1_readSign cX1_readSign 3 (some .boolean), Cond.methodLink RX1 65 yX1_readMark, Cond.instanceMethod yX1_readMark, Cond.selects RX1 yX1_readMark yX1_readMark, Cond.code yX1_readMark cX1_readMark 3 (some .boolean), Cond.methodLink RX1 33 yX1_readDeed, Cond.instanceMethod yX1_readDeed, Cond.selects RX1 yX1_readDeed yX1_readDeed, Cond.code yX1_readDeed cX1_readDeed 1 (some .boolean), Cond.fieldLink RX1 74 "ZoneSampler$Pad" "deed" "I", Cond.methodLink RX1 77 yX1_readDeedKey, Cond.instanceMethod yX1_readDeedKey, Cond.selects RX1 yX1_readDeedKey yX1_readDeedKey, Cond.code yX1_readDeedKey cX1_readDeedKey 2 (some .boolean), Cond.fieldLink RX1 83 "ZoneSampler$Pad" "deedKey" "I", Cond.methodLink RX1 80 yX1_readAmount, Cond.instanceMethod yX1_readAmount, Cond.selects RX1 yX1_readAmount yX1_readAmount, Cond.code yX1_readAmount cX1_readAmount 3 (some .boolean), Cond.fieldLink RX1 86 "ZoneSampler$Pad" "amount" "I", Cond.methodLink RL 64 yX6_fault, Cond.instanceMethod yX6_fault, Cond.selects RX6 yX6_fault yX6_fault, Cond.code yX6_fault cX6_fault 2 (some .int)]
def wsL_law_r22 : List Cond := [Cond.fieldLink RX6 128 "ZoneSamplerModel" "spot" "I", Cond.methodLink RX6 172 yX6_areZones, Cond.instanceMethod yX6_areZones, Cond.selects RX6 yX6_areZones yX6_areZones, Cond.code yX6_areZones cX6_areZones 1 (some .boolean), Cond.fieldLink RX6 131 "ZoneSamplerModel" "isForm" "Z", Cond.fieldLink RX6 148 "ZoneSamplerModel" "reads" "I", Cond.methodLink RX6 157 yX6_takesZone, Cond.instanceMethod yX6_takesZone, Cond.selects RX6 yX6_takesZone yX6_takesZone, Cond.code yX6_takesZone cX6_takesZone 2 none, Cond.methodLink RX6 151 yX6_takesRange, Cond.instanceMethod yX6_takesRange, Cond.selects RX6 yX6_takesRange yX6_takesRange, Cond.code yX6_takesRange cX6_takesRange 4 none, Cond.methodLink RX6 145 yX6_takesNumber, Cond.instanceMethod yX6_takesNumber, Cond.selects RX6 yX6_takesNumber yX6_takesNumber, Cond.code yX6_takesNumber cX6_takesNumber 5 (some .int), Cond.methodLink RX6 135 yX6_here, Cond.instanceMethod yX6_here, Cond.selects RX6 yX6_here yX6_here, Cond.code yX6_here cX6_here 1 (some .int), Cond.methodLink RX6 138 yX6_canBegin]
def wsL_law_r23 : List Cond := [Cond.static yX6_canBegin, Cond.code yX6_canBegin cX6_canBegin 5 (some .boolean), Cond.methodLink RX6 141 yX6_takes, Cond.instanceMethod yX6_takes, Cond.selects RX6 yX6_takes yX6_takes, Cond.code yX6_takes cX6_takes 2 none, Cond.methodLink RX6 154 yX6_takesMark, Cond.instanceMethod yX6_takesMark, Cond.selects RX6 yX6_takesMark yX6_takesMark, Cond.code yX6_takesMark cX6_takesMark 3 (some .int), Cond.methodLink RX6 176 yX6_isScore, Cond.instanceMethod yX6_isScore, Cond.selects RX6 yX6_isScore yX6_isScore, Cond.code yX6_isScore cX6_isScore 1 (some .boolean), Cond.methodLink RX6 169 yX6_takesDeed, Cond.instanceMethod yX6_takesDeed, Cond.selects RX6 yX6_takesDeed yX6_takesDeed, Cond.code yX6_takesDeed cX6_takesDeed 1 none, Cond.fieldLink RX6 160 "ZoneSamplerModel" "letter" "I", Cond.fieldLink RX6 163 "ZoneSamplerModel" "first" "I", Cond.fieldLink RX6 166 "ZoneSamplerModel" "second" "I", Cond.methodLink RL 65 yX5_load, Cond.instanceMethod yX5_load, Cond.selects RX5 yX5_load yX5_load]
def wsL_law_r24 : List Cond := [Cond.code yX5_load cX5_load 4 (some .int), Cond.methodLink RX5 127 yX1_items, Cond.methodLink RX5 130 yX1_rewind, Cond.methodLink RX5 133 yX1_readZone, Cond.methodLink RX5 159 yX1_readSign, Cond.methodLink RL 68 yX6_load, Cond.instanceMethod yX6_load, Cond.selects RX6 yX6_load yX6_load, Cond.code yX6_load cX6_load 3 (some .int), Cond.methodLink RL 69 yX5_play, Cond.instanceMethod yX5_play, Cond.selects RX5 yX5_play yX5_play, Cond.code yX5_play cX5_play 4 (some .int), Cond.methodLink RX5 162 yX1_readDeed, Cond.methodLink RX5 165 yX5_doDeed, Cond.instanceMethod yX5_doDeed, Cond.selects RX5 yX5_doDeed yX5_doDeed, Cond.code yX5_doDeed cX5_doDeed 1 none, Cond.methodLink RL 72 yX6_play, Cond.instanceMethod yX6_play, Cond.selects RX6 yX6_play yX6_play, Cond.code yX6_play cX6_play 2 (some .int), Cond.methodLink RX6 179 yX6_doesDeed, Cond.instanceMethod yX6_doesDeed]
def wsL_law_r25 : List Cond := [Cond.selects RX6 yX6_doesDeed yX6_doesDeed, Cond.code yX6_doesDeed cX6_doesDeed 5 none, Cond.methodLink RL 73 yX5_zoneOf, Cond.instanceMethod yX5_zoneOf, Cond.selects RX5 yX5_zoneOf yX5_zoneOf, Cond.code yX5_zoneOf cX5_zoneOf 3 (some .int), Cond.methodLink RX5 171 yX2_canSound, Cond.instanceMethod yX2_canSound, Cond.selects RX2 yX2_canSound yX2_canSound, Cond.code yX2_canSound cX2_canSound 4 (some .boolean), Cond.methodLink RX5 174 yX4_get, Cond.methodLink RL 76 yX6_zoneOf, Cond.instanceMethod yX6_zoneOf, Cond.selects RX6 yX6_zoneOf yX6_zoneOf, Cond.code yX6_zoneOf cX6_zoneOf 3 (some .int), Cond.methodLink RX6 182 yX6_voicesOf, Cond.instanceMethod yX6_voicesOf, Cond.selects RX6 yX6_voicesOf yX6_voicesOf, Cond.code yX6_voicesOf cX6_voicesOf 4 (some .int), Cond.methodLink RX6 185 yX6_canSound, Cond.instanceMethod yX6_canSound, Cond.selects RX6 yX6_canSound yX6_canSound, Cond.code yX6_canSound cX6_canSound 5 (some .boolean), Cond.methodLink RL 77 yX5_voice]
def wsL_law_r26 : List Cond := [Cond.instanceMethod yX5_voice, Cond.selects RX5 yX5_voice yX5_voice, Cond.code yX5_voice cX5_voice 3 (some .int), Cond.methodLink RX5 177 yX2_stealPlace, Cond.instanceMethod yX2_stealPlace, Cond.selects RX2 yX2_stealPlace yX2_stealPlace, Cond.code yX2_stealPlace cX2_stealPlace 6 (some .int), Cond.methodLink RL 80 yX6_voice, Cond.instanceMethod yX6_voice, Cond.selects RX6 yX6_voice yX6_voice, Cond.code yX6_voice cX6_voice 3 (some .int), Cond.methodLink RX6 188 yX6_rankOf, Cond.instanceMethod yX6_rankOf, Cond.selects RX6 yX6_rankOf yX6_rankOf, Cond.code yX6_rankOf cX6_rankOf 4 (some .int), Cond.methodLink RL 81 yX5_answers, Cond.instanceMethod yX5_answers, Cond.selects RX5 yX5_answers yX5_answers, Cond.code yX5_answers cX5_answers 3 (some .int), Cond.methodLink RX5 180 yX2_matching, Cond.instanceMethod yX2_matching, Cond.selects RX2 yX2_matching yX2_matching, Cond.code yX2_matching cX2_matching 5 (some .int), Cond.methodLink RL 84 yX6_answers]
def wsL_law_r27 : List Cond := [Cond.instanceMethod yX6_answers, Cond.selects RX6 yX6_answers yX6_answers, Cond.code yX6_answers cX6_answers 3 (some .int), Cond.methodLink RX6 191 yX6_answering, Cond.instanceMethod yX6_answering, Cond.selects RX6 yX6_answering yX6_answering, Cond.code yX6_answering cX6_answering 5 (some .int), Cond.methodLink RL 85 yX5_map, Cond.instanceMethod yX5_map, Cond.selects RX5 yX5_map yX5_map, Cond.code yX5_map cX5_map 3 (some .int), Cond.methodLink RX5 183 yX3_goByPlaces, Cond.instanceMethod yX3_goByPlaces, Cond.selects RX3 yX3_goByPlaces yX3_goByPlaces, Cond.code yX3_goByPlaces cX3_goByPlaces 4 none, Cond.methodLink RX3 28 yX3_start, Cond.instanceMethod yX3_start, Cond.selects RX3 yX3_start yX3_start, Cond.code yX3_start cX3_start 2 none, Cond.fieldLink RX3 15 "ZoneSampler$Survey" "holes" "I", Cond.fieldLink RX3 19 "ZoneSampler$Survey" "overlaps" "I", Cond.fieldLink RX3 22 "ZoneSampler$Survey" "deepest" "I", Cond.fieldLink RX3 25 "ZoneSampler$Survey" "firstHole" "I", Cond.methodLink RX3 31 yX2_matching]
def wsL_law_r28 : List Cond := [Cond.methodLink RX3 37 yX3_see, Cond.instanceMethod yX3_see, Cond.selects RX3 yX3_see yX3_see, Cond.code yX3_see cX3_see 3 none, Cond.methodLink RX3 58 Lib.Math.max.name, Cond.static Lib.Math.max.name, Cond.code Lib.Math.max.name Lib.Math.max.code 2 (some .int), Cond.methodLink RX5 186 yX3_goByEdges, Cond.instanceMethod yX3_goByEdges, Cond.selects RX3 yX3_goByEdges yX3_goByEdges, Cond.code yX3_goByEdges cX3_goByEdges 4 none, Cond.methodLink RX3 45 yX4_rows, Cond.methodLink RX3 51 yX4_get, Cond.methodLink RX3 54 yX3_deepen, Cond.instanceMethod yX3_deepen, Cond.selects RX3 yX3_deepen yX3_deepen, Cond.code yX3_deepen cX3_deepen 5 none, Cond.methodLink RX5 189 yX3_finding, Cond.instanceMethod yX3_finding, Cond.selects RX3 yX3_finding yX3_finding, Cond.code yX3_finding cX3_finding 2 (some .int), Cond.methodLink RL 88 yX6_map, Cond.instanceMethod yX6_map, Cond.selects RX6 yX6_map yX6_map]
def wsL_law_r29 : List Cond := [Cond.code yX6_map cX6_map 10 (some .int), Cond.methodLink RL 89 yX5_count, Cond.instanceMethod yX5_count, Cond.selects RX5 yX5_count yX5_count, Cond.code yX5_count cX5_count 2 (some .int), Cond.methodLink RX5 192 yX4_sumOf, Cond.instanceMethod yX4_sumOf, Cond.selects RX4 yX4_sumOf yX4_sumOf, Cond.code yX4_sumOf cX4_sumOf 4 (some .int), Cond.methodLink RX5 199 yX0_size, Cond.instanceMethod yX0_size, Cond.selects RX0 yX0_size yX0_size, Cond.code yX0_size cX0_size 1 (some .int), Cond.methodLink RL 92 yX6_count, Cond.instanceMethod yX6_count, Cond.selects RX6 yX6_count yX6_count, Cond.code yX6_count cX6_count 2 (some .int), Cond.methodLink RX6 194 yX6_inState, Cond.instanceMethod yX6_inState, Cond.selects RX6 yX6_inState yX6_inState, Cond.code yX6_inState cX6_inState 4 (some .int), Cond.methodLink RX6 197 yX6_allLoud, Cond.instanceMethod yX6_allLoud, Cond.selects RX6 yX6_allLoud yX6_allLoud]
def wsL_law_r30 : List Cond := [Cond.code yX6_allLoud cX6_allLoud 3 (some .int), Cond.methodLink RL 93 yX5_loudness, Cond.instanceMethod yX5_loudness, Cond.selects RX5 yX5_loudness yX5_loudness, Cond.code yX5_loudness cX5_loudness 2 (some .double), Cond.methodLink RL 97 yX6_loudness, Cond.instanceMethod yX6_loudness, Cond.selects RX6 yX6_loudness yX6_loudness, Cond.code yX6_loudness cX6_loudness 1 (some .double), Cond.methodLink RL 98 yX5_ifHit, Cond.instanceMethod yX5_ifHit, Cond.selects RX5 yX5_ifHit yX5_ifHit, Cond.code yX5_ifHit cX5_ifHit 5 (some .int), Cond.methodLink RX5 202 yX2_firstSounding, Cond.instanceMethod yX2_firstSounding, Cond.selects RX2 yX2_firstSounding yX2_firstSounding, Cond.code yX2_firstSounding cX2_firstSounding 4 (some .int), Cond.methodLink RX5 205 yX2_copyFrom, Cond.methodLink RL 102 yX6_ifHit, Cond.instanceMethod yX6_ifHit, Cond.selects RX6 yX6_ifHit yX6_ifHit, Cond.code yX6_ifHit cX6_ifHit 6 (some .int), Cond.methodLink RL 103 yX5_silentIn, Cond.instanceMethod yX5_silentIn]
def wsL_law_r31 : List Cond := [Cond.selects RX5 yX5_silentIn yX5_silentIn, Cond.code yX5_silentIn cX5_silentIn 3 (some .int), Cond.methodLink RX5 211 Lib.Math.max.name, Cond.methodLink RX5 208 yX2_ticksLeft, Cond.instanceMethod yX2_ticksLeft, Cond.selects RX2 yX2_ticksLeft yX2_ticksLeft, Cond.code yX2_ticksLeft cX2_ticksLeft 5 (some .int), Cond.methodLink RX2 109 Lib.Math.max.name, Cond.methodLink RX2 114 Lib.Math.min.name, Cond.methodLink RL 106 yX6_silentIn, Cond.instanceMethod yX6_silentIn, Cond.selects RX6 yX6_silentIn yX6_silentIn, Cond.code yX6_silentIn cX6_silentIn 3 (some .int), Cond.methodLink RL 107 yX5_chord, Cond.instanceMethod yX5_chord, Cond.selects RX5 yX5_chord yX5_chord, Cond.code yX5_chord cX5_chord 6 (some .int), Cond.methodLink RX5 216 yX2_sounding, Cond.instanceMethod yX2_sounding, Cond.selects RX2 yX2_sounding yX2_sounding, Cond.code yX2_sounding cX2_sounding 5 (some .int), Cond.methodLink RL 110 yX6_chord, Cond.instanceMethod yX6_chord, Cond.selects RX6 yX6_chord yX6_chord]
def wsL_law_r32 : List Cond := [Cond.code yX6_chord cX6_chord 6 (some .int), Cond.methodLink RL 111 yX5_undo, Cond.instanceMethod yX5_undo, Cond.selects RX5 yX5_undo yX5_undo, Cond.code yX5_undo cX5_undo 1 (some .int), Cond.methodLink RX5 219 yX0_goBack, Cond.instanceMethod yX0_goBack, Cond.selects RX0 yX0_goBack yX0_goBack, Cond.code yX0_goBack cX0_goBack 2 none, Cond.methodLink RL 114 yX6_undo, Cond.instanceMethod yX6_undo, Cond.selects RX6 yX6_undo yX6_undo, Cond.code yX6_undo cX6_undo 1 (some .int), Cond.methodLink RL 115 yX5_save, Cond.instanceMethod yX5_save, Cond.selects RX5 yX5_save yX5_save, Cond.code yX5_save cX5_save 1 (some .int), Cond.fieldLink RX5 222 "ZoneSampler" "hasSnapshot" "Z", Cond.methodLink RL 118 yX6_save, Cond.instanceMethod yX6_save, Cond.selects RX6 yX6_save yX6_save, Cond.code yX6_save cX6_save 1 (some .int), Cond.fieldLink RX6 200 "ZoneSamplerModel" "isKept" "Z", Cond.methodLink RL 119 yX5_restore]
def wsL_law_r33 : List Cond := [Cond.instanceMethod yX5_restore, Cond.selects RX5 yX5_restore yX5_restore, Cond.code yX5_restore cX5_restore 1 (some .int), Cond.methodLink RL 122 yX6_restore, Cond.instanceMethod yX6_restore, Cond.selects RX6 yX6_restore yX6_restore, Cond.code yX6_restore cX6_restore 1 (some .int)]
def wsL_law : List Cond := (wsL_law_r1 ++ (wsL_law_r2 ++ (wsL_law_r3 ++ (wsL_law_r4 ++ (wsL_law_r5 ++ (wsL_law_r6 ++ (wsL_law_r7 ++ (wsL_law_r8 ++ (wsL_law_r9 ++ (wsL_law_r10 ++ (wsL_law_r11 ++ (wsL_law_r12 ++ (wsL_law_r13 ++ (wsL_law_r14 ++ (wsL_law_r15 ++ (wsL_law_r16 ++ (wsL_law_r17 ++ (wsL_law_r18 ++ (wsL_law_r19 ++ (wsL_law_r20 ++ (wsL_law_r21 ++ (wsL_law_r22 ++ (wsL_law_r23 ++ (wsL_law_r24 ++ (wsL_law_r25 ++ (wsL_law_r26 ++ (wsL_law_r27 ++ (wsL_law_r28 ++ (wsL_law_r29 ++ (wsL_law_r30 ++ (wsL_law_r31 ++ (wsL_law_r32 ++ wsL_law_r33)))))))))))))))))))))))))))))))) ++ wsX50 ++ wsX60 ++ wsX20 ++ wsX00 ++ wsX10 ++ wsX30 ++ wsX40 ++ ([] : List Cond)
theorem inJ9 : ∀ w ∈ wsJ90, w ∈ lw_tbl := by decide +kernel
theorem inJ10 : ∀ w ∈ wsJ100, w ∈ lw_tbl := by decide +kernel
set_option maxRecDepth 20000 in
theorem ggX0_init_X2_init : GoodIn wsX0_init wsX2_init := goodIn_r _ [13, 14, 2, 3, 15, 16, 17, 18, 19, 20, 21, 22, 23, 24, 25, 26, 27, 38, 39, 40, 28, 29, 30, 31, 32] (by decide +kernel) (by decide +kernel)
set_option maxRecDepth 20000 in
theorem gX0_init_X2_init : GoodIn wsX0_init (wsX2_init) := ggX0_init_X2_init
theorem dX0_init_0 : decode cX0_init 0 = .ok (.aload_n 0, 1) := by decide +kernel
theorem dX0_init_1 : decode cX0_init 1 = .ok (.invokespecial 3, 3) := by decide +kernel
theorem dX0_init_4 : decode cX0_init 4 = .ok (.aload_n 0, 1) := by decide +kernel
theorem dX0_init_5 : decode cX0_init 5 = .ok (.new 9, 3) := by decide +kernel
theorem dX0_init_8 : decode cX0_init 8 = .ok (.dup, 1) := by decide +kernel
theorem dX0_init_9 : decode cX0_init 9 = .ok (.invokespecial 11, 3) := by decide +kernel
theorem dX0_init_12 : decode cX0_init 12 = .ok (.putfield 12, 3) := by decide +kernel
theorem dX0_init_15 : decode cX0_init 15 = .ok (.aload_n 0, 1) := by decide +kernel
theorem dX0_init_16 : decode cX0_init 16 = .ok (.new 9, 3) := by decide +kernel
theorem dX0_init_19 : decode cX0_init 19 = .ok (.dup, 1) := by decide +kernel
theorem dX0_init_20 : decode cX0_init 20 = .ok (.invokespecial 11, 3) := by decide +kernel
theorem dX0_init_23 : decode cX0_init 23 = .ok (.putfield 18, 3) := by decide +kernel
theorem dX0_init_26 : decode cX0_init 26 = .ok (.aload_n 0, 1) := by decide +kernel
theorem dX0_init_27 : decode cX0_init 27 = .ok (.new 9, 3) := by decide +kernel
theorem dX0_init_30 : decode cX0_init 30 = .ok (.dup, 1) := by decide +kernel
theorem dX0_init_31 : decode cX0_init 31 = .ok (.invokespecial 11, 3) := by decide +kernel
theorem dX0_init_34 : decode cX0_init 34 = .ok (.putfield 21, 3) := by decide +kernel
theorem dX0_init_37 : decode cX0_init 37 = .ok (.aload_n 0, 1) := by decide +kernel
theorem dX0_init_38 : decode cX0_init 38 = .ok (.new 9, 3) := by decide +kernel
theorem dX0_init_41 : decode cX0_init 41 = .ok (.dup, 1) := by decide +kernel
theorem dX0_init_42 : decode cX0_init 42 = .ok (.invokespecial 11, 3) := by decide +kernel
theorem dX0_init_45 : decode cX0_init 45 = .ok (.putfield 24, 3) := by decide +kernel
theorem dX0_init_48 : decode cX0_init 48 = .ok (.return_, 1) := by decide +kernel
theorem dX0_size_0 : decode cX0_size 0 = .ok (.aload_n 0, 1) := by decide +kernel
theorem dX0_size_1 : decode cX0_size 1 = .ok (.getfield 27, 3) := by decide +kernel
theorem dX0_size_4 : decode cX0_size 4 = .ok (.ireturn, 1) := by decide +kernel
set_option maxRecDepth 20000 in
theorem ggX0_record_X0_stateAt : GoodIn wsX0_record wsX0_stateAt := goodIn_r _ [10, 2, 3, 4, 5, 37, 38, 39, 40, 41] (by decide +kernel) (by decide +kernel)
set_option maxRecDepth 20000 in
theorem gX0_record_X0_stateAt : GoodIn wsX0_record (wsV RX0 31 RX0 yX0_stateAt wsX0_stateAt) := goodIn_app (goodIn_of _ (by decide +kernel)) ggX0_record_X0_stateAt
set_option maxRecDepth 20000 in
theorem ggX0_record_X2_copyFrom : GoodIn wsX0_record wsX2_copyFrom := goodIn_r _ [15, 16, 17, 18, 19, 20, 21, 22, 23, 24, 25, 26, 27, 28, 29, 30, 31, 32, 33, 34, 35, 36, 42, 43, 44, 45, 46, 47, 48, 49] (by decide +kernel) (by decide +kernel)
set_option maxRecDepth 20000 in
theorem gX0_record_X2_copyFrom : GoodIn wsX0_record (wsV RX0 35 RX2 yX2_copyFrom wsX2_copyFrom) := goodIn_app (goodIn_of _ (by decide +kernel)) ggX0_record_X2_copyFrom
theorem dX0_record_0 : decode cX0_record 0 = .ok (.aload_n 0, 1) := by decide +kernel
theorem dX0_record_1 : decode cX0_record 1 = .ok (.getfield 27, 3) := by decide +kernel
theorem dX0_record_4 : decode cX0_record 4 = .ok (.iconst 4, 1) := by decide +kernel
theorem dX0_record_5 : decode cX0_record 5 = .ok (.if_icmp .lt 47, 3) := by decide +kernel
theorem dX0_record_8 : decode cX0_record 8 = .ok (.aload_n 0, 1) := by decide +kernel
theorem dX0_record_9 : decode cX0_record 9 = .ok (.getfield 12, 3) := by decide +kernel
theorem dX0_record_12 : decode cX0_record 12 = .ok (.astore_n 2, 1) := by decide +kernel
theorem dX0_record_13 : decode cX0_record 13 = .ok (.aload_n 0, 1) := by decide +kernel
theorem dX0_record_14 : decode cX0_record 14 = .ok (.aload_n 0, 1) := by decide +kernel
theorem dX0_record_15 : decode cX0_record 15 = .ok (.getfield 18, 3) := by decide +kernel
theorem dX0_record_18 : decode cX0_record 18 = .ok (.putfield 12, 3) := by decide +kernel
theorem dX0_record_21 : decode cX0_record 21 = .ok (.aload_n 0, 1) := by decide +kernel
theorem dX0_record_22 : decode cX0_record 22 = .ok (.aload_n 0, 1) := by decide +kernel
theorem dX0_record_23 : decode cX0_record 23 = .ok (.getfield 21, 3) := by decide +kernel
theorem dX0_record_26 : decode cX0_record 26 = .ok (.putfield 18, 3) := by decide +kernel
theorem dX0_record_29 : decode cX0_record 29 = .ok (.aload_n 0, 1) := by decide +kernel
theorem dX0_record_30 : decode cX0_record 30 = .ok (.aload_n 0, 1) := by decide +kernel
theorem dX0_record_31 : decode cX0_record 31 = .ok (.getfield 24, 3) := by decide +kernel
theorem dX0_record_34 : decode cX0_record 34 = .ok (.putfield 21, 3) := by decide +kernel
theorem dX0_record_37 : decode cX0_record 37 = .ok (.aload_n 0, 1) := by decide +kernel
theorem dX0_record_38 : decode cX0_record 38 = .ok (.aload_n 2, 1) := by decide +kernel
theorem dX0_record_39 : decode cX0_record 39 = .ok (.putfield 24, 3) := by decide +kernel
theorem dX0_record_42 : decode cX0_record 42 = .ok (.aload_n 0, 1) := by decide +kernel
theorem dX0_record_43 : decode cX0_record 43 = .ok (.dup, 1) := by decide +kernel
theorem dX0_record_44 : decode cX0_record 44 = .ok (.getfield 27, 3) := by decide +kernel
theorem dX0_record_47 : decode cX0_record 47 = .ok (.iconst 1, 1) := by decide +kernel
theorem dX0_record_48 : decode cX0_record 48 = .ok (.isub, 1) := by decide +kernel
theorem dX0_record_49 : decode cX0_record 49 = .ok (.putfield 27, 3) := by decide +kernel
theorem dX0_record_52 : decode cX0_record 52 = .ok (.aload_n 0, 1) := by decide +kernel
theorem dX0_record_53 : decode cX0_record 53 = .ok (.aload_n 0, 1) := by decide +kernel
theorem dX0_record_54 : decode cX0_record 54 = .ok (.getfield 27, 3) := by decide +kernel
theorem dX0_record_57 : decode cX0_record 57 = .ok (.invokevirtual 31, 3) := by decide +kernel
theorem dX0_record_60 : decode cX0_record 60 = .ok (.aload_n 1, 1) := by decide +kernel
theorem dX0_record_61 : decode cX0_record 61 = .ok (.invokevirtual 35, 3) := by decide +kernel
theorem dX0_record_64 : decode cX0_record 64 = .ok (.aload_n 0, 1) := by decide +kernel
theorem dX0_record_65 : decode cX0_record 65 = .ok (.dup, 1) := by decide +kernel
theorem dX0_record_66 : decode cX0_record 66 = .ok (.getfield 27, 3) := by decide +kernel
theorem dX0_record_69 : decode cX0_record 69 = .ok (.iconst 1, 1) := by decide +kernel
theorem dX0_record_70 : decode cX0_record 70 = .ok (.iadd, 1) := by decide +kernel
theorem dX0_record_71 : decode cX0_record 71 = .ok (.putfield 27, 3) := by decide +kernel
theorem dX0_record_74 : decode cX0_record 74 = .ok (.return_, 1) := by decide +kernel
set_option maxRecDepth 20000 in
theorem ggX0_goBack_X0_stateAt : GoodIn wsX0_goBack wsX0_stateAt := goodIn_r _ [6, 7, 8, 9, 10, 37, 38, 39, 40, 41] (by decide +kernel) (by decide +kernel)
set_option maxRecDepth 20000 in
theorem gX0_goBack_X0_stateAt : GoodIn wsX0_goBack (wsV RX0 31 RX0 yX0_stateAt wsX0_stateAt) := goodIn_app (goodIn_of _ (by decide +kernel)) ggX0_goBack_X0_stateAt
set_option maxRecDepth 20000 in
theorem ggX0_goBack_X2_copyFrom : GoodIn wsX0_goBack wsX2_copyFrom := goodIn_r _ [15, 16, 17, 18, 19, 20, 21, 22, 23, 24, 25, 26, 27, 28, 29, 30, 31, 32, 33, 34, 35, 36, 42, 43, 44, 45, 46, 47, 48, 49] (by decide +kernel) (by decide +kernel)
set_option maxRecDepth 20000 in
theorem gX0_goBack_X2_copyFrom : GoodIn wsX0_goBack (wsV RX0 35 RX2 yX2_copyFrom wsX2_copyFrom) := goodIn_app (goodIn_of _ (by decide +kernel)) ggX0_goBack_X2_copyFrom
theorem dX0_goBack_0 : decode cX0_goBack 0 = .ok (.aload_n 0, 1) := by decide +kernel
theorem dX0_goBack_1 : decode cX0_goBack 1 = .ok (.getfield 27, 3) := by decide +kernel
theorem dX0_goBack_4 : decode cX0_goBack 4 = .ok (.ifCond .le 25, 3) := by decide +kernel
theorem dX0_goBack_7 : decode cX0_goBack 7 = .ok (.aload_n 0, 1) := by decide +kernel
theorem dX0_goBack_8 : decode cX0_goBack 8 = .ok (.dup, 1) := by decide +kernel
theorem dX0_goBack_9 : decode cX0_goBack 9 = .ok (.getfield 27, 3) := by decide +kernel
theorem dX0_goBack_12 : decode cX0_goBack 12 = .ok (.iconst 1, 1) := by decide +kernel
theorem dX0_goBack_13 : decode cX0_goBack 13 = .ok (.isub, 1) := by decide +kernel
theorem dX0_goBack_14 : decode cX0_goBack 14 = .ok (.putfield 27, 3) := by decide +kernel
theorem dX0_goBack_17 : decode cX0_goBack 17 = .ok (.aload_n 1, 1) := by decide +kernel
theorem dX0_goBack_18 : decode cX0_goBack 18 = .ok (.aload_n 0, 1) := by decide +kernel
theorem dX0_goBack_19 : decode cX0_goBack 19 = .ok (.aload_n 0, 1) := by decide +kernel
theorem dX0_goBack_20 : decode cX0_goBack 20 = .ok (.getfield 27, 3) := by decide +kernel
theorem dX0_goBack_23 : decode cX0_goBack 23 = .ok (.invokevirtual 31, 3) := by decide +kernel
theorem dX0_goBack_26 : decode cX0_goBack 26 = .ok (.invokevirtual 35, 3) := by decide +kernel
theorem dX0_goBack_29 : decode cX0_goBack 29 = .ok (.return_, 1) := by decide +kernel
theorem dX0_stateAt_0 : decode cX0_stateAt 0 = .ok (.iload_n 1, 1) := by decide +kernel
theorem dX0_stateAt_1 : decode cX0_stateAt 1 = .ok (.tableswitch 42 0 2 #[27, 32, 37], 27) := by decide +kernel
theorem dX0_stateAt_28 : decode cX0_stateAt 28 = .ok (.aload_n 0, 1) := by decide +kernel
theorem dX0_stateAt_29 : decode cX0_stateAt 29 = .ok (.getfield 12, 3) := by decide +kernel
theorem dX0_stateAt_32 : decode cX0_stateAt 32 = .ok (.areturn, 1) := by decide +kernel
theorem dX0_stateAt_33 : decode cX0_stateAt 33 = .ok (.aload_n 0, 1) := by decide +kernel
theorem dX0_stateAt_34 : decode cX0_stateAt 34 = .ok (.getfield 18, 3) := by decide +kernel
theorem dX0_stateAt_37 : decode cX0_stateAt 37 = .ok (.areturn, 1) := by decide +kernel
theorem dX0_stateAt_38 : decode cX0_stateAt 38 = .ok (.aload_n 0, 1) := by decide +kernel
theorem dX0_stateAt_39 : decode cX0_stateAt 39 = .ok (.getfield 21, 3) := by decide +kernel
theorem dX0_stateAt_42 : decode cX0_stateAt 42 = .ok (.areturn, 1) := by decide +kernel
theorem dX0_stateAt_43 : decode cX0_stateAt 43 = .ok (.aload_n 0, 1) := by decide +kernel
theorem dX0_stateAt_44 : decode cX0_stateAt 44 = .ok (.getfield 24, 3) := by decide +kernel
theorem dX0_stateAt_47 : decode cX0_stateAt 47 = .ok (.areturn, 1) := by decide +kernel
theorem dX1_init_0 : decode cX1_init 0 = .ok (.aload_n 0, 1) := by decide +kernel
theorem dX1_init_1 : decode cX1_init 1 = .ok (.invokespecial 3, 3) := by decide +kernel
theorem dX1_init_4 : decode cX1_init 4 = .ok (.aload_n 0, 1) := by decide +kernel
theorem dX1_init_5 : decode cX1_init 5 = .ok (.bipush 60, 2) := by decide +kernel
theorem dX1_init_7 : decode cX1_init 7 = .ok (.newarray .char, 2) := by decide +kernel
theorem dX1_init_9 : decode cX1_init 9 = .ok (.putfield 9, 3) := by decide +kernel
theorem dX1_init_12 : decode cX1_init 12 = .ok (.return_, 1) := by decide +kernel
theorem dX1_length_0 : decode cX1_length 0 = .ok (.aload_n 0, 1) := by decide +kernel
theorem dX1_length_1 : decode cX1_length 1 = .ok (.getfield 15, 3) := by decide +kernel
theorem dX1_length_4 : decode cX1_length 4 = .ok (.ireturn, 1) := by decide +kernel
theorem dX1_add_0 : decode cX1_add 0 = .ok (.aload_n 0, 1) := by decide +kernel
theorem dX1_add_1 : decode cX1_add 1 = .ok (.getfield 15, 3) := by decide +kernel
theorem dX1_add_4 : decode cX1_add 4 = .ok (.ifCond .lt 35, 3) := by decide +kernel
theorem dX1_add_7 : decode cX1_add 7 = .ok (.aload_n 0, 1) := by decide +kernel
theorem dX1_add_8 : decode cX1_add 8 = .ok (.getfield 15, 3) := by decide +kernel
theorem dX1_add_11 : decode cX1_add 11 = .ok (.aload_n 0, 1) := by decide +kernel
theorem dX1_add_12 : decode cX1_add 12 = .ok (.getfield 9, 3) := by decide +kernel
theorem dX1_add_15 : decode cX1_add 15 = .ok (.arraylength, 1) := by decide +kernel
theorem dX1_add_16 : decode cX1_add 16 = .ok (.if_icmp .ge 23, 3) := by decide +kernel
theorem dX1_add_19 : decode cX1_add 19 = .ok (.aload_n 0, 1) := by decide +kernel
theorem dX1_add_20 : decode cX1_add 20 = .ok (.getfield 9, 3) := by decide +kernel
theorem dX1_add_23 : decode cX1_add 23 = .ok (.aload_n 0, 1) := by decide +kernel
theorem dX1_add_24 : decode cX1_add 24 = .ok (.getfield 15, 3) := by decide +kernel
theorem dX1_add_27 : decode cX1_add 27 = .ok (.iload_n 1, 1) := by decide +kernel
theorem dX1_add_28 : decode cX1_add 28 = .ok (.castore, 1) := by decide +kernel
theorem dX1_add_29 : decode cX1_add 29 = .ok (.aload_n 0, 1) := by decide +kernel
theorem dX1_add_30 : decode cX1_add 30 = .ok (.dup, 1) := by decide +kernel
theorem dX1_add_31 : decode cX1_add 31 = .ok (.getfield 15, 3) := by decide +kernel
theorem dX1_add_34 : decode cX1_add 34 = .ok (.iconst 1, 1) := by decide +kernel
theorem dX1_add_35 : decode cX1_add 35 = .ok (.iadd, 1) := by decide +kernel
theorem dX1_add_36 : decode cX1_add 36 = .ok (.putfield 15, 3) := by decide +kernel
theorem dX1_add_39 : decode cX1_add 39 = .ok (.return_, 1) := by decide +kernel
theorem dX1_empty_0 : decode cX1_empty 0 = .ok (.aload_n 0, 1) := by decide +kernel
theorem dX1_empty_1 : decode cX1_empty 1 = .ok (.iconst 0, 1) := by decide +kernel
theorem dX1_empty_2 : decode cX1_empty 2 = .ok (.putfield 15, 3) := by decide +kernel
theorem dX1_empty_5 : decode cX1_empty 5 = .ok (.return_, 1) := by decide +kernel
theorem dX1_rewind_0 : decode cX1_rewind 0 = .ok (.aload_n 0, 1) := by decide +kernel
theorem dX1_rewind_1 : decode cX1_rewind 1 = .ok (.iconst 0, 1) := by decide +kernel
theorem dX1_rewind_2 : decode cX1_rewind 2 = .ok (.putfield 19, 3) := by decide +kernel
theorem dX1_rewind_5 : decode cX1_rewind 5 = .ok (.return_, 1) := by decide +kernel
theorem dX1_items_0 : decode cX1_items 0 = .ok (.iconst 1, 1) := by decide +kernel
theorem dX1_items_1 : decode cX1_items 1 = .ok (.istore_n 1, 1) := by decide +kernel
theorem dX1_items_2 : decode cX1_items 2 = .ok (.iconst 0, 1) := by decide +kernel
theorem dX1_items_3 : decode cX1_items 3 = .ok (.istore_n 2, 1) := by decide +kernel
theorem dX1_items_4 : decode cX1_items 4 = .ok (.iload_n 2, 1) := by decide +kernel
theorem dX1_items_5 : decode cX1_items 5 = .ok (.aload_n 0, 1) := by decide +kernel
theorem dX1_items_6 : decode cX1_items 6 = .ok (.getfield 15, 3) := by decide +kernel
theorem dX1_items_9 : decode cX1_items 9 = .ok (.if_icmp .ge 37, 3) := by decide +kernel
theorem dX1_items_12 : decode cX1_items 12 = .ok (.iload_n 2, 1) := by decide +kernel
theorem dX1_items_13 : decode cX1_items 13 = .ok (.aload_n 0, 1) := by decide +kernel
theorem dX1_items_14 : decode cX1_items 14 = .ok (.getfield 9, 3) := by decide +kernel
theorem dX1_items_17 : decode cX1_items 17 = .ok (.arraylength, 1) := by decide +kernel
theorem dX1_items_18 : decode cX1_items 18 = .ok (.if_icmp .ge 28, 3) := by decide +kernel
theorem dX1_items_21 : decode cX1_items 21 = .ok (.iload_n 1, 1) := by decide +kernel
theorem dX1_items_22 : decode cX1_items 22 = .ok (.aload_n 0, 1) := by decide +kernel
theorem dX1_items_23 : decode cX1_items 23 = .ok (.getfield 9, 3) := by decide +kernel
theorem dX1_items_26 : decode cX1_items 26 = .ok (.iload_n 2, 1) := by decide +kernel
theorem dX1_items_27 : decode cX1_items 27 = .ok (.caload, 1) := by decide +kernel
theorem dX1_items_28 : decode cX1_items 28 = .ok (.bipush 59, 2) := by decide +kernel
theorem dX1_items_30 : decode cX1_items 30 = .ok (.if_icmp .ne 7, 3) := by decide +kernel
theorem dX1_items_33 : decode cX1_items 33 = .ok (.iconst 1, 1) := by decide +kernel
theorem dX1_items_34 : decode cX1_items 34 = .ok (.goto 4, 3) := by decide +kernel
theorem dX1_items_37 : decode cX1_items 37 = .ok (.iconst 0, 1) := by decide +kernel
theorem dX1_items_38 : decode cX1_items 38 = .ok (.iadd, 1) := by decide +kernel
theorem dX1_items_39 : decode cX1_items 39 = .ok (.istore_n 1, 1) := by decide +kernel
theorem dX1_items_40 : decode cX1_items 40 = .ok (.iinc 2 1, 3) := by decide +kernel
theorem dX1_items_43 : decode cX1_items 43 = .ok (.goto (-39), 3) := by decide +kernel
theorem dX1_items_46 : decode cX1_items 46 = .ok (.iload_n 1, 1) := by decide +kernel
theorem dX1_items_47 : decode cX1_items 47 = .ok (.ireturn, 1) := by decide +kernel
set_option maxRecDepth 20000 in
theorem ggX1_faultAs_X1_rewind : GoodIn wsX1_faultAs wsX1_rewind := goodIn_r _ [7, 1, 59, 60, 61, 62, 63, 64, 65, 66, 67, 68, 69, 70, 71, 72] (by decide +kernel) (by decide +kernel)
set_option maxRecDepth 20000 in
theorem gX1_faultAs_X1_rewind : GoodIn wsX1_faultAs (wsV RX1 22 RX1 yX1_rewind wsX1_rewind) := goodIn_app (goodIn_of _ (by decide +kernel)) ggX1_faultAs_X1_rewind
set_option maxRecDepth 20000 in
theorem ggX1_faultAs_X1_items : GoodIn wsX1_faultAs wsX1_items := goodIn_r _ [11, 2, 12, 59, 60, 61, 62, 63, 64, 65, 66, 67, 68, 69, 70, 71, 72] (by decide +kernel) (by decide +kernel)
set_option maxRecDepth 20000 in
theorem gX1_faultAs_X1_items : GoodIn wsX1_faultAs (wsV RX1 25 RX1 yX1_items wsX1_items) := goodIn_app (goodIn_of _ (by decide +kernel)) ggX1_faultAs_X1_items
set_option maxRecDepth 20000 in
theorem ggX1_faultAs_X1_readZone : GoodIn wsX1_faultAs wsX1_readZone := goodIn_r _ [16, 17, 18, 19, 20, 21, 22, 23, 24, 25, 26, 27, 6, 28, 1, 29, 30, 31, 32, 2, 12, 33, 34, 35, 36, 37, 38, 39, 40, 41, 42, 43, 59, 60, 61, 62, 63, 64, 65, 66, 67, 68, 69, 70, 71, 72] (by decide +kernel) (by decide +kernel)
set_option maxRecDepth 20000 in
theorem gX1_faultAs_X1_readZone : GoodIn wsX1_faultAs (wsV RX1 29 RX1 yX1_readZone wsX1_readZone) := goodIn_app (goodIn_of _ (by decide +kernel)) ggX1_faultAs_X1_readZone
set_option maxRecDepth 20000 in
theorem ggX1_faultAs_X1_readDeed : GoodIn wsX1_faultAs wsX1_readDeed := goodIn_r _ [47, 48, 1, 29, 30, 31, 6, 32, 2, 12, 49, 50, 51, 52, 17, 53, 25, 26, 27, 28, 33, 34, 35, 36, 37, 38, 39, 54, 55, 56, 57, 58, 59, 60, 61, 62, 63, 64, 65, 66, 67, 68, 69, 70, 71, 72] (by decide +kernel) (by decide +kernel)
set_option maxRecDepth 20000 in
theorem gX1_faultAs_X1_readDeed : GoodIn wsX1_faultAs (wsV RX1 33 RX1 yX1_readDeed wsX1_readDeed) := goodIn_app (goodIn_of _ (by decide +kernel)) ggX1_faultAs_X1_readDeed
set_option maxRecDepth 20000 in
theorem ggX1_faultAs_X1_readSign : GoodIn wsX1_faultAs wsX1_readSign := goodIn_r _ [39, 1, 29, 30, 31, 6, 32, 2, 12, 59, 60, 61, 62, 63, 64, 65, 66, 67, 68, 69, 70, 71, 72] (by decide +kernel) (by decide +kernel)
set_option maxRecDepth 20000 in
theorem gX1_faultAs_X1_readSign : GoodIn wsX1_faultAs (wsV RX1 36 RX1 yX1_readSign wsX1_readSign) := goodIn_app (goodIn_of _ (by decide +kernel)) ggX1_faultAs_X1_readSign
theorem dX1_faultAs_0 : decode cX1_faultAs 0 = .ok (.aload_n 0, 1) := by decide +kernel
theorem dX1_faultAs_1 : decode cX1_faultAs 1 = .ok (.invokevirtual 22, 3) := by decide +kernel
theorem dX1_faultAs_4 : decode cX1_faultAs 4 = .ok (.aload_n 0, 1) := by decide +kernel
theorem dX1_faultAs_5 : decode cX1_faultAs 5 = .ok (.invokevirtual 25, 3) := by decide +kernel
theorem dX1_faultAs_8 : decode cX1_faultAs 8 = .ok (.istore_n 2, 1) := by decide +kernel
theorem dX1_faultAs_9 : decode cX1_faultAs 9 = .ok (.iconst 0, 1) := by decide +kernel
theorem dX1_faultAs_10 : decode cX1_faultAs 10 = .ok (.istore_n 3, 1) := by decide +kernel
theorem dX1_faultAs_11 : decode cX1_faultAs 11 = .ok (.iload_n 3, 1) := by decide +kernel
theorem dX1_faultAs_12 : decode cX1_faultAs 12 = .ok (.iload_n 2, 1) := by decide +kernel
theorem dX1_faultAs_13 : decode cX1_faultAs 13 = .ok (.if_icmp .ge 64, 3) := by decide +kernel
theorem dX1_faultAs_16 : decode cX1_faultAs 16 = .ok (.iload_n 1, 1) := by decide +kernel
theorem dX1_faultAs_17 : decode cX1_faultAs 17 = .ok (.ifCond .ne 10, 3) := by decide +kernel
theorem dX1_faultAs_20 : decode cX1_faultAs 20 = .ok (.aload_n 0, 1) := by decide +kernel
theorem dX1_faultAs_21 : decode cX1_faultAs 21 = .ok (.invokevirtual 29, 3) := by decide +kernel
theorem dX1_faultAs_24 : decode cX1_faultAs 24 = .ok (.goto 7, 3) := by decide +kernel
theorem dX1_faultAs_27 : decode cX1_faultAs 27 = .ok (.aload_n 0, 1) := by decide +kernel
theorem dX1_faultAs_28 : decode cX1_faultAs 28 = .ok (.invokevirtual 33, 3) := by decide +kernel
theorem dX1_faultAs_31 : decode cX1_faultAs 31 = .ok (.istore 4, 2) := by decide +kernel
theorem dX1_faultAs_33 : decode cX1_faultAs 33 = .ok (.iload 4, 2) := by decide +kernel
theorem dX1_faultAs_35 : decode cX1_faultAs 35 = .ok (.ifCond .eq 17, 3) := by decide +kernel
theorem dX1_faultAs_38 : decode cX1_faultAs 38 = .ok (.aload_n 0, 1) := by decide +kernel
theorem dX1_faultAs_39 : decode cX1_faultAs 39 = .ok (.getfield 19, 3) := by decide +kernel
theorem dX1_faultAs_42 : decode cX1_faultAs 42 = .ok (.aload_n 0, 1) := by decide +kernel
theorem dX1_faultAs_43 : decode cX1_faultAs 43 = .ok (.getfield 15, 3) := by decide +kernel
theorem dX1_faultAs_46 : decode cX1_faultAs 46 = .ok (.if_icmp .lt 6, 3) := by decide +kernel
theorem dX1_faultAs_49 : decode cX1_faultAs 49 = .ok (.bipush (-4), 2) := by decide +kernel
theorem dX1_faultAs_51 : decode cX1_faultAs 51 = .ok (.ireturn, 1) := by decide +kernel
theorem dX1_faultAs_52 : decode cX1_faultAs 52 = .ok (.iload 4, 2) := by decide +kernel
theorem dX1_faultAs_54 : decode cX1_faultAs 54 = .ok (.ifCond .eq 12, 3) := by decide +kernel
theorem dX1_faultAs_57 : decode cX1_faultAs 57 = .ok (.aload_n 0, 1) := by decide +kernel
theorem dX1_faultAs_58 : decode cX1_faultAs 58 = .ok (.bipush 59, 2) := by decide +kernel
theorem dX1_faultAs_60 : decode cX1_faultAs 60 = .ok (.invokevirtual 36, 3) := by decide +kernel
theorem dX1_faultAs_63 : decode cX1_faultAs 63 = .ok (.ifCond .ne 8, 3) := by decide +kernel
theorem dX1_faultAs_66 : decode cX1_faultAs 66 = .ok (.aload_n 0, 1) := by decide +kernel
theorem dX1_faultAs_67 : decode cX1_faultAs 67 = .ok (.getfield 19, 3) := by decide +kernel
theorem dX1_faultAs_70 : decode cX1_faultAs 70 = .ok (.ireturn, 1) := by decide +kernel
theorem dX1_faultAs_71 : decode cX1_faultAs 71 = .ok (.iinc 3 1, 3) := by decide +kernel
theorem dX1_faultAs_74 : decode cX1_faultAs 74 = .ok (.goto (-63), 3) := by decide +kernel
theorem dX1_faultAs_77 : decode cX1_faultAs 77 = .ok (.aload_n 0, 1) := by decide +kernel
theorem dX1_faultAs_78 : decode cX1_faultAs 78 = .ok (.getfield 19, 3) := by decide +kernel
theorem dX1_faultAs_81 : decode cX1_faultAs 81 = .ok (.ireturn, 1) := by decide +kernel
set_option maxRecDepth 20000 in
theorem ggX1_readSign_X1_sign : GoodIn wsX1_readSign wsX1_sign := goodIn_r _ [6, 1, 7, 8, 9, 10, 11, 12, 13, 14, 15, 16, 17, 18, 19, 20, 21, 22] (by decide +kernel) (by decide +kernel)
set_option maxRecDepth 20000 in
theorem gX1_readSign_X1_sign : GoodIn wsX1_readSign (wsV RX1 40 RX1 yX1_sign wsX1_sign) := goodIn_app (goodIn_of _ (by decide +kernel)) ggX1_readSign_X1_sign
theorem dX1_readSign_0 : decode cX1_readSign 0 = .ok (.aload_n 0, 1) := by decide +kernel
theorem dX1_readSign_1 : decode cX1_readSign 1 = .ok (.invokevirtual 40, 3) := by decide +kernel
theorem dX1_readSign_4 : decode cX1_readSign 4 = .ok (.iload_n 1, 1) := by decide +kernel
theorem dX1_readSign_5 : decode cX1_readSign 5 = .ok (.if_icmp .ne 7, 3) := by decide +kernel
theorem dX1_readSign_8 : decode cX1_readSign 8 = .ok (.iconst 1, 1) := by decide +kernel
theorem dX1_readSign_9 : decode cX1_readSign 9 = .ok (.goto 4, 3) := by decide +kernel
theorem dX1_readSign_12 : decode cX1_readSign 12 = .ok (.iconst 0, 1) := by decide +kernel
theorem dX1_readSign_13 : decode cX1_readSign 13 = .ok (.istore_n 2, 1) := by decide +kernel
theorem dX1_readSign_14 : decode cX1_readSign 14 = .ok (.aload_n 0, 1) := by decide +kernel
theorem dX1_readSign_15 : decode cX1_readSign 15 = .ok (.dup, 1) := by decide +kernel
theorem dX1_readSign_16 : decode cX1_readSign 16 = .ok (.getfield 19, 3) := by decide +kernel
theorem dX1_readSign_19 : decode cX1_readSign 19 = .ok (.iload_n 2, 1) := by decide +kernel
theorem dX1_readSign_20 : decode cX1_readSign 20 = .ok (.ifCond .eq 7, 3) := by decide +kernel
theorem dX1_readSign_23 : decode cX1_readSign 23 = .ok (.iconst 1, 1) := by decide +kernel
theorem dX1_readSign_24 : decode cX1_readSign 24 = .ok (.goto 4, 3) := by decide +kernel
theorem dX1_readSign_27 : decode cX1_readSign 27 = .ok (.iconst 0, 1) := by decide +kernel
theorem dX1_readSign_28 : decode cX1_readSign 28 = .ok (.iadd, 1) := by decide +kernel
theorem dX1_readSign_29 : decode cX1_readSign 29 = .ok (.putfield 19, 3) := by decide +kernel
theorem dX1_readSign_32 : decode cX1_readSign 32 = .ok (.iload_n 2, 1) := by decide +kernel
theorem dX1_readSign_33 : decode cX1_readSign 33 = .ok (.ireturn, 1) := by decide +kernel
set_option maxRecDepth 20000 in
theorem ggX1_readZone_X1_readNumber : GoodIn wsX1_readZone wsX1_readNumber := goodIn_r _ [13, 1, 14, 15, 16, 17, 12, 18, 19, 20, 21, 22, 23, 32, 33, 34, 35, 36, 37, 38, 39, 40, 41, 42, 43, 44, 45] (by decide +kernel) (by decide +kernel)
set_option maxRecDepth 20000 in
theorem gX1_readZone_X1_readNumber : GoodIn wsX1_readZone (wsV RX1 43 RX1 yX1_readNumber wsX1_readNumber) := goodIn_app (goodIn_of _ (by decide +kernel)) ggX1_readZone_X1_readNumber
set_option maxRecDepth 20000 in
theorem ggX1_readZone_X1_readSign : GoodIn wsX1_readZone wsX1_readSign := goodIn_r _ [27, 14, 15, 16, 17, 12, 18, 19, 20, 32, 33, 34, 35, 36, 37, 38, 39, 40, 41, 42, 43, 44, 45] (by decide +kernel) (by decide +kernel)
set_option maxRecDepth 20000 in
theorem gX1_readZone_X1_readSign : GoodIn wsX1_readZone (wsV RX1 36 RX1 yX1_readSign wsX1_readSign) := goodIn_app (goodIn_of _ (by decide +kernel)) ggX1_readZone_X1_readSign
set_option maxRecDepth 20000 in
theorem ggX1_readZone_X1_readMark : GoodIn wsX1_readZone wsX1_readMark := goodIn_r _ [31, 1, 24, 25, 26, 12, 27, 14, 15, 16, 17, 18, 19, 20, 9, 10, 11, 13, 21, 22, 23, 32, 33, 34, 35, 36, 37, 38, 39, 40, 41, 42, 43, 44, 45] (by decide +kernel) (by decide +kernel)
set_option maxRecDepth 20000 in
theorem gX1_readZone_X1_readMark : GoodIn wsX1_readZone (wsV RX1 65 RX1 yX1_readMark wsX1_readMark) := goodIn_app (goodIn_of _ (by decide +kernel)) ggX1_readZone_X1_readMark
theorem dX1_readZone_0 : decode cX1_readZone 0 = .ok (.aload_n 0, 1) := by decide +kernel
theorem dX1_readZone_1 : decode cX1_readZone 1 = .ok (.iconst 0, 1) := by decide +kernel
theorem dX1_readZone_2 : decode cX1_readZone 2 = .ok (.bipush 35, 2) := by decide +kernel
theorem dX1_readZone_4 : decode cX1_readZone 4 = .ok (.invokevirtual 43, 3) := by decide +kernel
theorem dX1_readZone_7 : decode cX1_readZone 7 = .ok (.ifCond .ne 5, 3) := by decide +kernel
theorem dX1_readZone_10 : decode cX1_readZone 10 = .ok (.iconst 0, 1) := by decide +kernel
theorem dX1_readZone_11 : decode cX1_readZone 11 = .ok (.ireturn, 1) := by decide +kernel
theorem dX1_readZone_12 : decode cX1_readZone 12 = .ok (.aload_n 0, 1) := by decide +kernel
theorem dX1_readZone_13 : decode cX1_readZone 13 = .ok (.aload_n 0, 1) := by decide +kernel
theorem dX1_readZone_14 : decode cX1_readZone 14 = .ok (.getfield 47, 3) := by decide +kernel
theorem dX1_readZone_17 : decode cX1_readZone 17 = .ok (.putfield 50, 3) := by decide +kernel
theorem dX1_readZone_20 : decode cX1_readZone 20 = .ok (.aload_n 0, 1) := by decide +kernel
theorem dX1_readZone_21 : decode cX1_readZone 21 = .ok (.bipush 45, 2) := by decide +kernel
theorem dX1_readZone_23 : decode cX1_readZone 23 = .ok (.invokevirtual 36, 3) := by decide +kernel
theorem dX1_readZone_26 : decode cX1_readZone 26 = .ok (.ifCond .eq 16, 3) := by decide +kernel
theorem dX1_readZone_29 : decode cX1_readZone 29 = .ok (.aload_n 0, 1) := by decide +kernel
theorem dX1_readZone_30 : decode cX1_readZone 30 = .ok (.aload_n 0, 1) := by decide +kernel
theorem dX1_readZone_31 : decode cX1_readZone 31 = .ok (.getfield 50, 3) := by decide +kernel
theorem dX1_readZone_34 : decode cX1_readZone 34 = .ok (.bipush 35, 2) := by decide +kernel
theorem dX1_readZone_36 : decode cX1_readZone 36 = .ok (.invokevirtual 43, 3) := by decide +kernel
theorem dX1_readZone_39 : decode cX1_readZone 39 = .ok (.ifCond .ne 5, 3) := by decide +kernel
theorem dX1_readZone_42 : decode cX1_readZone 42 = .ok (.iconst 0, 1) := by decide +kernel
theorem dX1_readZone_43 : decode cX1_readZone 43 = .ok (.ireturn, 1) := by decide +kernel
theorem dX1_readZone_44 : decode cX1_readZone 44 = .ok (.aload_n 0, 1) := by decide +kernel
theorem dX1_readZone_45 : decode cX1_readZone 45 = .ok (.aload_n 0, 1) := by decide +kernel
theorem dX1_readZone_46 : decode cX1_readZone 46 = .ok (.getfield 47, 3) := by decide +kernel
theorem dX1_readZone_49 : decode cX1_readZone 49 = .ok (.putfield 53, 3) := by decide +kernel
theorem dX1_readZone_52 : decode cX1_readZone 52 = .ok (.aload_n 0, 1) := by decide +kernel
theorem dX1_readZone_53 : decode cX1_readZone 53 = .ok (.bipush 44, 2) := by decide +kernel
theorem dX1_readZone_55 : decode cX1_readZone 55 = .ok (.invokevirtual 36, 3) := by decide +kernel
theorem dX1_readZone_58 : decode cX1_readZone 58 = .ok (.ifCond .eq 13, 3) := by decide +kernel
theorem dX1_readZone_61 : decode cX1_readZone 61 = .ok (.aload_n 0, 1) := by decide +kernel
theorem dX1_readZone_62 : decode cX1_readZone 62 = .ok (.iconst 1, 1) := by decide +kernel
theorem dX1_readZone_63 : decode cX1_readZone 63 = .ok (.bipush 9, 2) := by decide +kernel
theorem dX1_readZone_65 : decode cX1_readZone 65 = .ok (.invokevirtual 43, 3) := by decide +kernel
theorem dX1_readZone_68 : decode cX1_readZone 68 = .ok (.ifCond .ne 5, 3) := by decide +kernel
theorem dX1_readZone_71 : decode cX1_readZone 71 = .ok (.iconst 0, 1) := by decide +kernel
theorem dX1_readZone_72 : decode cX1_readZone 72 = .ok (.ireturn, 1) := by decide +kernel
theorem dX1_readZone_73 : decode cX1_readZone 73 = .ok (.aload_n 0, 1) := by decide +kernel
theorem dX1_readZone_74 : decode cX1_readZone 74 = .ok (.aload_n 0, 1) := by decide +kernel
theorem dX1_readZone_75 : decode cX1_readZone 75 = .ok (.getfield 47, 3) := by decide +kernel
theorem dX1_readZone_78 : decode cX1_readZone 78 = .ok (.putfield 56, 3) := by decide +kernel
theorem dX1_readZone_81 : decode cX1_readZone 81 = .ok (.aload_n 0, 1) := by decide +kernel
theorem dX1_readZone_82 : decode cX1_readZone 82 = .ok (.bipush 45, 2) := by decide +kernel
theorem dX1_readZone_84 : decode cX1_readZone 84 = .ok (.invokevirtual 36, 3) := by decide +kernel
theorem dX1_readZone_87 : decode cX1_readZone 87 = .ok (.ifCond .eq 16, 3) := by decide +kernel
theorem dX1_readZone_90 : decode cX1_readZone 90 = .ok (.aload_n 0, 1) := by decide +kernel
theorem dX1_readZone_91 : decode cX1_readZone 91 = .ok (.aload_n 0, 1) := by decide +kernel
theorem dX1_readZone_92 : decode cX1_readZone 92 = .ok (.getfield 56, 3) := by decide +kernel
theorem dX1_readZone_95 : decode cX1_readZone 95 = .ok (.bipush 9, 2) := by decide +kernel
theorem dX1_readZone_97 : decode cX1_readZone 97 = .ok (.invokevirtual 43, 3) := by decide +kernel
theorem dX1_readZone_100 : decode cX1_readZone 100 = .ok (.ifCond .ne 5, 3) := by decide +kernel
theorem dX1_readZone_103 : decode cX1_readZone 103 = .ok (.iconst 0, 1) := by decide +kernel
theorem dX1_readZone_104 : decode cX1_readZone 104 = .ok (.ireturn, 1) := by decide +kernel
theorem dX1_readZone_105 : decode cX1_readZone 105 = .ok (.aload_n 0, 1) := by decide +kernel
theorem dX1_readZone_106 : decode cX1_readZone 106 = .ok (.aload_n 0, 1) := by decide +kernel
theorem dX1_readZone_107 : decode cX1_readZone 107 = .ok (.getfield 47, 3) := by decide +kernel
theorem dX1_readZone_110 : decode cX1_readZone 110 = .ok (.putfield 59, 3) := by decide +kernel
theorem dX1_readZone_113 : decode cX1_readZone 113 = .ok (.aload_n 0, 1) := by decide +kernel
theorem dX1_readZone_114 : decode cX1_readZone 114 = .ok (.bipush 44, 2) := by decide +kernel
theorem dX1_readZone_116 : decode cX1_readZone 116 = .ok (.invokevirtual 36, 3) := by decide +kernel
theorem dX1_readZone_119 : decode cX1_readZone 119 = .ok (.ifCond .eq 13, 3) := by decide +kernel
theorem dX1_readZone_122 : decode cX1_readZone 122 = .ok (.aload_n 0, 1) := by decide +kernel
theorem dX1_readZone_123 : decode cX1_readZone 123 = .ok (.iconst 1, 1) := by decide +kernel
theorem dX1_readZone_124 : decode cX1_readZone 124 = .ok (.bipush 60, 2) := by decide +kernel
theorem dX1_readZone_126 : decode cX1_readZone 126 = .ok (.invokevirtual 43, 3) := by decide +kernel
theorem dX1_readZone_129 : decode cX1_readZone 129 = .ok (.ifCond .ne 5, 3) := by decide +kernel
theorem dX1_readZone_132 : decode cX1_readZone 132 = .ok (.iconst 0, 1) := by decide +kernel
theorem dX1_readZone_133 : decode cX1_readZone 133 = .ok (.ireturn, 1) := by decide +kernel
theorem dX1_readZone_134 : decode cX1_readZone 134 = .ok (.aload_n 0, 1) := by decide +kernel
theorem dX1_readZone_135 : decode cX1_readZone 135 = .ok (.aload_n 0, 1) := by decide +kernel
theorem dX1_readZone_136 : decode cX1_readZone 136 = .ok (.getfield 47, 3) := by decide +kernel
theorem dX1_readZone_139 : decode cX1_readZone 139 = .ok (.putfield 62, 3) := by decide +kernel
theorem dX1_readZone_142 : decode cX1_readZone 142 = .ok (.aload_n 0, 1) := by decide +kernel
theorem dX1_readZone_143 : decode cX1_readZone 143 = .ok (.bipush 103, 2) := by decide +kernel
theorem dX1_readZone_145 : decode cX1_readZone 145 = .ok (.iconst 3, 1) := by decide +kernel
theorem dX1_readZone_146 : decode cX1_readZone 146 = .ok (.invokevirtual 65, 3) := by decide +kernel
theorem dX1_readZone_149 : decode cX1_readZone 149 = .ok (.ifCond .ne 5, 3) := by decide +kernel
theorem dX1_readZone_152 : decode cX1_readZone 152 = .ok (.iconst 0, 1) := by decide +kernel
theorem dX1_readZone_153 : decode cX1_readZone 153 = .ok (.ireturn, 1) := by decide +kernel
theorem dX1_readZone_154 : decode cX1_readZone 154 = .ok (.aload_n 0, 1) := by decide +kernel
theorem dX1_readZone_155 : decode cX1_readZone 155 = .ok (.aload_n 0, 1) := by decide +kernel
theorem dX1_readZone_156 : decode cX1_readZone 156 = .ok (.getfield 47, 3) := by decide +kernel
theorem dX1_readZone_159 : decode cX1_readZone 159 = .ok (.putfield 68, 3) := by decide +kernel
theorem dX1_readZone_162 : decode cX1_readZone 162 = .ok (.aload_n 0, 1) := by decide +kernel
theorem dX1_readZone_163 : decode cX1_readZone 163 = .ok (.bipush 114, 2) := by decide +kernel
theorem dX1_readZone_165 : decode cX1_readZone 165 = .ok (.iconst 4, 1) := by decide +kernel
theorem dX1_readZone_166 : decode cX1_readZone 166 = .ok (.invokevirtual 65, 3) := by decide +kernel
theorem dX1_readZone_169 : decode cX1_readZone 169 = .ok (.istore_n 1, 1) := by decide +kernel
theorem dX1_readZone_170 : decode cX1_readZone 170 = .ok (.aload_n 0, 1) := by decide +kernel
theorem dX1_readZone_171 : decode cX1_readZone 171 = .ok (.aload_n 0, 1) := by decide +kernel
theorem dX1_readZone_172 : decode cX1_readZone 172 = .ok (.getfield 47, 3) := by decide +kernel
theorem dX1_readZone_175 : decode cX1_readZone 175 = .ok (.putfield 71, 3) := by decide +kernel
theorem dX1_readZone_178 : decode cX1_readZone 178 = .ok (.iload_n 1, 1) := by decide +kernel
theorem dX1_readZone_179 : decode cX1_readZone 179 = .ok (.ireturn, 1) := by decide +kernel
set_option maxRecDepth 20000 in
theorem ggX1_readMark_X1_readSign : GoodIn wsX1_readMark wsX1_readSign := goodIn_r _ [6, 7, 8, 9, 10, 5, 11, 12, 13, 21, 22, 23, 24, 25, 26, 27, 28, 29, 30, 31, 32, 33, 34] (by decide +kernel) (by decide +kernel)
set_option maxRecDepth 20000 in
theorem gX1_readMark_X1_readSign : GoodIn wsX1_readMark (wsV RX1 36 RX1 yX1_readSign wsX1_readSign) := goodIn_app (goodIn_of _ (by decide +kernel)) ggX1_readMark_X1_readSign
set_option maxRecDepth 20000 in
theorem ggX1_readMark_X1_readNumber : GoodIn wsX1_readMark wsX1_readNumber := goodIn_r _ [17, 1, 7, 8, 9, 10, 5, 11, 12, 13, 18, 19, 20, 21, 22, 23, 24, 25, 26, 27, 28, 29, 30, 31, 32, 33, 34] (by decide +kernel) (by decide +kernel)
set_option maxRecDepth 20000 in
theorem gX1_readMark_X1_readNumber : GoodIn wsX1_readMark (wsV RX1 43 RX1 yX1_readNumber wsX1_readNumber) := goodIn_app (goodIn_of _ (by decide +kernel)) ggX1_readMark_X1_readNumber
theorem dX1_readMark_0 : decode cX1_readMark 0 = .ok (.aload_n 0, 1) := by decide +kernel
theorem dX1_readMark_1 : decode cX1_readMark 1 = .ok (.iconst 0, 1) := by decide +kernel
theorem dX1_readMark_2 : decode cX1_readMark 2 = .ok (.putfield 47, 3) := by decide +kernel
theorem dX1_readMark_5 : decode cX1_readMark 5 = .ok (.aload_n 0, 1) := by decide +kernel
theorem dX1_readMark_6 : decode cX1_readMark 6 = .ok (.iload_n 1, 1) := by decide +kernel
theorem dX1_readMark_7 : decode cX1_readMark 7 = .ok (.invokevirtual 36, 3) := by decide +kernel
theorem dX1_readMark_10 : decode cX1_readMark 10 = .ok (.ifCond .eq 12, 3) := by decide +kernel
theorem dX1_readMark_13 : decode cX1_readMark 13 = .ok (.aload_n 0, 1) := by decide +kernel
theorem dX1_readMark_14 : decode cX1_readMark 14 = .ok (.iconst 1, 1) := by decide +kernel
theorem dX1_readMark_15 : decode cX1_readMark 15 = .ok (.iload_n 2, 1) := by decide +kernel
theorem dX1_readMark_16 : decode cX1_readMark 16 = .ok (.invokevirtual 43, 3) := by decide +kernel
theorem dX1_readMark_19 : decode cX1_readMark 19 = .ok (.ifCond .eq 7, 3) := by decide +kernel
theorem dX1_readMark_22 : decode cX1_readMark 22 = .ok (.iconst 1, 1) := by decide +kernel
theorem dX1_readMark_23 : decode cX1_readMark 23 = .ok (.goto 4, 3) := by decide +kernel
theorem dX1_readMark_26 : decode cX1_readMark 26 = .ok (.iconst 0, 1) := by decide +kernel
theorem dX1_readMark_27 : decode cX1_readMark 27 = .ok (.ireturn, 1) := by decide +kernel
set_option maxRecDepth 20000 in
theorem ggX1_readDeed_X1_sign : GoodIn wsX1_readDeed wsX1_sign := goodIn_r _ [7, 2, 8, 9, 32, 33, 34, 35, 36, 37, 38, 39, 40, 41, 42, 43, 44, 45] (by decide +kernel) (by decide +kernel)
set_option maxRecDepth 20000 in
theorem gX1_readDeed_X1_sign : GoodIn wsX1_readDeed (wsV RX1 40 RX1 yX1_sign wsX1_sign) := goodIn_app (goodIn_of _ (by decide +kernel)) ggX1_readDeed_X1_sign
set_option maxRecDepth 20000 in
theorem ggX1_readDeed_X1_readDeedKey : GoodIn wsX1_readDeed wsX1_readDeedKey := goodIn_r _ [13, 14, 15, 16, 17, 18, 6, 19, 2, 3, 4, 5, 7, 8, 9, 20, 21, 22, 32, 33, 34, 35, 36, 37, 38, 39, 40, 41, 42, 43, 44, 45] (by decide +kernel) (by decide +kernel)
set_option maxRecDepth 20000 in
theorem gX1_readDeed_X1_readDeedKey : GoodIn wsX1_readDeed (wsV RX1 77 RX1 yX1_readDeedKey wsX1_readDeedKey) := goodIn_app (goodIn_of _ (by decide +kernel)) ggX1_readDeed_X1_readDeedKey
set_option maxRecDepth 20000 in
theorem ggX1_readDeed_X1_readSign : GoodIn wsX1_readDeed wsX1_readSign := goodIn_r _ [26, 2, 3, 4, 5, 6, 7, 8, 9, 32, 33, 34, 35, 36, 37, 38, 39, 40, 41, 42, 43, 44, 45] (by decide +kernel) (by decide +kernel)
set_option maxRecDepth 20000 in
theorem gX1_readDeed_X1_readSign : GoodIn wsX1_readDeed (wsV RX1 36 RX1 yX1_readSign wsX1_readSign) := goodIn_app (goodIn_of _ (by decide +kernel)) ggX1_readDeed_X1_readSign
set_option maxRecDepth 20000 in
theorem ggX1_readDeed_X1_readAmount : GoodIn wsX1_readDeed wsX1_readAmount := goodIn_r _ [30, 14, 31, 16, 17, 18, 6, 19, 2, 3, 4, 5, 7, 8, 9, 20, 21, 22, 32, 33, 34, 35, 36, 37, 38, 39, 40, 41, 42, 43, 44, 45] (by decide +kernel) (by decide +kernel)
set_option maxRecDepth 20000 in
theorem gX1_readDeed_X1_readAmount : GoodIn wsX1_readDeed (wsV RX1 80 RX1 yX1_readAmount wsX1_readAmount) := goodIn_app (goodIn_of _ (by decide +kernel)) ggX1_readDeed_X1_readAmount
theorem dX1_readDeed_0 : decode cX1_readDeed 0 = .ok (.aload_n 0, 1) := by decide +kernel
theorem dX1_readDeed_1 : decode cX1_readDeed 1 = .ok (.aload_n 0, 1) := by decide +kernel
theorem dX1_readDeed_2 : decode cX1_readDeed 2 = .ok (.invokevirtual 40, 3) := by decide +kernel
theorem dX1_readDeed_5 : decode cX1_readDeed 5 = .ok (.putfield 74, 3) := by decide +kernel
theorem dX1_readDeed_8 : decode cX1_readDeed 8 = .ok (.aload_n 0, 1) := by decide +kernel
theorem dX1_readDeed_9 : decode cX1_readDeed 9 = .ok (.getfield 74, 3) := by decide +kernel
theorem dX1_readDeed_12 : decode cX1_readDeed 12 = .ok (.tableswitch 129 110 116 #[44, 85, 100, 129, 129, 129, 112], 44) := by decide +kernel
theorem dX1_readDeed_56 : decode cX1_readDeed 56 = .ok (.aload_n 0, 1) := by decide +kernel
theorem dX1_readDeed_57 : decode cX1_readDeed 57 = .ok (.dup, 1) := by decide +kernel
theorem dX1_readDeed_58 : decode cX1_readDeed 58 = .ok (.getfield 19, 3) := by decide +kernel
theorem dX1_readDeed_61 : decode cX1_readDeed 61 = .ok (.iconst 1, 1) := by decide +kernel
theorem dX1_readDeed_62 : decode cX1_readDeed 62 = .ok (.iadd, 1) := by decide +kernel
theorem dX1_readDeed_63 : decode cX1_readDeed 63 = .ok (.putfield 19, 3) := by decide +kernel
theorem dX1_readDeed_66 : decode cX1_readDeed 66 = .ok (.aload_n 0, 1) := by decide +kernel
theorem dX1_readDeed_67 : decode cX1_readDeed 67 = .ok (.invokevirtual 77, 3) := by decide +kernel
theorem dX1_readDeed_70 : decode cX1_readDeed 70 = .ok (.ifCond .eq 25, 3) := by decide +kernel
theorem dX1_readDeed_73 : decode cX1_readDeed 73 = .ok (.aload_n 0, 1) := by decide +kernel
theorem dX1_readDeed_74 : decode cX1_readDeed 74 = .ok (.bipush 46, 2) := by decide +kernel
theorem dX1_readDeed_76 : decode cX1_readDeed 76 = .ok (.invokevirtual 36, 3) := by decide +kernel
theorem dX1_readDeed_79 : decode cX1_readDeed 79 = .ok (.ifCond .eq 16, 3) := by decide +kernel
theorem dX1_readDeed_82 : decode cX1_readDeed 82 = .ok (.aload_n 0, 1) := by decide +kernel
theorem dX1_readDeed_83 : decode cX1_readDeed 83 = .ok (.bipush 9, 2) := by decide +kernel
theorem dX1_readDeed_85 : decode cX1_readDeed 85 = .ok (.invokevirtual 80, 3) := by decide +kernel
theorem dX1_readDeed_88 : decode cX1_readDeed 88 = .ok (.ifCond .eq 7, 3) := by decide +kernel
theorem dX1_readDeed_91 : decode cX1_readDeed 91 = .ok (.iconst 1, 1) := by decide +kernel
theorem dX1_readDeed_92 : decode cX1_readDeed 92 = .ok (.goto 4, 3) := by decide +kernel
theorem dX1_readDeed_95 : decode cX1_readDeed 95 = .ok (.iconst 0, 1) := by decide +kernel
theorem dX1_readDeed_96 : decode cX1_readDeed 96 = .ok (.ireturn, 1) := by decide +kernel
theorem dX1_readDeed_97 : decode cX1_readDeed 97 = .ok (.aload_n 0, 1) := by decide +kernel
theorem dX1_readDeed_98 : decode cX1_readDeed 98 = .ok (.dup, 1) := by decide +kernel
theorem dX1_readDeed_99 : decode cX1_readDeed 99 = .ok (.getfield 19, 3) := by decide +kernel
theorem dX1_readDeed_102 : decode cX1_readDeed 102 = .ok (.iconst 1, 1) := by decide +kernel
theorem dX1_readDeed_103 : decode cX1_readDeed 103 = .ok (.iadd, 1) := by decide +kernel
theorem dX1_readDeed_104 : decode cX1_readDeed 104 = .ok (.putfield 19, 3) := by decide +kernel
theorem dX1_readDeed_107 : decode cX1_readDeed 107 = .ok (.aload_n 0, 1) := by decide +kernel
theorem dX1_readDeed_108 : decode cX1_readDeed 108 = .ok (.invokevirtual 77, 3) := by decide +kernel
theorem dX1_readDeed_111 : decode cX1_readDeed 111 = .ok (.ireturn, 1) := by decide +kernel
theorem dX1_readDeed_112 : decode cX1_readDeed 112 = .ok (.aload_n 0, 1) := by decide +kernel
theorem dX1_readDeed_113 : decode cX1_readDeed 113 = .ok (.dup, 1) := by decide +kernel
theorem dX1_readDeed_114 : decode cX1_readDeed 114 = .ok (.getfield 19, 3) := by decide +kernel
theorem dX1_readDeed_117 : decode cX1_readDeed 117 = .ok (.iconst 1, 1) := by decide +kernel
theorem dX1_readDeed_118 : decode cX1_readDeed 118 = .ok (.iadd, 1) := by decide +kernel
theorem dX1_readDeed_119 : decode cX1_readDeed 119 = .ok (.putfield 19, 3) := by decide +kernel
theorem dX1_readDeed_122 : decode cX1_readDeed 122 = .ok (.iconst 1, 1) := by decide +kernel
theorem dX1_readDeed_123 : decode cX1_readDeed 123 = .ok (.ireturn, 1) := by decide +kernel
theorem dX1_readDeed_124 : decode cX1_readDeed 124 = .ok (.aload_n 0, 1) := by decide +kernel
theorem dX1_readDeed_125 : decode cX1_readDeed 125 = .ok (.dup, 1) := by decide +kernel
theorem dX1_readDeed_126 : decode cX1_readDeed 126 = .ok (.getfield 19, 3) := by decide +kernel
theorem dX1_readDeed_129 : decode cX1_readDeed 129 = .ok (.iconst 1, 1) := by decide +kernel
theorem dX1_readDeed_130 : decode cX1_readDeed 130 = .ok (.iadd, 1) := by decide +kernel
theorem dX1_readDeed_131 : decode cX1_readDeed 131 = .ok (.putfield 19, 3) := by decide +kernel
theorem dX1_readDeed_134 : decode cX1_readDeed 134 = .ok (.aload_n 0, 1) := by decide +kernel
theorem dX1_readDeed_135 : decode cX1_readDeed 135 = .ok (.bipush 99, 2) := by decide +kernel
theorem dX1_readDeed_137 : decode cX1_readDeed 137 = .ok (.invokevirtual 80, 3) := by decide +kernel
theorem dX1_readDeed_140 : decode cX1_readDeed 140 = .ok (.ireturn, 1) := by decide +kernel
theorem dX1_readDeed_141 : decode cX1_readDeed 141 = .ok (.iconst 0, 1) := by decide +kernel
theorem dX1_readDeed_142 : decode cX1_readDeed 142 = .ok (.ireturn, 1) := by decide +kernel
set_option maxRecDepth 20000 in
theorem ggX1_readDeedKey_X1_readNumber : GoodIn wsX1_readDeedKey wsX1_readNumber := goodIn_r _ [7, 1, 8, 9, 10, 11, 6, 12, 13, 14, 15, 16, 17, 18, 19, 20, 21, 22, 23, 24, 25, 26, 27, 28, 29, 30, 31] (by decide +kernel) (by decide +kernel)
set_option maxRecDepth 20000 in
theorem gX1_readDeedKey_X1_readNumber : GoodIn wsX1_readDeedKey (wsV RX1 43 RX1 yX1_readNumber wsX1_readNumber) := goodIn_app (goodIn_of _ (by decide +kernel)) ggX1_readDeedKey_X1_readNumber
theorem dX1_readDeedKey_0 : decode cX1_readDeedKey 0 = .ok (.aload_n 0, 1) := by decide +kernel
theorem dX1_readDeedKey_1 : decode cX1_readDeedKey 1 = .ok (.iconst 0, 1) := by decide +kernel
theorem dX1_readDeedKey_2 : decode cX1_readDeedKey 2 = .ok (.bipush 35, 2) := by decide +kernel
theorem dX1_readDeedKey_4 : decode cX1_readDeedKey 4 = .ok (.invokevirtual 43, 3) := by decide +kernel
theorem dX1_readDeedKey_7 : decode cX1_readDeedKey 7 = .ok (.istore_n 1, 1) := by decide +kernel
theorem dX1_readDeedKey_8 : decode cX1_readDeedKey 8 = .ok (.aload_n 0, 1) := by decide +kernel
theorem dX1_readDeedKey_9 : decode cX1_readDeedKey 9 = .ok (.aload_n 0, 1) := by decide +kernel
theorem dX1_readDeedKey_10 : decode cX1_readDeedKey 10 = .ok (.getfield 47, 3) := by decide +kernel
theorem dX1_readDeedKey_13 : decode cX1_readDeedKey 13 = .ok (.putfield 83, 3) := by decide +kernel
theorem dX1_readDeedKey_16 : decode cX1_readDeedKey 16 = .ok (.iload_n 1, 1) := by decide +kernel
theorem dX1_readDeedKey_17 : decode cX1_readDeedKey 17 = .ok (.ireturn, 1) := by decide +kernel
set_option maxRecDepth 20000 in
theorem ggX1_readAmount_X1_readNumber : GoodIn wsX1_readAmount wsX1_readNumber := goodIn_r _ [7, 1, 8, 9, 10, 11, 6, 12, 13, 14, 15, 16, 17, 18, 19, 20, 21, 22, 23, 24, 25, 26, 27, 28, 29, 30, 31] (by decide +kernel) (by decide +kernel)
set_option maxRecDepth 20000 in
theorem gX1_readAmount_X1_readNumber : GoodIn wsX1_readAmount (wsV RX1 43 RX1 yX1_readNumber wsX1_readNumber) := goodIn_app (goodIn_of _ (by decide +kernel)) ggX1_readAmount_X1_readNumber
theorem dX1_readAmount_0 : decode cX1_readAmount 0 = .ok (.aload_n 0, 1) := by decide +kernel
theorem dX1_readAmount_1 : decode cX1_readAmount 1 = .ok (.iconst 1, 1) := by decide +kernel
theorem dX1_readAmount_2 : decode cX1_readAmount 2 = .ok (.iload_n 1, 1) := by decide +kernel
theorem dX1_readAmount_3 : decode cX1_readAmount 3 = .ok (.invokevirtual 43, 3) := by decide +kernel
theorem dX1_readAmount_6 : decode cX1_readAmount 6 = .ok (.istore_n 2, 1) := by decide +kernel
theorem dX1_readAmount_7 : decode cX1_readAmount 7 = .ok (.aload_n 0, 1) := by decide +kernel
theorem dX1_readAmount_8 : decode cX1_readAmount 8 = .ok (.aload_n 0, 1) := by decide +kernel
theorem dX1_readAmount_9 : decode cX1_readAmount 9 = .ok (.getfield 47, 3) := by decide +kernel
theorem dX1_readAmount_12 : decode cX1_readAmount 12 = .ok (.putfield 86, 3) := by decide +kernel
theorem dX1_readAmount_15 : decode cX1_readAmount 15 = .ok (.iload_n 2, 1) := by decide +kernel
theorem dX1_readAmount_16 : decode cX1_readAmount 16 = .ok (.ireturn, 1) := by decide +kernel
set_option maxRecDepth 20000 in
theorem ggX1_readNumber_X1_sign : GoodIn wsX1_readNumber wsX1_sign := goodIn_r _ [7, 2, 8, 9, 13, 14, 15, 16, 17, 18, 19, 20, 21, 22, 23, 24, 25, 26] (by decide +kernel) (by decide +kernel)
set_option maxRecDepth 20000 in
theorem gX1_readNumber_X1_sign : GoodIn wsX1_readNumber (wsV RX1 40 RX1 yX1_sign wsX1_sign) := goodIn_app (goodIn_of _ (by decide +kernel)) ggX1_readNumber_X1_sign
set_option maxRecDepth 20000 in
theorem ggX1_readNumber_X1_canBegin : GoodIn wsX1_readNumber wsX1_canBegin := goodIn_r _ [12] (by decide +kernel) (by decide +kernel)
set_option maxRecDepth 20000 in
theorem gX1_readNumber_X1_canBegin : GoodIn wsX1_readNumber (va_wsS RX1 89 yX1_canBegin wsX1_canBegin) := goodIn_app (goodIn_of _ (by decide +kernel)) ggX1_readNumber_X1_canBegin
theorem dX1_readNumber_0 : decode cX1_readNumber 0 = .ok (.aload_n 0, 1) := by decide +kernel
theorem dX1_readNumber_1 : decode cX1_readNumber 1 = .ok (.iconst 0, 1) := by decide +kernel
theorem dX1_readNumber_2 : decode cX1_readNumber 2 = .ok (.putfield 47, 3) := by decide +kernel
theorem dX1_readNumber_5 : decode cX1_readNumber 5 = .ok (.iconst 0, 1) := by decide +kernel
theorem dX1_readNumber_6 : decode cX1_readNumber 6 = .ok (.istore_n 3, 1) := by decide +kernel
theorem dX1_readNumber_7 : decode cX1_readNumber 7 = .ok (.iconst 0, 1) := by decide +kernel
theorem dX1_readNumber_8 : decode cX1_readNumber 8 = .ok (.istore 4, 2) := by decide +kernel
theorem dX1_readNumber_10 : decode cX1_readNumber 10 = .ok (.iload 4, 2) := by decide +kernel
theorem dX1_readNumber_12 : decode cX1_readNumber 12 = .ok (.iconst 2, 1) := by decide +kernel
theorem dX1_readNumber_13 : decode cX1_readNumber 13 = .ok (.if_icmp .ge 98, 3) := by decide +kernel
theorem dX1_readNumber_16 : decode cX1_readNumber 16 = .ok (.aload_n 0, 1) := by decide +kernel
theorem dX1_readNumber_17 : decode cX1_readNumber 17 = .ok (.invokevirtual 40, 3) := by decide +kernel
theorem dX1_readNumber_20 : decode cX1_readNumber 20 = .ok (.istore 5, 2) := by decide +kernel
theorem dX1_readNumber_22 : decode cX1_readNumber 22 = .ok (.bipush 10, 2) := by decide +kernel
theorem dX1_readNumber_24 : decode cX1_readNumber 24 = .ok (.aload_n 0, 1) := by decide +kernel
theorem dX1_readNumber_25 : decode cX1_readNumber 25 = .ok (.getfield 47, 3) := by decide +kernel
theorem dX1_readNumber_28 : decode cX1_readNumber 28 = .ok (.imul, 1) := by decide +kernel
theorem dX1_readNumber_29 : decode cX1_readNumber 29 = .ok (.iload 5, 2) := by decide +kernel
theorem dX1_readNumber_31 : decode cX1_readNumber 31 = .ok (.iadd, 1) := by decide +kernel
theorem dX1_readNumber_32 : decode cX1_readNumber 32 = .ok (.bipush 48, 2) := by decide +kernel
theorem dX1_readNumber_34 : decode cX1_readNumber 34 = .ok (.isub, 1) := by decide +kernel
theorem dX1_readNumber_35 : decode cX1_readNumber 35 = .ok (.istore 6, 2) := by decide +kernel
theorem dX1_readNumber_37 : decode cX1_readNumber 37 = .ok (.iload_n 3, 1) := by decide +kernel
theorem dX1_readNumber_38 : decode cX1_readNumber 38 = .ok (.ifCond .eq 14, 3) := by decide +kernel
theorem dX1_readNumber_41 : decode cX1_readNumber 41 = .ok (.aload_n 0, 1) := by decide +kernel
theorem dX1_readNumber_42 : decode cX1_readNumber 42 = .ok (.getfield 47, 3) := by decide +kernel
theorem dX1_readNumber_45 : decode cX1_readNumber 45 = .ok (.ifCond .ne 7, 3) := by decide +kernel
theorem dX1_readNumber_48 : decode cX1_readNumber 48 = .ok (.iconst 1, 1) := by decide +kernel
theorem dX1_readNumber_49 : decode cX1_readNumber 49 = .ok (.goto 4, 3) := by decide +kernel
theorem dX1_readNumber_52 : decode cX1_readNumber 52 = .ok (.iconst 0, 1) := by decide +kernel
theorem dX1_readNumber_53 : decode cX1_readNumber 53 = .ok (.istore 7, 2) := by decide +kernel
theorem dX1_readNumber_55 : decode cX1_readNumber 55 = .ok (.iload 5, 2) := by decide +kernel
theorem dX1_readNumber_57 : decode cX1_readNumber 57 = .ok (.bipush 48, 2) := by decide +kernel
theorem dX1_readNumber_59 : decode cX1_readNumber 59 = .ok (.if_icmp .lt 52, 3) := by decide +kernel
theorem dX1_readNumber_62 : decode cX1_readNumber 62 = .ok (.iload 5, 2) := by decide +kernel
theorem dX1_readNumber_64 : decode cX1_readNumber 64 = .ok (.bipush 57, 2) := by decide +kernel
theorem dX1_readNumber_66 : decode cX1_readNumber 66 = .ok (.if_icmp .gt 45, 3) := by decide +kernel
theorem dX1_readNumber_69 : decode cX1_readNumber 69 = .ok (.iload 7, 2) := by decide +kernel
theorem dX1_readNumber_71 : decode cX1_readNumber 71 = .ok (.ifCond .ne 40, 3) := by decide +kernel
theorem dX1_readNumber_74 : decode cX1_readNumber 74 = .ok (.iload 6, 2) := by decide +kernel
theorem dX1_readNumber_76 : decode cX1_readNumber 76 = .ok (.iload_n 1, 1) := by decide +kernel
theorem dX1_readNumber_77 : decode cX1_readNumber 77 = .ok (.iload_n 2, 1) := by decide +kernel
theorem dX1_readNumber_78 : decode cX1_readNumber 78 = .ok (.invokestatic 89, 3) := by decide +kernel
theorem dX1_readNumber_81 : decode cX1_readNumber 81 = .ok (.ifCond .ne 6, 3) := by decide +kernel
theorem dX1_readNumber_84 : decode cX1_readNumber 84 = .ok (.goto 27, 3) := by decide +kernel
theorem dX1_readNumber_87 : decode cX1_readNumber 87 = .ok (.aload_n 0, 1) := by decide +kernel
theorem dX1_readNumber_88 : decode cX1_readNumber 88 = .ok (.iload 6, 2) := by decide +kernel
theorem dX1_readNumber_90 : decode cX1_readNumber 90 = .ok (.putfield 47, 3) := by decide +kernel
theorem dX1_readNumber_93 : decode cX1_readNumber 93 = .ok (.iconst 1, 1) := by decide +kernel
theorem dX1_readNumber_94 : decode cX1_readNumber 94 = .ok (.istore_n 3, 1) := by decide +kernel
theorem dX1_readNumber_95 : decode cX1_readNumber 95 = .ok (.aload_n 0, 1) := by decide +kernel
theorem dX1_readNumber_96 : decode cX1_readNumber 96 = .ok (.dup, 1) := by decide +kernel
theorem dX1_readNumber_97 : decode cX1_readNumber 97 = .ok (.getfield 19, 3) := by decide +kernel
theorem dX1_readNumber_100 : decode cX1_readNumber 100 = .ok (.iconst 1, 1) := by decide +kernel
theorem dX1_readNumber_101 : decode cX1_readNumber 101 = .ok (.iadd, 1) := by decide +kernel
theorem dX1_readNumber_102 : decode cX1_readNumber 102 = .ok (.putfield 19, 3) := by decide +kernel
theorem dX1_readNumber_105 : decode cX1_readNumber 105 = .ok (.iinc 4 1, 3) := by decide +kernel
theorem dX1_readNumber_108 : decode cX1_readNumber 108 = .ok (.goto (-98), 3) := by decide +kernel
theorem dX1_readNumber_111 : decode cX1_readNumber 111 = .ok (.iload_n 3, 1) := by decide +kernel
theorem dX1_readNumber_112 : decode cX1_readNumber 112 = .ok (.ifCond .eq 23, 3) := by decide +kernel
theorem dX1_readNumber_115 : decode cX1_readNumber 115 = .ok (.aload_n 0, 1) := by decide +kernel
theorem dX1_readNumber_116 : decode cX1_readNumber 116 = .ok (.getfield 47, 3) := by decide +kernel
theorem dX1_readNumber_119 : decode cX1_readNumber 119 = .ok (.iload_n 1, 1) := by decide +kernel
theorem dX1_readNumber_120 : decode cX1_readNumber 120 = .ok (.if_icmp .lt 15, 3) := by decide +kernel
theorem dX1_readNumber_123 : decode cX1_readNumber 123 = .ok (.aload_n 0, 1) := by decide +kernel
theorem dX1_readNumber_124 : decode cX1_readNumber 124 = .ok (.getfield 47, 3) := by decide +kernel
theorem dX1_readNumber_127 : decode cX1_readNumber 127 = .ok (.iload_n 2, 1) := by decide +kernel
theorem dX1_readNumber_128 : decode cX1_readNumber 128 = .ok (.if_icmp .gt 7, 3) := by decide +kernel
theorem dX1_readNumber_131 : decode cX1_readNumber 131 = .ok (.iconst 1, 1) := by decide +kernel
theorem dX1_readNumber_132 : decode cX1_readNumber 132 = .ok (.goto 4, 3) := by decide +kernel
theorem dX1_readNumber_135 : decode cX1_readNumber 135 = .ok (.iconst 0, 1) := by decide +kernel
theorem dX1_readNumber_136 : decode cX1_readNumber 136 = .ok (.ireturn, 1) := by decide +kernel
theorem dX1_canBegin_0 : decode cX1_canBegin 0 = .ok (.iload_n 0, 1) := by decide +kernel
theorem dX1_canBegin_1 : decode cX1_canBegin 1 = .ok (.iload_n 1, 1) := by decide +kernel
theorem dX1_canBegin_2 : decode cX1_canBegin 2 = .ok (.if_icmp .lt 12, 3) := by decide +kernel
theorem dX1_canBegin_5 : decode cX1_canBegin 5 = .ok (.iload_n 0, 1) := by decide +kernel
theorem dX1_canBegin_6 : decode cX1_canBegin 6 = .ok (.iload_n 2, 1) := by decide +kernel
theorem dX1_canBegin_7 : decode cX1_canBegin 7 = .ok (.if_icmp .gt 7, 3) := by decide +kernel
theorem dX1_canBegin_10 : decode cX1_canBegin 10 = .ok (.iconst 1, 1) := by decide +kernel
theorem dX1_canBegin_11 : decode cX1_canBegin 11 = .ok (.goto 4, 3) := by decide +kernel
theorem dX1_canBegin_14 : decode cX1_canBegin 14 = .ok (.iconst 0, 1) := by decide +kernel
theorem dX1_canBegin_15 : decode cX1_canBegin 15 = .ok (.istore_n 3, 1) := by decide +kernel
theorem dX1_canBegin_16 : decode cX1_canBegin 16 = .ok (.iload_n 0, 1) := by decide +kernel
theorem dX1_canBegin_17 : decode cX1_canBegin 17 = .ok (.ifCond .le 26, 3) := by decide +kernel
theorem dX1_canBegin_20 : decode cX1_canBegin 20 = .ok (.bipush 10, 2) := by decide +kernel
theorem dX1_canBegin_22 : decode cX1_canBegin 22 = .ok (.iload_n 0, 1) := by decide +kernel
theorem dX1_canBegin_23 : decode cX1_canBegin 23 = .ok (.imul, 1) := by decide +kernel
theorem dX1_canBegin_24 : decode cX1_canBegin 24 = .ok (.iload_n 2, 1) := by decide +kernel
theorem dX1_canBegin_25 : decode cX1_canBegin 25 = .ok (.if_icmp .gt 18, 3) := by decide +kernel
theorem dX1_canBegin_28 : decode cX1_canBegin 28 = .ok (.bipush 10, 2) := by decide +kernel
theorem dX1_canBegin_30 : decode cX1_canBegin 30 = .ok (.iload_n 0, 1) := by decide +kernel
theorem dX1_canBegin_31 : decode cX1_canBegin 31 = .ok (.imul, 1) := by decide +kernel
theorem dX1_canBegin_32 : decode cX1_canBegin 32 = .ok (.bipush 9, 2) := by decide +kernel
theorem dX1_canBegin_34 : decode cX1_canBegin 34 = .ok (.iadd, 1) := by decide +kernel
theorem dX1_canBegin_35 : decode cX1_canBegin 35 = .ok (.iload_n 1, 1) := by decide +kernel
theorem dX1_canBegin_36 : decode cX1_canBegin 36 = .ok (.if_icmp .lt 7, 3) := by decide +kernel
theorem dX1_canBegin_39 : decode cX1_canBegin 39 = .ok (.iconst 1, 1) := by decide +kernel
theorem dX1_canBegin_40 : decode cX1_canBegin 40 = .ok (.goto 4, 3) := by decide +kernel
theorem dX1_canBegin_43 : decode cX1_canBegin 43 = .ok (.iconst 0, 1) := by decide +kernel
theorem dX1_canBegin_44 : decode cX1_canBegin 44 = .ok (.istore 4, 2) := by decide +kernel
theorem dX1_canBegin_46 : decode cX1_canBegin 46 = .ok (.iload_n 3, 1) := by decide +kernel
theorem dX1_canBegin_47 : decode cX1_canBegin 47 = .ok (.ifCond .ne 8, 3) := by decide +kernel
theorem dX1_canBegin_50 : decode cX1_canBegin 50 = .ok (.iload 4, 2) := by decide +kernel
theorem dX1_canBegin_52 : decode cX1_canBegin 52 = .ok (.ifCond .eq 7, 3) := by decide +kernel
theorem dX1_canBegin_55 : decode cX1_canBegin 55 = .ok (.iconst 1, 1) := by decide +kernel
theorem dX1_canBegin_56 : decode cX1_canBegin 56 = .ok (.goto 4, 3) := by decide +kernel
theorem dX1_canBegin_59 : decode cX1_canBegin 59 = .ok (.iconst 0, 1) := by decide +kernel
theorem dX1_canBegin_60 : decode cX1_canBegin 60 = .ok (.ireturn, 1) := by decide +kernel
theorem dX1_sign_0 : decode cX1_sign 0 = .ok (.aload_n 0, 1) := by decide +kernel
theorem dX1_sign_1 : decode cX1_sign 1 = .ok (.getfield 19, 3) := by decide +kernel
theorem dX1_sign_4 : decode cX1_sign 4 = .ok (.ifCond .lt 38, 3) := by decide +kernel
theorem dX1_sign_7 : decode cX1_sign 7 = .ok (.aload_n 0, 1) := by decide +kernel
theorem dX1_sign_8 : decode cX1_sign 8 = .ok (.getfield 19, 3) := by decide +kernel
theorem dX1_sign_11 : decode cX1_sign 11 = .ok (.aload_n 0, 1) := by decide +kernel
theorem dX1_sign_12 : decode cX1_sign 12 = .ok (.getfield 15, 3) := by decide +kernel
theorem dX1_sign_15 : decode cX1_sign 15 = .ok (.if_icmp .ge 27, 3) := by decide +kernel
theorem dX1_sign_18 : decode cX1_sign 18 = .ok (.aload_n 0, 1) := by decide +kernel
theorem dX1_sign_19 : decode cX1_sign 19 = .ok (.getfield 19, 3) := by decide +kernel
theorem dX1_sign_22 : decode cX1_sign 22 = .ok (.aload_n 0, 1) := by decide +kernel
theorem dX1_sign_23 : decode cX1_sign 23 = .ok (.getfield 9, 3) := by decide +kernel
theorem dX1_sign_26 : decode cX1_sign 26 = .ok (.arraylength, 1) := by decide +kernel
theorem dX1_sign_27 : decode cX1_sign 27 = .ok (.if_icmp .ge 15, 3) := by decide +kernel
theorem dX1_sign_30 : decode cX1_sign 30 = .ok (.aload_n 0, 1) := by decide +kernel
theorem dX1_sign_31 : decode cX1_sign 31 = .ok (.getfield 9, 3) := by decide +kernel
theorem dX1_sign_34 : decode cX1_sign 34 = .ok (.aload_n 0, 1) := by decide +kernel
theorem dX1_sign_35 : decode cX1_sign 35 = .ok (.getfield 19, 3) := by decide +kernel
theorem dX1_sign_38 : decode cX1_sign 38 = .ok (.caload, 1) := by decide +kernel
theorem dX1_sign_39 : decode cX1_sign 39 = .ok (.goto 4, 3) := by decide +kernel
theorem dX1_sign_42 : decode cX1_sign 42 = .ok (.iconst 0, 1) := by decide +kernel
theorem dX1_sign_43 : decode cX1_sign 43 = .ok (.ireturn, 1) := by decide +kernel
set_option maxRecDepth 20000 in
theorem ggX2_init_X4_init : GoodIn wsX2_init wsX4_init := goodIn_r _ [13, 14, 2, 3, 15, 9, 16, 17, 18, 19] (by decide +kernel) (by decide +kernel)
set_option maxRecDepth 20000 in
theorem gX2_init_X4_init : GoodIn wsX2_init (wsX4_init) := ggX2_init_X4_init
theorem dX2_init_0 : decode cX2_init 0 = .ok (.aload_n 0, 1) := by decide +kernel
theorem dX2_init_1 : decode cX2_init 1 = .ok (.invokespecial 3, 3) := by decide +kernel
theorem dX2_init_4 : decode cX2_init 4 = .ok (.aload_n 0, 1) := by decide +kernel
theorem dX2_init_5 : decode cX2_init 5 = .ok (.new 9, 3) := by decide +kernel
theorem dX2_init_8 : decode cX2_init 8 = .ok (.dup, 1) := by decide +kernel
theorem dX2_init_9 : decode cX2_init 9 = .ok (.bipush 10, 2) := by decide +kernel
theorem dX2_init_11 : decode cX2_init 11 = .ok (.bipush 7, 2) := by decide +kernel
theorem dX2_init_13 : decode cX2_init 13 = .ok (.invokespecial 11, 3) := by decide +kernel
theorem dX2_init_16 : decode cX2_init 16 = .ok (.putfield 14, 3) := by decide +kernel
theorem dX2_init_19 : decode cX2_init 19 = .ok (.aload_n 0, 1) := by decide +kernel
theorem dX2_init_20 : decode cX2_init 20 = .ok (.new 9, 3) := by decide +kernel
theorem dX2_init_23 : decode cX2_init 23 = .ok (.dup, 1) := by decide +kernel
theorem dX2_init_24 : decode cX2_init 24 = .ok (.bipush 8, 2) := by decide +kernel
theorem dX2_init_26 : decode cX2_init 26 = .ok (.bipush 7, 2) := by decide +kernel
theorem dX2_init_28 : decode cX2_init 28 = .ok (.invokespecial 11, 3) := by decide +kernel
theorem dX2_init_31 : decode cX2_init 31 = .ok (.putfield 20, 3) := by decide +kernel
theorem dX2_init_34 : decode cX2_init 34 = .ok (.aload_n 0, 1) := by decide +kernel
theorem dX2_init_35 : decode cX2_init 35 = .ok (.bipush 13, 2) := by decide +kernel
theorem dX2_init_37 : decode cX2_init 37 = .ok (.newarray .int, 2) := by decide +kernel
theorem dX2_init_39 : decode cX2_init 39 = .ok (.putfield 23, 3) := by decide +kernel
theorem dX2_init_42 : decode cX2_init 42 = .ok (.aload_n 0, 1) := by decide +kernel
theorem dX2_init_43 : decode cX2_init 43 = .ok (.getfield 23, 3) := by decide +kernel
theorem dX2_init_46 : decode cX2_init 46 = .ok (.bipush 6, 2) := by decide +kernel
theorem dX2_init_48 : decode cX2_init 48 = .ok (.bipush 6, 2) := by decide +kernel
theorem dX2_init_50 : decode cX2_init 50 = .ok (.iastore, 1) := by decide +kernel
theorem dX2_init_51 : decode cX2_init 51 = .ok (.aload_n 0, 1) := by decide +kernel
theorem dX2_init_52 : decode cX2_init 52 = .ok (.getfield 23, 3) := by decide +kernel
theorem dX2_init_55 : decode cX2_init 55 = .ok (.bipush 7, 2) := by decide +kernel
theorem dX2_init_57 : decode cX2_init 57 = .ok (.iconst 0, 1) := by decide +kernel
theorem dX2_init_58 : decode cX2_init 58 = .ok (.iastore, 1) := by decide +kernel
theorem dX2_init_59 : decode cX2_init 59 = .ok (.aload_n 0, 1) := by decide +kernel
theorem dX2_init_60 : decode cX2_init 60 = .ok (.getfield 23, 3) := by decide +kernel
theorem dX2_init_63 : decode cX2_init 63 = .ok (.bipush 8, 2) := by decide +kernel
theorem dX2_init_65 : decode cX2_init 65 = .ok (.bipush 10, 2) := by decide +kernel
theorem dX2_init_67 : decode cX2_init 67 = .ok (.iastore, 1) := by decide +kernel
theorem dX2_init_68 : decode cX2_init 68 = .ok (.return_, 1) := by decide +kernel
set_option maxRecDepth 20000 in
theorem ggX2_copyFrom_X4_copyFrom : GoodIn wsX2_copyFrom wsX4_copyFrom := goodIn_r _ [14, 15, 16, 17, 18, 19, 20, 5, 6, 7, 21, 27, 28, 29] (by decide +kernel) (by decide +kernel)
set_option maxRecDepth 20000 in
theorem gX2_copyFrom_X4_copyFrom : GoodIn wsX2_copyFrom (wsV RX2 27 RX4 yX4_copyFrom wsX4_copyFrom) := goodIn_app (goodIn_of _ (by decide +kernel)) ggX2_copyFrom_X4_copyFrom
theorem dX2_copyFrom_0 : decode cX2_copyFrom 0 = .ok (.aload_n 0, 1) := by decide +kernel
theorem dX2_copyFrom_1 : decode cX2_copyFrom 1 = .ok (.getfield 14, 3) := by decide +kernel
theorem dX2_copyFrom_4 : decode cX2_copyFrom 4 = .ok (.aload_n 1, 1) := by decide +kernel
theorem dX2_copyFrom_5 : decode cX2_copyFrom 5 = .ok (.getfield 14, 3) := by decide +kernel
theorem dX2_copyFrom_8 : decode cX2_copyFrom 8 = .ok (.invokevirtual 27, 3) := by decide +kernel
theorem dX2_copyFrom_11 : decode cX2_copyFrom 11 = .ok (.aload_n 0, 1) := by decide +kernel
theorem dX2_copyFrom_12 : decode cX2_copyFrom 12 = .ok (.getfield 20, 3) := by decide +kernel
theorem dX2_copyFrom_15 : decode cX2_copyFrom 15 = .ok (.aload_n 1, 1) := by decide +kernel
theorem dX2_copyFrom_16 : decode cX2_copyFrom 16 = .ok (.getfield 20, 3) := by decide +kernel
theorem dX2_copyFrom_19 : decode cX2_copyFrom 19 = .ok (.invokevirtual 27, 3) := by decide +kernel
theorem dX2_copyFrom_22 : decode cX2_copyFrom 22 = .ok (.aload_n 1, 1) := by decide +kernel
theorem dX2_copyFrom_23 : decode cX2_copyFrom 23 = .ok (.getfield 23, 3) := by decide +kernel
theorem dX2_copyFrom_26 : decode cX2_copyFrom 26 = .ok (.iconst 0, 1) := by decide +kernel
theorem dX2_copyFrom_27 : decode cX2_copyFrom 27 = .ok (.aload_n 0, 1) := by decide +kernel
theorem dX2_copyFrom_28 : decode cX2_copyFrom 28 = .ok (.getfield 23, 3) := by decide +kernel
theorem dX2_copyFrom_31 : decode cX2_copyFrom 31 = .ok (.iconst 0, 1) := by decide +kernel
theorem dX2_copyFrom_32 : decode cX2_copyFrom 32 = .ok (.bipush 13, 2) := by decide +kernel
theorem dX2_copyFrom_34 : decode cX2_copyFrom 34 = .ok (.invokestatic 31, 3) := by decide +kernel
theorem dX2_copyFrom_37 : decode cX2_copyFrom 37 = .ok (.aload_n 0, 1) := by decide +kernel
theorem dX2_copyFrom_38 : decode cX2_copyFrom 38 = .ok (.aload_n 1, 1) := by decide +kernel
theorem dX2_copyFrom_39 : decode cX2_copyFrom 39 = .ok (.getfield 37, 3) := by decide +kernel
theorem dX2_copyFrom_42 : decode cX2_copyFrom 42 = .ok (.putfield 37, 3) := by decide +kernel
theorem dX2_copyFrom_45 : decode cX2_copyFrom 45 = .ok (.aload_n 0, 1) := by decide +kernel
theorem dX2_copyFrom_46 : decode cX2_copyFrom 46 = .ok (.aload_n 1, 1) := by decide +kernel
theorem dX2_copyFrom_47 : decode cX2_copyFrom 47 = .ok (.getfield 41, 3) := by decide +kernel
theorem dX2_copyFrom_50 : decode cX2_copyFrom 50 = .ok (.putfield 41, 3) := by decide +kernel
theorem dX2_copyFrom_53 : decode cX2_copyFrom 53 = .ok (.return_, 1) := by decide +kernel
theorem dX2_number_0 : decode cX2_number 0 = .ok (.iload_n 1, 1) := by decide +kernel
theorem dX2_number_1 : decode cX2_number 1 = .ok (.ifCond .lt 21, 3) := by decide +kernel
theorem dX2_number_4 : decode cX2_number 4 = .ok (.iload_n 1, 1) := by decide +kernel
theorem dX2_number_5 : decode cX2_number 5 = .ok (.aload_n 0, 1) := by decide +kernel
theorem dX2_number_6 : decode cX2_number 6 = .ok (.getfield 23, 3) := by decide +kernel
theorem dX2_number_9 : decode cX2_number 9 = .ok (.arraylength, 1) := by decide +kernel
theorem dX2_number_10 : decode cX2_number 10 = .ok (.if_icmp .ge 12, 3) := by decide +kernel
theorem dX2_number_13 : decode cX2_number 13 = .ok (.aload_n 0, 1) := by decide +kernel
theorem dX2_number_14 : decode cX2_number 14 = .ok (.getfield 23, 3) := by decide +kernel
theorem dX2_number_17 : decode cX2_number 17 = .ok (.iload_n 1, 1) := by decide +kernel
theorem dX2_number_18 : decode cX2_number 18 = .ok (.iaload, 1) := by decide +kernel
theorem dX2_number_19 : decode cX2_number 19 = .ok (.goto 4, 3) := by decide +kernel
theorem dX2_number_22 : decode cX2_number 22 = .ok (.iconst 0, 1) := by decide +kernel
theorem dX2_number_23 : decode cX2_number 23 = .ok (.ireturn, 1) := by decide +kernel
theorem dX2_putNumber_0 : decode cX2_putNumber 0 = .ok (.iload_n 1, 1) := by decide +kernel
theorem dX2_putNumber_1 : decode cX2_putNumber 1 = .ok (.ifCond .lt 19, 3) := by decide +kernel
theorem dX2_putNumber_4 : decode cX2_putNumber 4 = .ok (.iload_n 1, 1) := by decide +kernel
theorem dX2_putNumber_5 : decode cX2_putNumber 5 = .ok (.aload_n 0, 1) := by decide +kernel
theorem dX2_putNumber_6 : decode cX2_putNumber 6 = .ok (.getfield 23, 3) := by decide +kernel
theorem dX2_putNumber_9 : decode cX2_putNumber 9 = .ok (.arraylength, 1) := by decide +kernel
theorem dX2_putNumber_10 : decode cX2_putNumber 10 = .ok (.if_icmp .ge 10, 3) := by decide +kernel
theorem dX2_putNumber_13 : decode cX2_putNumber 13 = .ok (.aload_n 0, 1) := by decide +kernel
theorem dX2_putNumber_14 : decode cX2_putNumber 14 = .ok (.getfield 23, 3) := by decide +kernel
theorem dX2_putNumber_17 : decode cX2_putNumber 17 = .ok (.iload_n 1, 1) := by decide +kernel
theorem dX2_putNumber_18 : decode cX2_putNumber 18 = .ok (.iload_n 2, 1) := by decide +kernel
theorem dX2_putNumber_19 : decode cX2_putNumber 19 = .ok (.iastore, 1) := by decide +kernel
theorem dX2_putNumber_20 : decode cX2_putNumber 20 = .ok (.return_, 1) := by decide +kernel
set_option maxRecDepth 20000 in
theorem ggX2_grow_X2_number : GoodIn wsX2_grow wsX2_number := goodIn_r _ [5, 6, 11, 12, 13, 14, 15] (by decide +kernel) (by decide +kernel)
set_option maxRecDepth 20000 in
theorem gX2_grow_X2_number : GoodIn wsX2_grow (wsV RX2 45 RX2 yX2_number wsX2_number) := goodIn_app (goodIn_of _ (by decide +kernel)) ggX2_grow_X2_number
set_option maxRecDepth 20000 in
theorem ggX2_grow_X2_putNumber : GoodIn wsX2_grow wsX2_putNumber := goodIn_r _ [10, 6, 11, 12, 13, 14, 15] (by decide +kernel) (by decide +kernel)
set_option maxRecDepth 20000 in
theorem gX2_grow_X2_putNumber : GoodIn wsX2_grow (wsV RX2 49 RX2 yX2_putNumber wsX2_putNumber) := goodIn_app (goodIn_of _ (by decide +kernel)) ggX2_grow_X2_putNumber
theorem dX2_grow_0 : decode cX2_grow 0 = .ok (.aload_n 0, 1) := by decide +kernel
theorem dX2_grow_1 : decode cX2_grow 1 = .ok (.iload_n 1, 1) := by decide +kernel
theorem dX2_grow_2 : decode cX2_grow 2 = .ok (.aload_n 0, 1) := by decide +kernel
theorem dX2_grow_3 : decode cX2_grow 3 = .ok (.iload_n 1, 1) := by decide +kernel
theorem dX2_grow_4 : decode cX2_grow 4 = .ok (.invokevirtual 45, 3) := by decide +kernel
theorem dX2_grow_7 : decode cX2_grow 7 = .ok (.iload_n 2, 1) := by decide +kernel
theorem dX2_grow_8 : decode cX2_grow 8 = .ok (.iadd, 1) := by decide +kernel
theorem dX2_grow_9 : decode cX2_grow 9 = .ok (.invokevirtual 49, 3) := by decide +kernel
theorem dX2_grow_12 : decode cX2_grow 12 = .ok (.return_, 1) := by decide +kernel
set_option maxRecDepth 20000 in
theorem ggX2_addZone_X4_addRow : GoodIn wsX2_addZone wsX4_addRow := goodIn_r _ [6, 7, 8, 9, 24, 25, 26] (by decide +kernel) (by decide +kernel)
set_option maxRecDepth 20000 in
theorem gX2_addZone_X4_addRow : GoodIn wsX2_addZone (wsV RX2 52 RX4 yX4_addRow wsX4_addRow) := goodIn_app (goodIn_of _ (by decide +kernel)) ggX2_addZone_X4_addRow
set_option maxRecDepth 20000 in
theorem ggX2_addZone_X4_put : GoodIn wsX2_addZone wsX4_put := goodIn_r _ [13, 7, 8, 9, 24, 25, 26] (by decide +kernel) (by decide +kernel)
set_option maxRecDepth 20000 in
theorem gX2_addZone_X4_put : GoodIn wsX2_addZone (wsV RX2 56 RX4 yX4_put wsX4_put) := goodIn_app (goodIn_of _ (by decide +kernel)) ggX2_addZone_X4_put
set_option maxRecDepth 20000 in
theorem ggX2_addZone_X2_shapeZone : GoodIn wsX2_addZone wsX2_shapeZone := goodIn_r _ [18, 1, 10, 11, 12, 5, 13, 7, 8, 9, 19, 20, 21, 22, 23, 24, 25, 26] (by decide +kernel) (by decide +kernel)
set_option maxRecDepth 20000 in
theorem gX2_addZone_X2_shapeZone : GoodIn wsX2_addZone (wsV RX2 60 RX2 yX2_shapeZone wsX2_shapeZone) := goodIn_app (goodIn_of _ (by decide +kernel)) ggX2_addZone_X2_shapeZone
theorem dX2_addZone_0 : decode cX2_addZone 0 = .ok (.aload_n 0, 1) := by decide +kernel
theorem dX2_addZone_1 : decode cX2_addZone 1 = .ok (.getfield 14, 3) := by decide +kernel
theorem dX2_addZone_4 : decode cX2_addZone 4 = .ok (.invokevirtual 52, 3) := by decide +kernel
theorem dX2_addZone_7 : decode cX2_addZone 7 = .ok (.istore 5, 2) := by decide +kernel
theorem dX2_addZone_9 : decode cX2_addZone 9 = .ok (.aload_n 0, 1) := by decide +kernel
theorem dX2_addZone_10 : decode cX2_addZone 10 = .ok (.getfield 14, 3) := by decide +kernel
theorem dX2_addZone_13 : decode cX2_addZone 13 = .ok (.iload 5, 2) := by decide +kernel
theorem dX2_addZone_15 : decode cX2_addZone 15 = .ok (.iconst 0, 1) := by decide +kernel
theorem dX2_addZone_16 : decode cX2_addZone 16 = .ok (.iload_n 1, 1) := by decide +kernel
theorem dX2_addZone_17 : decode cX2_addZone 17 = .ok (.invokevirtual 56, 3) := by decide +kernel
theorem dX2_addZone_20 : decode cX2_addZone 20 = .ok (.aload_n 0, 1) := by decide +kernel
theorem dX2_addZone_21 : decode cX2_addZone 21 = .ok (.getfield 14, 3) := by decide +kernel
theorem dX2_addZone_24 : decode cX2_addZone 24 = .ok (.iload 5, 2) := by decide +kernel
theorem dX2_addZone_26 : decode cX2_addZone 26 = .ok (.iconst 1, 1) := by decide +kernel
theorem dX2_addZone_27 : decode cX2_addZone 27 = .ok (.iload_n 2, 1) := by decide +kernel
theorem dX2_addZone_28 : decode cX2_addZone 28 = .ok (.invokevirtual 56, 3) := by decide +kernel
theorem dX2_addZone_31 : decode cX2_addZone 31 = .ok (.aload_n 0, 1) := by decide +kernel
theorem dX2_addZone_32 : decode cX2_addZone 32 = .ok (.getfield 14, 3) := by decide +kernel
theorem dX2_addZone_35 : decode cX2_addZone 35 = .ok (.iload 5, 2) := by decide +kernel
theorem dX2_addZone_37 : decode cX2_addZone 37 = .ok (.iconst 2, 1) := by decide +kernel
theorem dX2_addZone_38 : decode cX2_addZone 38 = .ok (.iload_n 3, 1) := by decide +kernel
theorem dX2_addZone_39 : decode cX2_addZone 39 = .ok (.invokevirtual 56, 3) := by decide +kernel
theorem dX2_addZone_42 : decode cX2_addZone 42 = .ok (.aload_n 0, 1) := by decide +kernel
theorem dX2_addZone_43 : decode cX2_addZone 43 = .ok (.getfield 14, 3) := by decide +kernel
theorem dX2_addZone_46 : decode cX2_addZone 46 = .ok (.iload 5, 2) := by decide +kernel
theorem dX2_addZone_48 : decode cX2_addZone 48 = .ok (.iconst 3, 1) := by decide +kernel
theorem dX2_addZone_49 : decode cX2_addZone 49 = .ok (.iload 4, 2) := by decide +kernel
theorem dX2_addZone_51 : decode cX2_addZone 51 = .ok (.invokevirtual 56, 3) := by decide +kernel
theorem dX2_addZone_54 : decode cX2_addZone 54 = .ok (.aload_n 0, 1) := by decide +kernel
theorem dX2_addZone_55 : decode cX2_addZone 55 = .ok (.iload 5, 2) := by decide +kernel
theorem dX2_addZone_57 : decode cX2_addZone 57 = .ok (.iconst 0, 1) := by decide +kernel
theorem dX2_addZone_58 : decode cX2_addZone 58 = .ok (.iconst 0, 1) := by decide +kernel
theorem dX2_addZone_59 : decode cX2_addZone 59 = .ok (.bipush 60, 2) := by decide +kernel
theorem dX2_addZone_61 : decode cX2_addZone 61 = .ok (.invokevirtual 60, 3) := by decide +kernel
theorem dX2_addZone_64 : decode cX2_addZone 64 = .ok (.iload 5, 2) := by decide +kernel
theorem dX2_addZone_66 : decode cX2_addZone 66 = .ok (.ireturn, 1) := by decide +kernel
set_option maxRecDepth 20000 in
theorem ggX2_shapeZone_X4_put : GoodIn wsX2_shapeZone wsX4_put := goodIn_r _ [6, 7, 8, 9, 15, 16, 17] (by decide +kernel) (by decide +kernel)
set_option maxRecDepth 20000 in
theorem gX2_shapeZone_X4_put : GoodIn wsX2_shapeZone (wsV RX2 56 RX4 yX4_put wsX4_put) := goodIn_app (goodIn_of _ (by decide +kernel)) ggX2_shapeZone_X4_put
theorem dX2_shapeZone_0 : decode cX2_shapeZone 0 = .ok (.aload_n 0, 1) := by decide +kernel
theorem dX2_shapeZone_1 : decode cX2_shapeZone 1 = .ok (.getfield 14, 3) := by decide +kernel
theorem dX2_shapeZone_4 : decode cX2_shapeZone 4 = .ok (.iload_n 1, 1) := by decide +kernel
theorem dX2_shapeZone_5 : decode cX2_shapeZone 5 = .ok (.iconst 4, 1) := by decide +kernel
theorem dX2_shapeZone_6 : decode cX2_shapeZone 6 = .ok (.iload_n 2, 1) := by decide +kernel
theorem dX2_shapeZone_7 : decode cX2_shapeZone 7 = .ok (.invokevirtual 56, 3) := by decide +kernel
theorem dX2_shapeZone_10 : decode cX2_shapeZone 10 = .ok (.aload_n 0, 1) := by decide +kernel
theorem dX2_shapeZone_11 : decode cX2_shapeZone 11 = .ok (.getfield 14, 3) := by decide +kernel
theorem dX2_shapeZone_14 : decode cX2_shapeZone 14 = .ok (.iload_n 1, 1) := by decide +kernel
theorem dX2_shapeZone_15 : decode cX2_shapeZone 15 = .ok (.iconst 5, 1) := by decide +kernel
theorem dX2_shapeZone_16 : decode cX2_shapeZone 16 = .ok (.iload_n 3, 1) := by decide +kernel
theorem dX2_shapeZone_17 : decode cX2_shapeZone 17 = .ok (.invokevirtual 56, 3) := by decide +kernel
theorem dX2_shapeZone_20 : decode cX2_shapeZone 20 = .ok (.aload_n 0, 1) := by decide +kernel
theorem dX2_shapeZone_21 : decode cX2_shapeZone 21 = .ok (.getfield 14, 3) := by decide +kernel
theorem dX2_shapeZone_24 : decode cX2_shapeZone 24 = .ok (.iload_n 1, 1) := by decide +kernel
theorem dX2_shapeZone_25 : decode cX2_shapeZone 25 = .ok (.bipush 6, 2) := by decide +kernel
theorem dX2_shapeZone_27 : decode cX2_shapeZone 27 = .ok (.iload 4, 2) := by decide +kernel
theorem dX2_shapeZone_29 : decode cX2_shapeZone 29 = .ok (.invokevirtual 56, 3) := by decide +kernel
theorem dX2_shapeZone_32 : decode cX2_shapeZone 32 = .ok (.return_, 1) := by decide +kernel
set_option maxRecDepth 20000 in
theorem ggX2_dropZone_X4_rows : GoodIn wsX2_dropZone wsX4_rows := goodIn_r _ [7, 8, 46, 47, 48] (by decide +kernel) (by decide +kernel)
set_option maxRecDepth 20000 in
theorem gX2_dropZone_X4_rows : GoodIn wsX2_dropZone (wsV RX2 64 RX4 yX4_rows wsX4_rows) := goodIn_app (goodIn_of _ (by decide +kernel)) ggX2_dropZone_X4_rows
set_option maxRecDepth 20000 in
theorem ggX2_dropZone_X4_get : GoodIn wsX2_dropZone wsX4_get := goodIn_r _ [12, 8, 13, 14, 46, 47, 48] (by decide +kernel) (by decide +kernel)
set_option maxRecDepth 20000 in
theorem gX2_dropZone_X4_get : GoodIn wsX2_dropZone (wsV RX2 67 RX4 yX4_get wsX4_get) := goodIn_app (goodIn_of _ (by decide +kernel)) ggX2_dropZone_X4_get
set_option maxRecDepth 20000 in
theorem ggX2_dropZone_X4_removeRow : GoodIn wsX2_dropZone wsX4_removeRow := goodIn_r _ [18, 13, 14, 8, 19, 20, 21, 6, 22, 46, 47, 48] (by decide +kernel) (by decide +kernel)
set_option maxRecDepth 20000 in
theorem gX2_dropZone_X4_removeRow : GoodIn wsX2_dropZone (wsV RX2 71 RX4 yX4_removeRow wsX4_removeRow) := goodIn_app (goodIn_of _ (by decide +kernel)) ggX2_dropZone_X4_removeRow
set_option maxRecDepth 20000 in
theorem ggX2_dropZone_X4_put : GoodIn wsX2_dropZone wsX4_put := goodIn_r _ [26, 8, 13, 14, 46, 47, 48] (by decide +kernel) (by decide +kernel)
set_option maxRecDepth 20000 in
theorem gX2_dropZone_X4_put : GoodIn wsX2_dropZone (wsV RX2 56 RX4 yX4_put wsX4_put) := goodIn_app (goodIn_of _ (by decide +kernel)) ggX2_dropZone_X4_put
set_option maxRecDepth 20000 in
theorem ggX2_dropZone_X2_grow : GoodIn wsX2_dropZone wsX2_grow := goodIn_r _ [31, 32, 33, 34, 30, 35, 36, 37, 38, 39, 40, 41, 42, 43, 44, 45] (by decide +kernel) (by decide +kernel)
set_option maxRecDepth 20000 in
theorem gX2_dropZone_X2_grow : GoodIn wsX2_dropZone (wsV RX2 75 RX2 yX2_grow wsX2_grow) := goodIn_app (goodIn_of _ (by decide +kernel)) ggX2_dropZone_X2_grow
theorem dX2_dropZone_0 : decode cX2_dropZone 0 = .ok (.iconst 0, 1) := by decide +kernel
theorem dX2_dropZone_1 : decode cX2_dropZone 1 = .ok (.istore_n 2, 1) := by decide +kernel
theorem dX2_dropZone_2 : decode cX2_dropZone 2 = .ok (.aload_n 0, 1) := by decide +kernel
theorem dX2_dropZone_3 : decode cX2_dropZone 3 = .ok (.getfield 20, 3) := by decide +kernel
theorem dX2_dropZone_6 : decode cX2_dropZone 6 = .ok (.invokevirtual 64, 3) := by decide +kernel
theorem dX2_dropZone_9 : decode cX2_dropZone 9 = .ok (.iconst 1, 1) := by decide +kernel
theorem dX2_dropZone_10 : decode cX2_dropZone 10 = .ok (.isub, 1) := by decide +kernel
theorem dX2_dropZone_11 : decode cX2_dropZone 11 = .ok (.istore_n 3, 1) := by decide +kernel
theorem dX2_dropZone_12 : decode cX2_dropZone 12 = .ok (.iload_n 3, 1) := by decide +kernel
theorem dX2_dropZone_13 : decode cX2_dropZone 13 = .ok (.ifCond .lt 59, 3) := by decide +kernel
theorem dX2_dropZone_16 : decode cX2_dropZone 16 = .ok (.aload_n 0, 1) := by decide +kernel
theorem dX2_dropZone_17 : decode cX2_dropZone 17 = .ok (.getfield 20, 3) := by decide +kernel
theorem dX2_dropZone_20 : decode cX2_dropZone 20 = .ok (.iload_n 3, 1) := by decide +kernel
theorem dX2_dropZone_21 : decode cX2_dropZone 21 = .ok (.iconst 0, 1) := by decide +kernel
theorem dX2_dropZone_22 : decode cX2_dropZone 22 = .ok (.invokevirtual 67, 3) := by decide +kernel
theorem dX2_dropZone_25 : decode cX2_dropZone 25 = .ok (.istore 4, 2) := by decide +kernel
theorem dX2_dropZone_27 : decode cX2_dropZone 27 = .ok (.iload 4, 2) := by decide +kernel
theorem dX2_dropZone_29 : decode cX2_dropZone 29 = .ok (.iload_n 1, 1) := by decide +kernel
theorem dX2_dropZone_30 : decode cX2_dropZone 30 = .ok (.if_icmp .ne 17, 3) := by decide +kernel
theorem dX2_dropZone_33 : decode cX2_dropZone 33 = .ok (.aload_n 0, 1) := by decide +kernel
theorem dX2_dropZone_34 : decode cX2_dropZone 34 = .ok (.getfield 20, 3) := by decide +kernel
theorem dX2_dropZone_37 : decode cX2_dropZone 37 = .ok (.iload_n 3, 1) := by decide +kernel
theorem dX2_dropZone_38 : decode cX2_dropZone 38 = .ok (.invokevirtual 71, 3) := by decide +kernel
theorem dX2_dropZone_41 : decode cX2_dropZone 41 = .ok (.iinc 2 1, 3) := by decide +kernel
theorem dX2_dropZone_44 : decode cX2_dropZone 44 = .ok (.goto 22, 3) := by decide +kernel
theorem dX2_dropZone_47 : decode cX2_dropZone 47 = .ok (.iload 4, 2) := by decide +kernel
theorem dX2_dropZone_49 : decode cX2_dropZone 49 = .ok (.iload_n 1, 1) := by decide +kernel
theorem dX2_dropZone_50 : decode cX2_dropZone 50 = .ok (.if_icmp .le 16, 3) := by decide +kernel
theorem dX2_dropZone_53 : decode cX2_dropZone 53 = .ok (.aload_n 0, 1) := by decide +kernel
theorem dX2_dropZone_54 : decode cX2_dropZone 54 = .ok (.getfield 20, 3) := by decide +kernel
theorem dX2_dropZone_57 : decode cX2_dropZone 57 = .ok (.iload_n 3, 1) := by decide +kernel
theorem dX2_dropZone_58 : decode cX2_dropZone 58 = .ok (.iconst 0, 1) := by decide +kernel
theorem dX2_dropZone_59 : decode cX2_dropZone 59 = .ok (.iload 4, 2) := by decide +kernel
theorem dX2_dropZone_61 : decode cX2_dropZone 61 = .ok (.iconst 1, 1) := by decide +kernel
theorem dX2_dropZone_62 : decode cX2_dropZone 62 = .ok (.isub, 1) := by decide +kernel
theorem dX2_dropZone_63 : decode cX2_dropZone 63 = .ok (.invokevirtual 56, 3) := by decide +kernel
theorem dX2_dropZone_66 : decode cX2_dropZone 66 = .ok (.iinc 3 (-1), 3) := by decide +kernel
theorem dX2_dropZone_69 : decode cX2_dropZone 69 = .ok (.goto (-57), 3) := by decide +kernel
theorem dX2_dropZone_72 : decode cX2_dropZone 72 = .ok (.aload_n 0, 1) := by decide +kernel
theorem dX2_dropZone_73 : decode cX2_dropZone 73 = .ok (.getfield 14, 3) := by decide +kernel
theorem dX2_dropZone_76 : decode cX2_dropZone 76 = .ok (.iload_n 1, 1) := by decide +kernel
theorem dX2_dropZone_77 : decode cX2_dropZone 77 = .ok (.invokevirtual 71, 3) := by decide +kernel
theorem dX2_dropZone_80 : decode cX2_dropZone 80 = .ok (.aload_n 0, 1) := by decide +kernel
theorem dX2_dropZone_81 : decode cX2_dropZone 81 = .ok (.iconst 5, 1) := by decide +kernel
theorem dX2_dropZone_82 : decode cX2_dropZone 82 = .ok (.iload_n 2, 1) := by decide +kernel
theorem dX2_dropZone_83 : decode cX2_dropZone 83 = .ok (.invokevirtual 75, 3) := by decide +kernel
theorem dX2_dropZone_86 : decode cX2_dropZone 86 = .ok (.iload_n 2, 1) := by decide +kernel
theorem dX2_dropZone_87 : decode cX2_dropZone 87 = .ok (.ireturn, 1) := by decide +kernel
set_option maxRecDepth 20000 in
theorem ggX2_matches_X4_get : GoodIn wsX2_matches wsX4_get := goodIn_r _ [6, 7, 8, 9, 15, 16, 17] (by decide +kernel) (by decide +kernel)
set_option maxRecDepth 20000 in
theorem gX2_matches_X4_get : GoodIn wsX2_matches (wsV RX2 67 RX4 yX4_get wsX4_get) := goodIn_app (goodIn_of _ (by decide +kernel)) ggX2_matches_X4_get
theorem dX2_matches_0 : decode cX2_matches 0 = .ok (.iload_n 2, 1) := by decide +kernel
theorem dX2_matches_1 : decode cX2_matches 1 = .ok (.aload_n 0, 1) := by decide +kernel
theorem dX2_matches_2 : decode cX2_matches 2 = .ok (.getfield 14, 3) := by decide +kernel
theorem dX2_matches_5 : decode cX2_matches 5 = .ok (.iload_n 1, 1) := by decide +kernel
theorem dX2_matches_6 : decode cX2_matches 6 = .ok (.iconst 0, 1) := by decide +kernel
theorem dX2_matches_7 : decode cX2_matches 7 = .ok (.invokevirtual 67, 3) := by decide +kernel
theorem dX2_matches_10 : decode cX2_matches 10 = .ok (.if_icmp .lt 46, 3) := by decide +kernel
theorem dX2_matches_13 : decode cX2_matches 13 = .ok (.iload_n 2, 1) := by decide +kernel
theorem dX2_matches_14 : decode cX2_matches 14 = .ok (.aload_n 0, 1) := by decide +kernel
theorem dX2_matches_15 : decode cX2_matches 15 = .ok (.getfield 14, 3) := by decide +kernel
theorem dX2_matches_18 : decode cX2_matches 18 = .ok (.iload_n 1, 1) := by decide +kernel
theorem dX2_matches_19 : decode cX2_matches 19 = .ok (.iconst 1, 1) := by decide +kernel
theorem dX2_matches_20 : decode cX2_matches 20 = .ok (.invokevirtual 67, 3) := by decide +kernel
theorem dX2_matches_23 : decode cX2_matches 23 = .ok (.if_icmp .gt 33, 3) := by decide +kernel
theorem dX2_matches_26 : decode cX2_matches 26 = .ok (.iload_n 3, 1) := by decide +kernel
theorem dX2_matches_27 : decode cX2_matches 27 = .ok (.aload_n 0, 1) := by decide +kernel
theorem dX2_matches_28 : decode cX2_matches 28 = .ok (.getfield 14, 3) := by decide +kernel
theorem dX2_matches_31 : decode cX2_matches 31 = .ok (.iload_n 1, 1) := by decide +kernel
theorem dX2_matches_32 : decode cX2_matches 32 = .ok (.iconst 2, 1) := by decide +kernel
theorem dX2_matches_33 : decode cX2_matches 33 = .ok (.invokevirtual 67, 3) := by decide +kernel
theorem dX2_matches_36 : decode cX2_matches 36 = .ok (.if_icmp .lt 20, 3) := by decide +kernel
theorem dX2_matches_39 : decode cX2_matches 39 = .ok (.iload_n 3, 1) := by decide +kernel
theorem dX2_matches_40 : decode cX2_matches 40 = .ok (.aload_n 0, 1) := by decide +kernel
theorem dX2_matches_41 : decode cX2_matches 41 = .ok (.getfield 14, 3) := by decide +kernel
theorem dX2_matches_44 : decode cX2_matches 44 = .ok (.iload_n 1, 1) := by decide +kernel
theorem dX2_matches_45 : decode cX2_matches 45 = .ok (.iconst 3, 1) := by decide +kernel
theorem dX2_matches_46 : decode cX2_matches 46 = .ok (.invokevirtual 67, 3) := by decide +kernel
theorem dX2_matches_49 : decode cX2_matches 49 = .ok (.if_icmp .gt 7, 3) := by decide +kernel
theorem dX2_matches_52 : decode cX2_matches 52 = .ok (.iconst 1, 1) := by decide +kernel
theorem dX2_matches_53 : decode cX2_matches 53 = .ok (.goto 4, 3) := by decide +kernel
theorem dX2_matches_56 : decode cX2_matches 56 = .ok (.iconst 0, 1) := by decide +kernel
theorem dX2_matches_57 : decode cX2_matches 57 = .ok (.ireturn, 1) := by decide +kernel
set_option maxRecDepth 20000 in
theorem ggX2_matching_X4_rows : GoodIn wsX2_matching wsX4_rows := goodIn_r _ [6, 7, 24, 25, 26] (by decide +kernel) (by decide +kernel)
set_option maxRecDepth 20000 in
theorem gX2_matching_X4_rows : GoodIn wsX2_matching (wsV RX2 64 RX4 yX4_rows wsX4_rows) := goodIn_app (goodIn_of _ (by decide +kernel)) ggX2_matching_X4_rows
set_option maxRecDepth 20000 in
theorem ggX2_matching_X2_matches : GoodIn wsX2_matching wsX2_matches := goodIn_r _ [12, 1, 13, 14, 15, 5, 16, 7, 17, 18, 19, 20, 21, 22, 23, 24, 25, 26] (by decide +kernel) (by decide +kernel)
set_option maxRecDepth 20000 in
theorem gX2_matching_X2_matches : GoodIn wsX2_matching (wsV RX2 78 RX2 yX2_matches wsX2_matches) := goodIn_app (goodIn_of _ (by decide +kernel)) ggX2_matching_X2_matches
theorem dX2_matching_0 : decode cX2_matching 0 = .ok (.iconst 0, 1) := by decide +kernel
theorem dX2_matching_1 : decode cX2_matching 1 = .ok (.istore_n 3, 1) := by decide +kernel
theorem dX2_matching_2 : decode cX2_matching 2 = .ok (.iconst 0, 1) := by decide +kernel
theorem dX2_matching_3 : decode cX2_matching 3 = .ok (.istore 4, 2) := by decide +kernel
theorem dX2_matching_5 : decode cX2_matching 5 = .ok (.iload 4, 2) := by decide +kernel
theorem dX2_matching_7 : decode cX2_matching 7 = .ok (.aload_n 0, 1) := by decide +kernel
theorem dX2_matching_8 : decode cX2_matching 8 = .ok (.getfield 14, 3) := by decide +kernel
theorem dX2_matching_11 : decode cX2_matching 11 = .ok (.invokevirtual 64, 3) := by decide +kernel
theorem dX2_matching_14 : decode cX2_matching 14 = .ok (.if_icmp .ge 23, 3) := by decide +kernel
theorem dX2_matching_17 : decode cX2_matching 17 = .ok (.aload_n 0, 1) := by decide +kernel
theorem dX2_matching_18 : decode cX2_matching 18 = .ok (.iload 4, 2) := by decide +kernel
theorem dX2_matching_20 : decode cX2_matching 20 = .ok (.iload_n 1, 1) := by decide +kernel
theorem dX2_matching_21 : decode cX2_matching 21 = .ok (.iload_n 2, 1) := by decide +kernel
theorem dX2_matching_22 : decode cX2_matching 22 = .ok (.invokevirtual 78, 3) := by decide +kernel
theorem dX2_matching_25 : decode cX2_matching 25 = .ok (.ifCond .eq 6, 3) := by decide +kernel
theorem dX2_matching_28 : decode cX2_matching 28 = .ok (.iinc 3 1, 3) := by decide +kernel
theorem dX2_matching_31 : decode cX2_matching 31 = .ok (.iinc 4 1, 3) := by decide +kernel
theorem dX2_matching_34 : decode cX2_matching 34 = .ok (.goto (-29), 3) := by decide +kernel
theorem dX2_matching_37 : decode cX2_matching 37 = .ok (.iload_n 3, 1) := by decide +kernel
theorem dX2_matching_38 : decode cX2_matching 38 = .ok (.ireturn, 1) := by decide +kernel
set_option maxRecDepth 20000 in
theorem ggX2_sounds_X2_matches : GoodIn wsX2_sounds wsX2_matches := goodIn_r _ [6, 1, 7, 8, 9, 10, 11, 12, 13, 14, 24, 25, 26, 27, 28, 29, 30, 31] (by decide +kernel) (by decide +kernel)
set_option maxRecDepth 20000 in
theorem gX2_sounds_X2_matches : GoodIn wsX2_sounds (wsV RX2 78 RX2 yX2_matches wsX2_matches) := goodIn_app (goodIn_of _ (by decide +kernel)) ggX2_sounds_X2_matches
set_option maxRecDepth 20000 in
theorem ggX2_sounds_X4_get : GoodIn wsX2_sounds wsX4_get := goodIn_r _ [11, 12, 13, 14, 29, 30, 31] (by decide +kernel) (by decide +kernel)
set_option maxRecDepth 20000 in
theorem gX2_sounds_X4_get : GoodIn wsX2_sounds (wsV RX2 67 RX4 yX4_get wsX4_get) := goodIn_app (goodIn_of _ (by decide +kernel)) ggX2_sounds_X4_get
set_option maxRecDepth 20000 in
theorem ggX2_sounds_X4_rows : GoodIn wsX2_sounds wsX4_rows := goodIn_r _ [18, 12, 29, 30, 31] (by decide +kernel) (by decide +kernel)
set_option maxRecDepth 20000 in
theorem gX2_sounds_X4_rows : GoodIn wsX2_sounds (wsV RX2 64 RX4 yX4_rows wsX4_rows) := goodIn_app (goodIn_of _ (by decide +kernel)) ggX2_sounds_X4_rows
set_option maxRecDepth 20000 in
theorem ggX2_sounds_X2_number : GoodIn wsX2_sounds wsX2_number := goodIn_r _ [22, 23, 24, 25, 26, 27, 28] (by decide +kernel) (by decide +kernel)
set_option maxRecDepth 20000 in
theorem gX2_sounds_X2_number : GoodIn wsX2_sounds (wsV RX2 45 RX2 yX2_number wsX2_number) := goodIn_app (goodIn_of _ (by decide +kernel)) ggX2_sounds_X2_number
theorem dX2_sounds_0 : decode cX2_sounds 0 = .ok (.aload_n 0, 1) := by decide +kernel
theorem dX2_sounds_1 : decode cX2_sounds 1 = .ok (.iload_n 1, 1) := by decide +kernel
theorem dX2_sounds_2 : decode cX2_sounds 2 = .ok (.iload_n 2, 1) := by decide +kernel
theorem dX2_sounds_3 : decode cX2_sounds 3 = .ok (.iload_n 3, 1) := by decide +kernel
theorem dX2_sounds_4 : decode cX2_sounds 4 = .ok (.invokevirtual 78, 3) := by decide +kernel
theorem dX2_sounds_7 : decode cX2_sounds 7 = .ok (.ifCond .ne 5, 3) := by decide +kernel
theorem dX2_sounds_10 : decode cX2_sounds 10 = .ok (.iconst 0, 1) := by decide +kernel
theorem dX2_sounds_11 : decode cX2_sounds 11 = .ok (.ireturn, 1) := by decide +kernel
theorem dX2_sounds_12 : decode cX2_sounds 12 = .ok (.aload_n 0, 1) := by decide +kernel
theorem dX2_sounds_13 : decode cX2_sounds 13 = .ok (.getfield 14, 3) := by decide +kernel
theorem dX2_sounds_16 : decode cX2_sounds 16 = .ok (.iload_n 1, 1) := by decide +kernel
theorem dX2_sounds_17 : decode cX2_sounds 17 = .ok (.iconst 5, 1) := by decide +kernel
theorem dX2_sounds_18 : decode cX2_sounds 18 = .ok (.invokevirtual 67, 3) := by decide +kernel
theorem dX2_sounds_21 : decode cX2_sounds 21 = .ok (.istore 4, 2) := by decide +kernel
theorem dX2_sounds_23 : decode cX2_sounds 23 = .ok (.iload 4, 2) := by decide +kernel
theorem dX2_sounds_25 : decode cX2_sounds 25 = .ok (.ifCond .ne 5, 3) := by decide +kernel
theorem dX2_sounds_28 : decode cX2_sounds 28 = .ok (.iconst 1, 1) := by decide +kernel
theorem dX2_sounds_29 : decode cX2_sounds 29 = .ok (.ireturn, 1) := by decide +kernel
theorem dX2_sounds_30 : decode cX2_sounds 30 = .ok (.iconst 0, 1) := by decide +kernel
theorem dX2_sounds_31 : decode cX2_sounds 31 = .ok (.istore 5, 2) := by decide +kernel
theorem dX2_sounds_33 : decode cX2_sounds 33 = .ok (.iconst 0, 1) := by decide +kernel
theorem dX2_sounds_34 : decode cX2_sounds 34 = .ok (.istore 6, 2) := by decide +kernel
theorem dX2_sounds_36 : decode cX2_sounds 36 = .ok (.iconst 0, 1) := by decide +kernel
theorem dX2_sounds_37 : decode cX2_sounds 37 = .ok (.istore 7, 2) := by decide +kernel
theorem dX2_sounds_39 : decode cX2_sounds 39 = .ok (.iload 7, 2) := by decide +kernel
theorem dX2_sounds_41 : decode cX2_sounds 41 = .ok (.aload_n 0, 1) := by decide +kernel
theorem dX2_sounds_42 : decode cX2_sounds 42 = .ok (.getfield 14, 3) := by decide +kernel
theorem dX2_sounds_45 : decode cX2_sounds 45 = .ok (.invokevirtual 64, 3) := by decide +kernel
theorem dX2_sounds_48 : decode cX2_sounds 48 = .ok (.if_icmp .ge 54, 3) := by decide +kernel
theorem dX2_sounds_51 : decode cX2_sounds 51 = .ok (.aload_n 0, 1) := by decide +kernel
theorem dX2_sounds_52 : decode cX2_sounds 52 = .ok (.getfield 14, 3) := by decide +kernel
theorem dX2_sounds_55 : decode cX2_sounds 55 = .ok (.iload 7, 2) := by decide +kernel
theorem dX2_sounds_57 : decode cX2_sounds 57 = .ok (.iconst 5, 1) := by decide +kernel
theorem dX2_sounds_58 : decode cX2_sounds 58 = .ok (.invokevirtual 67, 3) := by decide +kernel
theorem dX2_sounds_61 : decode cX2_sounds 61 = .ok (.iload 4, 2) := by decide +kernel
theorem dX2_sounds_63 : decode cX2_sounds 63 = .ok (.if_icmp .ne 33, 3) := by decide +kernel
theorem dX2_sounds_66 : decode cX2_sounds 66 = .ok (.aload_n 0, 1) := by decide +kernel
theorem dX2_sounds_67 : decode cX2_sounds 67 = .ok (.iload 7, 2) := by decide +kernel
theorem dX2_sounds_69 : decode cX2_sounds 69 = .ok (.iload_n 2, 1) := by decide +kernel
theorem dX2_sounds_70 : decode cX2_sounds 70 = .ok (.iload_n 3, 1) := by decide +kernel
theorem dX2_sounds_71 : decode cX2_sounds 71 = .ok (.invokevirtual 78, 3) := by decide +kernel
theorem dX2_sounds_74 : decode cX2_sounds 74 = .ok (.ifCond .eq 22, 3) := by decide +kernel
theorem dX2_sounds_77 : decode cX2_sounds 77 = .ok (.iinc 5 1, 3) := by decide +kernel
theorem dX2_sounds_80 : decode cX2_sounds 80 = .ok (.iload 6, 2) := by decide +kernel
theorem dX2_sounds_82 : decode cX2_sounds 82 = .ok (.iload 7, 2) := by decide +kernel
theorem dX2_sounds_84 : decode cX2_sounds 84 = .ok (.iload_n 1, 1) := by decide +kernel
theorem dX2_sounds_85 : decode cX2_sounds 85 = .ok (.if_icmp .ge 7, 3) := by decide +kernel
theorem dX2_sounds_88 : decode cX2_sounds 88 = .ok (.iconst 1, 1) := by decide +kernel
theorem dX2_sounds_89 : decode cX2_sounds 89 = .ok (.goto 4, 3) := by decide +kernel
theorem dX2_sounds_92 : decode cX2_sounds 92 = .ok (.iconst 0, 1) := by decide +kernel
theorem dX2_sounds_93 : decode cX2_sounds 93 = .ok (.iadd, 1) := by decide +kernel
theorem dX2_sounds_94 : decode cX2_sounds 94 = .ok (.istore 6, 2) := by decide +kernel
theorem dX2_sounds_96 : decode cX2_sounds 96 = .ok (.iinc 7 1, 3) := by decide +kernel
theorem dX2_sounds_99 : decode cX2_sounds 99 = .ok (.goto (-60), 3) := by decide +kernel
theorem dX2_sounds_102 : decode cX2_sounds 102 = .ok (.iload 5, 2) := by decide +kernel
theorem dX2_sounds_104 : decode cX2_sounds 104 = .ok (.ifCond .le 26, 3) := by decide +kernel
theorem dX2_sounds_107 : decode cX2_sounds 107 = .ok (.iload 6, 2) := by decide +kernel
theorem dX2_sounds_109 : decode cX2_sounds 109 = .ok (.aload_n 0, 1) := by decide +kernel
theorem dX2_sounds_110 : decode cX2_sounds 110 = .ok (.bipush 9, 2) := by decide +kernel
theorem dX2_sounds_112 : decode cX2_sounds 112 = .ok (.iload 4, 2) := by decide +kernel
theorem dX2_sounds_114 : decode cX2_sounds 114 = .ok (.iadd, 1) := by decide +kernel
theorem dX2_sounds_115 : decode cX2_sounds 115 = .ok (.iconst 1, 1) := by decide +kernel
theorem dX2_sounds_116 : decode cX2_sounds 116 = .ok (.isub, 1) := by decide +kernel
theorem dX2_sounds_117 : decode cX2_sounds 117 = .ok (.invokevirtual 45, 3) := by decide +kernel
theorem dX2_sounds_120 : decode cX2_sounds 120 = .ok (.iload 5, 2) := by decide +kernel
theorem dX2_sounds_122 : decode cX2_sounds 122 = .ok (.irem, 1) := by decide +kernel
theorem dX2_sounds_123 : decode cX2_sounds 123 = .ok (.if_icmp .ne 7, 3) := by decide +kernel
theorem dX2_sounds_126 : decode cX2_sounds 126 = .ok (.iconst 1, 1) := by decide +kernel
theorem dX2_sounds_127 : decode cX2_sounds 127 = .ok (.goto 4, 3) := by decide +kernel
theorem dX2_sounds_130 : decode cX2_sounds 130 = .ok (.iconst 0, 1) := by decide +kernel
theorem dX2_sounds_131 : decode cX2_sounds 131 = .ok (.ireturn, 1) := by decide +kernel
set_option maxRecDepth 20000 in
theorem ggX2_sounding_X4_rows : GoodIn wsX2_sounding wsX4_rows := goodIn_r _ [6, 7, 33, 34, 35] (by decide +kernel) (by decide +kernel)
set_option maxRecDepth 20000 in
theorem gX2_sounding_X4_rows : GoodIn wsX2_sounding (wsV RX2 64 RX4 yX4_rows wsX4_rows) := goodIn_app (goodIn_of _ (by decide +kernel)) ggX2_sounding_X4_rows
set_option maxRecDepth 20000 in
theorem ggX2_sounding_X2_sounds : GoodIn wsX2_sounding wsX2_sounds := goodIn_r _ [12, 1, 13, 14, 15, 11, 16, 17, 18, 19, 5, 20, 7, 21, 22, 2, 3, 4, 6, 23, 24, 25, 26, 27, 28, 29, 30, 31, 32, 33, 34, 35] (by decide +kernel) (by decide +kernel)
set_option maxRecDepth 20000 in
theorem gX2_sounding_X2_sounds : GoodIn wsX2_sounding (wsV RX2 82 RX2 yX2_sounds wsX2_sounds) := goodIn_app (goodIn_of _ (by decide +kernel)) ggX2_sounding_X2_sounds
theorem dX2_sounding_0 : decode cX2_sounding 0 = .ok (.iconst 0, 1) := by decide +kernel
theorem dX2_sounding_1 : decode cX2_sounding 1 = .ok (.istore_n 3, 1) := by decide +kernel
theorem dX2_sounding_2 : decode cX2_sounding 2 = .ok (.iconst 0, 1) := by decide +kernel
theorem dX2_sounding_3 : decode cX2_sounding 3 = .ok (.istore 4, 2) := by decide +kernel
theorem dX2_sounding_5 : decode cX2_sounding 5 = .ok (.iload 4, 2) := by decide +kernel
theorem dX2_sounding_7 : decode cX2_sounding 7 = .ok (.aload_n 0, 1) := by decide +kernel
theorem dX2_sounding_8 : decode cX2_sounding 8 = .ok (.getfield 14, 3) := by decide +kernel
theorem dX2_sounding_11 : decode cX2_sounding 11 = .ok (.invokevirtual 64, 3) := by decide +kernel
theorem dX2_sounding_14 : decode cX2_sounding 14 = .ok (.if_icmp .ge 23, 3) := by decide +kernel
theorem dX2_sounding_17 : decode cX2_sounding 17 = .ok (.aload_n 0, 1) := by decide +kernel
theorem dX2_sounding_18 : decode cX2_sounding 18 = .ok (.iload 4, 2) := by decide +kernel
theorem dX2_sounding_20 : decode cX2_sounding 20 = .ok (.iload_n 1, 1) := by decide +kernel
theorem dX2_sounding_21 : decode cX2_sounding 21 = .ok (.iload_n 2, 1) := by decide +kernel
theorem dX2_sounding_22 : decode cX2_sounding 22 = .ok (.invokevirtual 82, 3) := by decide +kernel
theorem dX2_sounding_25 : decode cX2_sounding 25 = .ok (.ifCond .eq 6, 3) := by decide +kernel
theorem dX2_sounding_28 : decode cX2_sounding 28 = .ok (.iinc 3 1, 3) := by decide +kernel
theorem dX2_sounding_31 : decode cX2_sounding 31 = .ok (.iinc 4 1, 3) := by decide +kernel
theorem dX2_sounding_34 : decode cX2_sounding 34 = .ok (.goto (-29), 3) := by decide +kernel
theorem dX2_sounding_37 : decode cX2_sounding 37 = .ok (.iload_n 3, 1) := by decide +kernel
theorem dX2_sounding_38 : decode cX2_sounding 38 = .ok (.ireturn, 1) := by decide +kernel
set_option maxRecDepth 20000 in
theorem ggX2_firstSounding_X4_rows : GoodIn wsX2_firstSounding wsX4_rows := goodIn_r _ [6, 7, 33, 34, 35] (by decide +kernel) (by decide +kernel)
set_option maxRecDepth 20000 in
theorem gX2_firstSounding_X4_rows : GoodIn wsX2_firstSounding (wsV RX2 64 RX4 yX4_rows wsX4_rows) := goodIn_app (goodIn_of _ (by decide +kernel)) ggX2_firstSounding_X4_rows
set_option maxRecDepth 20000 in
theorem ggX2_firstSounding_X2_sounds : GoodIn wsX2_firstSounding wsX2_sounds := goodIn_r _ [12, 1, 13, 14, 15, 11, 16, 17, 18, 19, 5, 20, 7, 21, 22, 2, 3, 4, 6, 23, 24, 25, 26, 27, 28, 29, 30, 31, 32, 33, 34, 35] (by decide +kernel) (by decide +kernel)
set_option maxRecDepth 20000 in
theorem gX2_firstSounding_X2_sounds : GoodIn wsX2_firstSounding (wsV RX2 82 RX2 yX2_sounds wsX2_sounds) := goodIn_app (goodIn_of _ (by decide +kernel)) ggX2_firstSounding_X2_sounds
theorem dX2_firstSounding_0 : decode cX2_firstSounding 0 = .ok (.iconst 0, 1) := by decide +kernel
theorem dX2_firstSounding_1 : decode cX2_firstSounding 1 = .ok (.istore_n 3, 1) := by decide +kernel
theorem dX2_firstSounding_2 : decode cX2_firstSounding 2 = .ok (.iload_n 3, 1) := by decide +kernel
theorem dX2_firstSounding_3 : decode cX2_firstSounding 3 = .ok (.aload_n 0, 1) := by decide +kernel
theorem dX2_firstSounding_4 : decode cX2_firstSounding 4 = .ok (.getfield 14, 3) := by decide +kernel
theorem dX2_firstSounding_7 : decode cX2_firstSounding 7 = .ok (.invokevirtual 64, 3) := by decide +kernel
theorem dX2_firstSounding_10 : decode cX2_firstSounding 10 = .ok (.if_icmp .ge 21, 3) := by decide +kernel
theorem dX2_firstSounding_13 : decode cX2_firstSounding 13 = .ok (.aload_n 0, 1) := by decide +kernel
theorem dX2_firstSounding_14 : decode cX2_firstSounding 14 = .ok (.iload_n 3, 1) := by decide +kernel
theorem dX2_firstSounding_15 : decode cX2_firstSounding 15 = .ok (.iload_n 1, 1) := by decide +kernel
theorem dX2_firstSounding_16 : decode cX2_firstSounding 16 = .ok (.iload_n 2, 1) := by decide +kernel
theorem dX2_firstSounding_17 : decode cX2_firstSounding 17 = .ok (.invokevirtual 82, 3) := by decide +kernel
theorem dX2_firstSounding_20 : decode cX2_firstSounding 20 = .ok (.ifCond .eq 5, 3) := by decide +kernel
theorem dX2_firstSounding_23 : decode cX2_firstSounding 23 = .ok (.iload_n 3, 1) := by decide +kernel
theorem dX2_firstSounding_24 : decode cX2_firstSounding 24 = .ok (.ireturn, 1) := by decide +kernel
theorem dX2_firstSounding_25 : decode cX2_firstSounding 25 = .ok (.iinc 3 1, 3) := by decide +kernel
theorem dX2_firstSounding_28 : decode cX2_firstSounding 28 = .ok (.goto (-26), 3) := by decide +kernel
theorem dX2_firstSounding_31 : decode cX2_firstSounding 31 = .ok (.bipush (-4), 2) := by decide +kernel
theorem dX2_firstSounding_33 : decode cX2_firstSounding 33 = .ok (.ireturn, 1) := by decide +kernel
set_option maxRecDepth 20000 in
theorem ggX2_canSound_X4_get : GoodIn wsX2_canSound wsX4_get := goodIn_r _ [6, 7, 8, 9, 33, 34, 35] (by decide +kernel) (by decide +kernel)
set_option maxRecDepth 20000 in
theorem gX2_canSound_X4_get : GoodIn wsX2_canSound (wsV RX2 67 RX4 yX4_get wsX4_get) := goodIn_app (goodIn_of _ (by decide +kernel)) ggX2_canSound_X4_get
set_option maxRecDepth 20000 in
theorem ggX2_canSound_X2_sounds : GoodIn wsX2_canSound wsX2_sounds := goodIn_r _ [14, 1, 15, 16, 17, 13, 18, 2, 3, 4, 5, 6, 7, 8, 9, 19, 20, 21, 22, 23, 24, 25, 26, 27, 28, 29, 30, 31, 32, 33, 34, 35] (by decide +kernel) (by decide +kernel)
set_option maxRecDepth 20000 in
theorem gX2_canSound_X2_sounds : GoodIn wsX2_canSound (wsV RX2 82 RX2 yX2_sounds wsX2_sounds) := goodIn_app (goodIn_of _ (by decide +kernel)) ggX2_canSound_X2_sounds
theorem dX2_canSound_0 : decode cX2_canSound 0 = .ok (.aload_n 0, 1) := by decide +kernel
theorem dX2_canSound_1 : decode cX2_canSound 1 = .ok (.getfield 14, 3) := by decide +kernel
theorem dX2_canSound_4 : decode cX2_canSound 4 = .ok (.iload_n 1, 1) := by decide +kernel
theorem dX2_canSound_5 : decode cX2_canSound 5 = .ok (.iconst 0, 1) := by decide +kernel
theorem dX2_canSound_6 : decode cX2_canSound 6 = .ok (.invokevirtual 67, 3) := by decide +kernel
theorem dX2_canSound_9 : decode cX2_canSound 9 = .ok (.istore_n 2, 1) := by decide +kernel
theorem dX2_canSound_10 : decode cX2_canSound 10 = .ok (.iload_n 2, 1) := by decide +kernel
theorem dX2_canSound_11 : decode cX2_canSound 11 = .ok (.aload_n 0, 1) := by decide +kernel
theorem dX2_canSound_12 : decode cX2_canSound 12 = .ok (.getfield 14, 3) := by decide +kernel
theorem dX2_canSound_15 : decode cX2_canSound 15 = .ok (.iload_n 1, 1) := by decide +kernel
theorem dX2_canSound_16 : decode cX2_canSound 16 = .ok (.iconst 1, 1) := by decide +kernel
theorem dX2_canSound_17 : decode cX2_canSound 17 = .ok (.invokevirtual 67, 3) := by decide +kernel
theorem dX2_canSound_20 : decode cX2_canSound 20 = .ok (.if_icmp .gt 50, 3) := by decide +kernel
theorem dX2_canSound_23 : decode cX2_canSound 23 = .ok (.aload_n 0, 1) := by decide +kernel
theorem dX2_canSound_24 : decode cX2_canSound 24 = .ok (.getfield 14, 3) := by decide +kernel
theorem dX2_canSound_27 : decode cX2_canSound 27 = .ok (.iload_n 1, 1) := by decide +kernel
theorem dX2_canSound_28 : decode cX2_canSound 28 = .ok (.iconst 2, 1) := by decide +kernel
theorem dX2_canSound_29 : decode cX2_canSound 29 = .ok (.invokevirtual 67, 3) := by decide +kernel
theorem dX2_canSound_32 : decode cX2_canSound 32 = .ok (.istore_n 3, 1) := by decide +kernel
theorem dX2_canSound_33 : decode cX2_canSound 33 = .ok (.iload_n 3, 1) := by decide +kernel
theorem dX2_canSound_34 : decode cX2_canSound 34 = .ok (.aload_n 0, 1) := by decide +kernel
theorem dX2_canSound_35 : decode cX2_canSound 35 = .ok (.getfield 14, 3) := by decide +kernel
theorem dX2_canSound_38 : decode cX2_canSound 38 = .ok (.iload_n 1, 1) := by decide +kernel
theorem dX2_canSound_39 : decode cX2_canSound 39 = .ok (.iconst 3, 1) := by decide +kernel
theorem dX2_canSound_40 : decode cX2_canSound 40 = .ok (.invokevirtual 67, 3) := by decide +kernel
theorem dX2_canSound_43 : decode cX2_canSound 43 = .ok (.if_icmp .gt 21, 3) := by decide +kernel
theorem dX2_canSound_46 : decode cX2_canSound 46 = .ok (.aload_n 0, 1) := by decide +kernel
theorem dX2_canSound_47 : decode cX2_canSound 47 = .ok (.iload_n 1, 1) := by decide +kernel
theorem dX2_canSound_48 : decode cX2_canSound 48 = .ok (.iload_n 2, 1) := by decide +kernel
theorem dX2_canSound_49 : decode cX2_canSound 49 = .ok (.iload_n 3, 1) := by decide +kernel
theorem dX2_canSound_50 : decode cX2_canSound 50 = .ok (.invokevirtual 82, 3) := by decide +kernel
theorem dX2_canSound_53 : decode cX2_canSound 53 = .ok (.ifCond .eq 5, 3) := by decide +kernel
theorem dX2_canSound_56 : decode cX2_canSound 56 = .ok (.iconst 1, 1) := by decide +kernel
theorem dX2_canSound_57 : decode cX2_canSound 57 = .ok (.ireturn, 1) := by decide +kernel
theorem dX2_canSound_58 : decode cX2_canSound 58 = .ok (.iinc 3 1, 3) := by decide +kernel
theorem dX2_canSound_61 : decode cX2_canSound 61 = .ok (.goto (-28), 3) := by decide +kernel
theorem dX2_canSound_64 : decode cX2_canSound 64 = .ok (.iinc 2 1, 3) := by decide +kernel
theorem dX2_canSound_67 : decode cX2_canSound 67 = .ok (.goto (-57), 3) := by decide +kernel
theorem dX2_canSound_70 : decode cX2_canSound 70 = .ok (.iconst 0, 1) := by decide +kernel
theorem dX2_canSound_71 : decode cX2_canSound 71 = .ok (.ireturn, 1) := by decide +kernel
set_option maxRecDepth 20000 in
theorem ggX2_strike_X2_moveHeld : GoodIn wsX2_strike wsX2_moveHeld := goodIn_r _ [7, 8, 9, 10, 11, 12, 13, 14, 15, 16, 17, 18, 19, 20, 21, 22, 23, 24, 78, 79, 80, 81, 82, 83, 84, 85] (by decide +kernel) (by decide +kernel)
set_option maxRecDepth 20000 in
theorem gX2_strike_X2_moveHeld : GoodIn wsX2_strike (wsV RX2 85 RX2 yX2_moveHeld wsX2_moveHeld) := goodIn_app (goodIn_of _ (by decide +kernel)) ggX2_strike_X2_moveHeld
set_option maxRecDepth 20000 in
theorem ggX2_strike_X4_rows : GoodIn wsX2_strike wsX4_rows := goodIn_r _ [13, 14, 83, 84, 85] (by decide +kernel) (by decide +kernel)
set_option maxRecDepth 20000 in
theorem gX2_strike_X4_rows : GoodIn wsX2_strike (wsV RX2 64 RX4 yX4_rows wsX4_rows) := goodIn_app (goodIn_of _ (by decide +kernel)) ggX2_strike_X4_rows
set_option maxRecDepth 20000 in
theorem ggX2_strike_X2_sounds : GoodIn wsX2_strike wsX2_sounds := goodIn_r _ [28, 2, 29, 30, 31, 6, 32, 15, 16, 17, 12, 18, 14, 19, 20, 9, 10, 11, 13, 33, 34, 35, 36, 37, 78, 79, 80, 81, 82, 83, 84, 85] (by decide +kernel) (by decide +kernel)
set_option maxRecDepth 20000 in
theorem gX2_strike_X2_sounds : GoodIn wsX2_strike (wsV RX2 82 RX2 yX2_sounds wsX2_sounds) := goodIn_app (goodIn_of _ (by decide +kernel)) ggX2_strike_X2_sounds
set_option maxRecDepth 20000 in
theorem ggX2_strike_X2_begin : GoodIn wsX2_strike wsX2_begin := goodIn_r _ [41, 2, 8, 1, 15, 16, 17, 12, 18, 14, 19, 20, 42, 43, 44, 6, 45, 9, 10, 11, 13, 46, 47, 48, 49, 50, 51, 52, 53, 54, 55, 56, 57, 33, 34, 35, 36, 37, 58, 59, 60, 61, 62, 63, 64, 65, 66, 67, 68, 69, 70, 71, 72, 73, 21, 22, 23, 24, 78, 79, 80, 81, 82, 83, 84, 85] (by decide +kernel) (by decide +kernel)
set_option maxRecDepth 20000 in
theorem gX2_strike_X2_begin : GoodIn wsX2_strike (wsV RX2 88 RX2 yX2_begin wsX2_begin) := goodIn_app (goodIn_of _ (by decide +kernel)) ggX2_strike_X2_begin
set_option maxRecDepth 20000 in
theorem ggX2_strike_X2_passTurns : GoodIn wsX2_strike wsX2_passTurns := goodIn_r _ [77, 2, 9, 10, 11, 12, 13, 14, 15, 16, 17, 18, 19, 20, 29, 30, 31, 6, 32, 54, 55, 56, 57, 33, 34, 35, 36, 37, 58, 59, 60, 61, 78, 79, 80, 81, 82, 83, 84, 85] (by decide +kernel) (by decide +kernel)
set_option maxRecDepth 20000 in
theorem gX2_strike_X2_passTurns : GoodIn wsX2_strike (wsV RX2 91 RX2 yX2_passTurns wsX2_passTurns) := goodIn_app (goodIn_of _ (by decide +kernel)) ggX2_strike_X2_passTurns
theorem dX2_strike_0 : decode cX2_strike 0 = .ok (.aload_n 0, 1) := by decide +kernel
theorem dX2_strike_1 : decode cX2_strike 1 = .ok (.iload_n 1, 1) := by decide +kernel
theorem dX2_strike_2 : decode cX2_strike 2 = .ok (.iconst 2, 1) := by decide +kernel
theorem dX2_strike_3 : decode cX2_strike 3 = .ok (.invokevirtual 85, 3) := by decide +kernel
theorem dX2_strike_6 : decode cX2_strike 6 = .ok (.pop, 1) := by decide +kernel
theorem dX2_strike_7 : decode cX2_strike 7 = .ok (.aload_n 0, 1) := by decide +kernel
theorem dX2_strike_8 : decode cX2_strike 8 = .ok (.dup, 1) := by decide +kernel
theorem dX2_strike_9 : decode cX2_strike 9 = .ok (.getfield 41, 3) := by decide +kernel
theorem dX2_strike_12 : decode cX2_strike 12 = .ok (.iconst 1, 1) := by decide +kernel
theorem dX2_strike_13 : decode cX2_strike 13 = .ok (.iadd, 1) := by decide +kernel
theorem dX2_strike_14 : decode cX2_strike 14 = .ok (.putfield 41, 3) := by decide +kernel
theorem dX2_strike_17 : decode cX2_strike 17 = .ok (.iconst 0, 1) := by decide +kernel
theorem dX2_strike_18 : decode cX2_strike 18 = .ok (.istore_n 3, 1) := by decide +kernel
theorem dX2_strike_19 : decode cX2_strike 19 = .ok (.iconst 0, 1) := by decide +kernel
theorem dX2_strike_20 : decode cX2_strike 20 = .ok (.istore 4, 2) := by decide +kernel
theorem dX2_strike_22 : decode cX2_strike 22 = .ok (.iload 4, 2) := by decide +kernel
theorem dX2_strike_24 : decode cX2_strike 24 = .ok (.aload_n 0, 1) := by decide +kernel
theorem dX2_strike_25 : decode cX2_strike 25 = .ok (.getfield 14, 3) := by decide +kernel
theorem dX2_strike_28 : decode cX2_strike 28 = .ok (.invokevirtual 64, 3) := by decide +kernel
theorem dX2_strike_31 : decode cX2_strike 31 = .ok (.if_icmp .ge 31, 3) := by decide +kernel
theorem dX2_strike_34 : decode cX2_strike 34 = .ok (.aload_n 0, 1) := by decide +kernel
theorem dX2_strike_35 : decode cX2_strike 35 = .ok (.iload 4, 2) := by decide +kernel
theorem dX2_strike_37 : decode cX2_strike 37 = .ok (.iload_n 1, 1) := by decide +kernel
theorem dX2_strike_38 : decode cX2_strike 38 = .ok (.iload_n 2, 1) := by decide +kernel
theorem dX2_strike_39 : decode cX2_strike 39 = .ok (.invokevirtual 82, 3) := by decide +kernel
theorem dX2_strike_42 : decode cX2_strike 42 = .ok (.ifCond .eq 14, 3) := by decide +kernel
theorem dX2_strike_45 : decode cX2_strike 45 = .ok (.aload_n 0, 1) := by decide +kernel
theorem dX2_strike_46 : decode cX2_strike 46 = .ok (.iload 4, 2) := by decide +kernel
theorem dX2_strike_48 : decode cX2_strike 48 = .ok (.iload_n 1, 1) := by decide +kernel
theorem dX2_strike_49 : decode cX2_strike 49 = .ok (.iload_n 2, 1) := by decide +kernel
theorem dX2_strike_50 : decode cX2_strike 50 = .ok (.invokevirtual 88, 3) := by decide +kernel
theorem dX2_strike_53 : decode cX2_strike 53 = .ok (.iinc 3 1, 3) := by decide +kernel
theorem dX2_strike_56 : decode cX2_strike 56 = .ok (.iinc 4 1, 3) := by decide +kernel
theorem dX2_strike_59 : decode cX2_strike 59 = .ok (.goto (-37), 3) := by decide +kernel
theorem dX2_strike_62 : decode cX2_strike 62 = .ok (.aload_n 0, 1) := by decide +kernel
theorem dX2_strike_63 : decode cX2_strike 63 = .ok (.iload_n 1, 1) := by decide +kernel
theorem dX2_strike_64 : decode cX2_strike 64 = .ok (.iload_n 2, 1) := by decide +kernel
theorem dX2_strike_65 : decode cX2_strike 65 = .ok (.invokevirtual 91, 3) := by decide +kernel
theorem dX2_strike_68 : decode cX2_strike 68 = .ok (.iload_n 3, 1) := by decide +kernel
theorem dX2_strike_69 : decode cX2_strike 69 = .ok (.ireturn, 1) := by decide +kernel
set_option maxRecDepth 20000 in
theorem ggX2_passTurns_X4_rows : GoodIn wsX2_passTurns wsX4_rows := goodIn_r _ [6, 7, 37, 38, 39] (by decide +kernel) (by decide +kernel)
set_option maxRecDepth 20000 in
theorem gX2_passTurns_X4_rows : GoodIn wsX2_passTurns (wsV RX2 64 RX4 yX4_rows wsX4_rows) := goodIn_app (goodIn_of _ (by decide +kernel)) ggX2_passTurns_X4_rows
set_option maxRecDepth 20000 in
theorem ggX2_passTurns_X4_get : GoodIn wsX2_passTurns wsX4_get := goodIn_r _ [11, 7, 12, 13, 37, 38, 39] (by decide +kernel) (by decide +kernel)
set_option maxRecDepth 20000 in
theorem gX2_passTurns_X4_get : GoodIn wsX2_passTurns (wsV RX2 67 RX4 yX4_get wsX4_get) := goodIn_app (goodIn_of _ (by decide +kernel)) ggX2_passTurns_X4_get
set_option maxRecDepth 20000 in
theorem ggX2_passTurns_X2_matches : GoodIn wsX2_passTurns wsX2_matches := goodIn_r _ [18, 1, 8, 9, 10, 5, 11, 7, 12, 13, 32, 33, 34, 35, 36, 37, 38, 39] (by decide +kernel) (by decide +kernel)
set_option maxRecDepth 20000 in
theorem gX2_passTurns_X2_matches : GoodIn wsX2_passTurns (wsV RX2 78 RX2 yX2_matches wsX2_matches) := goodIn_app (goodIn_of _ (by decide +kernel)) ggX2_passTurns_X2_matches
set_option maxRecDepth 20000 in
theorem ggX2_passTurns_X2_grow : GoodIn wsX2_passTurns wsX2_grow := goodIn_r _ [22, 23, 24, 25, 17, 26, 27, 28, 29, 30, 31, 32, 33, 34, 35, 36] (by decide +kernel) (by decide +kernel)
set_option maxRecDepth 20000 in
theorem gX2_passTurns_X2_grow : GoodIn wsX2_passTurns (wsV RX2 75 RX2 yX2_grow wsX2_grow) := goodIn_app (goodIn_of _ (by decide +kernel)) ggX2_passTurns_X2_grow
theorem dX2_passTurns_0 : decode cX2_passTurns 0 = .ok (.iconst 1, 1) := by decide +kernel
theorem dX2_passTurns_1 : decode cX2_passTurns 1 = .ok (.istore_n 3, 1) := by decide +kernel
theorem dX2_passTurns_2 : decode cX2_passTurns 2 = .ok (.iload_n 3, 1) := by decide +kernel
theorem dX2_passTurns_3 : decode cX2_passTurns 3 = .ok (.iconst 4, 1) := by decide +kernel
theorem dX2_passTurns_4 : decode cX2_passTurns 4 = .ok (.if_icmp .gt 88, 3) := by decide +kernel
theorem dX2_passTurns_7 : decode cX2_passTurns 7 = .ok (.iconst 0, 1) := by decide +kernel
theorem dX2_passTurns_8 : decode cX2_passTurns 8 = .ok (.istore 4, 2) := by decide +kernel
theorem dX2_passTurns_10 : decode cX2_passTurns 10 = .ok (.iconst 0, 1) := by decide +kernel
theorem dX2_passTurns_11 : decode cX2_passTurns 11 = .ok (.istore 5, 2) := by decide +kernel
theorem dX2_passTurns_13 : decode cX2_passTurns 13 = .ok (.iload 5, 2) := by decide +kernel
theorem dX2_passTurns_15 : decode cX2_passTurns 15 = .ok (.aload_n 0, 1) := by decide +kernel
theorem dX2_passTurns_16 : decode cX2_passTurns 16 = .ok (.getfield 14, 3) := by decide +kernel
theorem dX2_passTurns_19 : decode cX2_passTurns 19 = .ok (.invokevirtual 64, 3) := by decide +kernel
theorem dX2_passTurns_22 : decode cX2_passTurns 22 = .ok (.if_icmp .ge 44, 3) := by decide +kernel
theorem dX2_passTurns_25 : decode cX2_passTurns 25 = .ok (.iload 4, 2) := by decide +kernel
theorem dX2_passTurns_27 : decode cX2_passTurns 27 = .ok (.aload_n 0, 1) := by decide +kernel
theorem dX2_passTurns_28 : decode cX2_passTurns 28 = .ok (.getfield 14, 3) := by decide +kernel
theorem dX2_passTurns_31 : decode cX2_passTurns 31 = .ok (.iload 5, 2) := by decide +kernel
theorem dX2_passTurns_33 : decode cX2_passTurns 33 = .ok (.iconst 5, 1) := by decide +kernel
theorem dX2_passTurns_34 : decode cX2_passTurns 34 = .ok (.invokevirtual 67, 3) := by decide +kernel
theorem dX2_passTurns_37 : decode cX2_passTurns 37 = .ok (.iload_n 3, 1) := by decide +kernel
theorem dX2_passTurns_38 : decode cX2_passTurns 38 = .ok (.if_icmp .ne 18, 3) := by decide +kernel
theorem dX2_passTurns_41 : decode cX2_passTurns 41 = .ok (.aload_n 0, 1) := by decide +kernel
theorem dX2_passTurns_42 : decode cX2_passTurns 42 = .ok (.iload 5, 2) := by decide +kernel
theorem dX2_passTurns_44 : decode cX2_passTurns 44 = .ok (.iload_n 1, 1) := by decide +kernel
theorem dX2_passTurns_45 : decode cX2_passTurns 45 = .ok (.iload_n 2, 1) := by decide +kernel
theorem dX2_passTurns_46 : decode cX2_passTurns 46 = .ok (.invokevirtual 78, 3) := by decide +kernel
theorem dX2_passTurns_49 : decode cX2_passTurns 49 = .ok (.ifCond .eq 7, 3) := by decide +kernel
theorem dX2_passTurns_52 : decode cX2_passTurns 52 = .ok (.iconst 1, 1) := by decide +kernel
theorem dX2_passTurns_53 : decode cX2_passTurns 53 = .ok (.goto 4, 3) := by decide +kernel
theorem dX2_passTurns_56 : decode cX2_passTurns 56 = .ok (.iconst 0, 1) := by decide +kernel
theorem dX2_passTurns_57 : decode cX2_passTurns 57 = .ok (.ior, 1) := by decide +kernel
theorem dX2_passTurns_58 : decode cX2_passTurns 58 = .ok (.istore 4, 2) := by decide +kernel
theorem dX2_passTurns_60 : decode cX2_passTurns 60 = .ok (.iinc 5 1, 3) := by decide +kernel
theorem dX2_passTurns_63 : decode cX2_passTurns 63 = .ok (.goto (-50), 3) := by decide +kernel
theorem dX2_passTurns_66 : decode cX2_passTurns 66 = .ok (.aload_n 0, 1) := by decide +kernel
theorem dX2_passTurns_67 : decode cX2_passTurns 67 = .ok (.bipush 9, 2) := by decide +kernel
theorem dX2_passTurns_69 : decode cX2_passTurns 69 = .ok (.iload_n 3, 1) := by decide +kernel
theorem dX2_passTurns_70 : decode cX2_passTurns 70 = .ok (.iadd, 1) := by decide +kernel
theorem dX2_passTurns_71 : decode cX2_passTurns 71 = .ok (.iconst 1, 1) := by decide +kernel
theorem dX2_passTurns_72 : decode cX2_passTurns 72 = .ok (.isub, 1) := by decide +kernel
theorem dX2_passTurns_73 : decode cX2_passTurns 73 = .ok (.iload 4, 2) := by decide +kernel
theorem dX2_passTurns_75 : decode cX2_passTurns 75 = .ok (.ifCond .eq 7, 3) := by decide +kernel
theorem dX2_passTurns_78 : decode cX2_passTurns 78 = .ok (.iconst 1, 1) := by decide +kernel
theorem dX2_passTurns_79 : decode cX2_passTurns 79 = .ok (.goto 4, 3) := by decide +kernel
theorem dX2_passTurns_82 : decode cX2_passTurns 82 = .ok (.iconst 0, 1) := by decide +kernel
theorem dX2_passTurns_83 : decode cX2_passTurns 83 = .ok (.invokevirtual 75, 3) := by decide +kernel
theorem dX2_passTurns_86 : decode cX2_passTurns 86 = .ok (.iinc 3 1, 3) := by decide +kernel
theorem dX2_passTurns_89 : decode cX2_passTurns 89 = .ok (.goto (-87), 3) := by decide +kernel
theorem dX2_passTurns_92 : decode cX2_passTurns 92 = .ok (.return_, 1) := by decide +kernel
set_option maxRecDepth 20000 in
theorem ggX2_begin_X4_get : GoodIn wsX2_begin wsX4_get := goodIn_r _ [8, 9, 10, 11, 63, 64, 65] (by decide +kernel) (by decide +kernel)
set_option maxRecDepth 20000 in
theorem gX2_begin_X4_get : GoodIn wsX2_begin (wsV RX2 67 RX4 yX4_get wsX4_get) := goodIn_app (goodIn_of _ (by decide +kernel)) ggX2_begin_X4_get
set_option maxRecDepth 20000 in
theorem ggX2_begin_X2_choke : GoodIn wsX2_begin wsX2_choke := goodIn_r _ [16, 2, 3, 1, 17, 18, 19, 7, 20, 9, 4, 5, 6, 8, 10, 11, 21, 22, 23, 24, 25, 26, 27, 28, 29, 30, 31, 15, 32, 33, 34, 35, 36, 37, 38, 39, 40, 41, 58, 59, 60, 61, 62, 63, 64, 65] (by decide +kernel) (by decide +kernel)
set_option maxRecDepth 20000 in
theorem gX2_begin_X2_choke : GoodIn wsX2_begin (wsV RX2 94 RX2 yX2_choke wsX2_choke) := goodIn_app (goodIn_of _ (by decide +kernel)) ggX2_begin_X2_choke
set_option maxRecDepth 20000 in
theorem ggX2_begin_X2_number : GoodIn wsX2_begin wsX2_number := goodIn_r _ [36, 37, 58, 59, 60, 61, 62] (by decide +kernel) (by decide +kernel)
set_option maxRecDepth 20000 in
theorem gX2_begin_X2_number : GoodIn wsX2_begin (wsV RX2 45 RX2 yX2_number wsX2_number) := goodIn_app (goodIn_of _ (by decide +kernel)) ggX2_begin_X2_number
set_option maxRecDepth 20000 in
theorem ggX2_begin_X2_stealDownTo : GoodIn wsX2_begin wsX2_stealDownTo := goodIn_r _ [45, 2, 17, 18, 19, 7, 20, 9, 46, 47, 48, 15, 49, 33, 34, 35, 36, 37, 4, 5, 6, 8, 10, 11, 21, 22, 23, 24, 25, 26, 27, 28, 29, 30, 31, 32, 38, 39, 40, 41, 58, 59, 60, 61, 62, 63, 64, 65] (by decide +kernel) (by decide +kernel)
set_option maxRecDepth 20000 in
theorem gX2_begin_X2_stealDownTo : GoodIn wsX2_begin (wsV RX2 97 RX2 yX2_stealDownTo wsX2_stealDownTo) := goodIn_app (goodIn_of _ (by decide +kernel)) ggX2_begin_X2_stealDownTo
set_option maxRecDepth 20000 in
theorem ggX2_begin_X4_addRow : GoodIn wsX2_begin wsX4_addRow := goodIn_r _ [53, 9, 10, 11, 63, 64, 65] (by decide +kernel) (by decide +kernel)
set_option maxRecDepth 20000 in
theorem gX2_begin_X4_addRow : GoodIn wsX2_begin (wsV RX2 52 RX4 yX4_addRow wsX4_addRow) := goodIn_app (goodIn_of _ (by decide +kernel)) ggX2_begin_X4_addRow
set_option maxRecDepth 20000 in
theorem ggX2_begin_X4_put : GoodIn wsX2_begin wsX4_put := goodIn_r _ [57, 9, 10, 11, 63, 64, 65] (by decide +kernel) (by decide +kernel)
set_option maxRecDepth 20000 in
theorem gX2_begin_X4_put : GoodIn wsX2_begin (wsV RX2 56 RX4 yX4_put wsX4_put) := goodIn_app (goodIn_of _ (by decide +kernel)) ggX2_begin_X4_put
set_option maxRecDepth 20000 in
theorem ggX2_begin_X2_grow : GoodIn wsX2_begin wsX2_grow := goodIn_r _ [32, 33, 34, 35, 15, 36, 37, 38, 39, 40, 41, 58, 59, 60, 61, 62] (by decide +kernel) (by decide +kernel)
set_option maxRecDepth 20000 in
theorem gX2_begin_X2_grow : GoodIn wsX2_begin (wsV RX2 75 RX2 yX2_grow wsX2_grow) := goodIn_app (goodIn_of _ (by decide +kernel)) ggX2_begin_X2_grow
theorem dX2_begin_0 : decode cX2_begin 0 = .ok (.aload_n 0, 1) := by decide +kernel
theorem dX2_begin_1 : decode cX2_begin 1 = .ok (.aload_n 0, 1) := by decide +kernel
theorem dX2_begin_2 : decode cX2_begin 2 = .ok (.getfield 14, 3) := by decide +kernel
theorem dX2_begin_5 : decode cX2_begin 5 = .ok (.iload_n 1, 1) := by decide +kernel
theorem dX2_begin_6 : decode cX2_begin 6 = .ok (.iconst 4, 1) := by decide +kernel
theorem dX2_begin_7 : decode cX2_begin 7 = .ok (.invokevirtual 67, 3) := by decide +kernel
theorem dX2_begin_10 : decode cX2_begin 10 = .ok (.invokevirtual 94, 3) := by decide +kernel
theorem dX2_begin_13 : decode cX2_begin 13 = .ok (.aload_n 0, 1) := by decide +kernel
theorem dX2_begin_14 : decode cX2_begin 14 = .ok (.aload_n 0, 1) := by decide +kernel
theorem dX2_begin_15 : decode cX2_begin 15 = .ok (.bipush 6, 2) := by decide +kernel
theorem dX2_begin_17 : decode cX2_begin 17 = .ok (.invokevirtual 45, 3) := by decide +kernel
theorem dX2_begin_20 : decode cX2_begin 20 = .ok (.iconst 1, 1) := by decide +kernel
theorem dX2_begin_21 : decode cX2_begin 21 = .ok (.isub, 1) := by decide +kernel
theorem dX2_begin_22 : decode cX2_begin 22 = .ok (.invokevirtual 97, 3) := by decide +kernel
theorem dX2_begin_25 : decode cX2_begin 25 = .ok (.aload_n 0, 1) := by decide +kernel
theorem dX2_begin_26 : decode cX2_begin 26 = .ok (.getfield 20, 3) := by decide +kernel
theorem dX2_begin_29 : decode cX2_begin 29 = .ok (.invokevirtual 52, 3) := by decide +kernel
theorem dX2_begin_32 : decode cX2_begin 32 = .ok (.istore 4, 2) := by decide +kernel
theorem dX2_begin_34 : decode cX2_begin 34 = .ok (.aload_n 0, 1) := by decide +kernel
theorem dX2_begin_35 : decode cX2_begin 35 = .ok (.getfield 20, 3) := by decide +kernel
theorem dX2_begin_38 : decode cX2_begin 38 = .ok (.iload 4, 2) := by decide +kernel
theorem dX2_begin_40 : decode cX2_begin 40 = .ok (.iconst 0, 1) := by decide +kernel
theorem dX2_begin_41 : decode cX2_begin 41 = .ok (.iload_n 1, 1) := by decide +kernel
theorem dX2_begin_42 : decode cX2_begin 42 = .ok (.invokevirtual 56, 3) := by decide +kernel
theorem dX2_begin_45 : decode cX2_begin 45 = .ok (.aload_n 0, 1) := by decide +kernel
theorem dX2_begin_46 : decode cX2_begin 46 = .ok (.getfield 20, 3) := by decide +kernel
theorem dX2_begin_49 : decode cX2_begin 49 = .ok (.iload 4, 2) := by decide +kernel
theorem dX2_begin_51 : decode cX2_begin 51 = .ok (.iconst 1, 1) := by decide +kernel
theorem dX2_begin_52 : decode cX2_begin 52 = .ok (.iload_n 2, 1) := by decide +kernel
theorem dX2_begin_53 : decode cX2_begin 53 = .ok (.invokevirtual 56, 3) := by decide +kernel
theorem dX2_begin_56 : decode cX2_begin 56 = .ok (.aload_n 0, 1) := by decide +kernel
theorem dX2_begin_57 : decode cX2_begin 57 = .ok (.getfield 20, 3) := by decide +kernel
theorem dX2_begin_60 : decode cX2_begin 60 = .ok (.iload 4, 2) := by decide +kernel
theorem dX2_begin_62 : decode cX2_begin 62 = .ok (.iconst 2, 1) := by decide +kernel
theorem dX2_begin_63 : decode cX2_begin 63 = .ok (.iload_n 3, 1) := by decide +kernel
theorem dX2_begin_64 : decode cX2_begin 64 = .ok (.invokevirtual 56, 3) := by decide +kernel
theorem dX2_begin_67 : decode cX2_begin 67 = .ok (.aload_n 0, 1) := by decide +kernel
theorem dX2_begin_68 : decode cX2_begin 68 = .ok (.getfield 20, 3) := by decide +kernel
theorem dX2_begin_71 : decode cX2_begin 71 = .ok (.iload 4, 2) := by decide +kernel
theorem dX2_begin_73 : decode cX2_begin 73 = .ok (.iconst 3, 1) := by decide +kernel
theorem dX2_begin_74 : decode cX2_begin 74 = .ok (.bipush 10, 2) := by decide +kernel
theorem dX2_begin_76 : decode cX2_begin 76 = .ok (.iload_n 3, 1) := by decide +kernel
theorem dX2_begin_77 : decode cX2_begin 77 = .ok (.imul, 1) := by decide +kernel
theorem dX2_begin_78 : decode cX2_begin 78 = .ok (.invokevirtual 56, 3) := by decide +kernel
theorem dX2_begin_81 : decode cX2_begin 81 = .ok (.aload_n 0, 1) := by decide +kernel
theorem dX2_begin_82 : decode cX2_begin 82 = .ok (.getfield 20, 3) := by decide +kernel
theorem dX2_begin_85 : decode cX2_begin 85 = .ok (.iload 4, 2) := by decide +kernel
theorem dX2_begin_87 : decode cX2_begin 87 = .ok (.iconst 4, 1) := by decide +kernel
theorem dX2_begin_88 : decode cX2_begin 88 = .ok (.iconst 0, 1) := by decide +kernel
theorem dX2_begin_89 : decode cX2_begin 89 = .ok (.invokevirtual 56, 3) := by decide +kernel
theorem dX2_begin_92 : decode cX2_begin 92 = .ok (.aload_n 0, 1) := by decide +kernel
theorem dX2_begin_93 : decode cX2_begin 93 = .ok (.getfield 20, 3) := by decide +kernel
theorem dX2_begin_96 : decode cX2_begin 96 = .ok (.iload 4, 2) := by decide +kernel
theorem dX2_begin_98 : decode cX2_begin 98 = .ok (.iconst 5, 1) := by decide +kernel
theorem dX2_begin_99 : decode cX2_begin 99 = .ok (.iconst 0, 1) := by decide +kernel
theorem dX2_begin_100 : decode cX2_begin 100 = .ok (.invokevirtual 56, 3) := by decide +kernel
theorem dX2_begin_103 : decode cX2_begin 103 = .ok (.aload_n 0, 1) := by decide +kernel
theorem dX2_begin_104 : decode cX2_begin 104 = .ok (.getfield 20, 3) := by decide +kernel
theorem dX2_begin_107 : decode cX2_begin 107 = .ok (.iload 4, 2) := by decide +kernel
theorem dX2_begin_109 : decode cX2_begin 109 = .ok (.bipush 6, 2) := by decide +kernel
theorem dX2_begin_111 : decode cX2_begin 111 = .ok (.aload_n 0, 1) := by decide +kernel
theorem dX2_begin_112 : decode cX2_begin 112 = .ok (.getfield 41, 3) := by decide +kernel
theorem dX2_begin_115 : decode cX2_begin 115 = .ok (.invokevirtual 56, 3) := by decide +kernel
theorem dX2_begin_118 : decode cX2_begin 118 = .ok (.aload_n 0, 1) := by decide +kernel
theorem dX2_begin_119 : decode cX2_begin 119 = .ok (.iconst 1, 1) := by decide +kernel
theorem dX2_begin_120 : decode cX2_begin 120 = .ok (.iconst 1, 1) := by decide +kernel
theorem dX2_begin_121 : decode cX2_begin 121 = .ok (.invokevirtual 75, 3) := by decide +kernel
theorem dX2_begin_124 : decode cX2_begin 124 = .ok (.return_, 1) := by decide +kernel
set_option maxRecDepth 20000 in
theorem ggX2_choke_X4_rows : GoodIn wsX2_choke wsX4_rows := goodIn_r _ [8, 9, 43, 44, 45] (by decide +kernel) (by decide +kernel)
set_option maxRecDepth 20000 in
theorem gX2_choke_X4_rows : GoodIn wsX2_choke (wsV RX2 64 RX4 yX4_rows wsX4_rows) := goodIn_app (goodIn_of _ (by decide +kernel)) ggX2_choke_X4_rows
set_option maxRecDepth 20000 in
theorem ggX2_choke_X4_get : GoodIn wsX2_choke wsX4_get := goodIn_r _ [13, 9, 14, 15, 43, 44, 45] (by decide +kernel) (by decide +kernel)
set_option maxRecDepth 20000 in
theorem gX2_choke_X4_get : GoodIn wsX2_choke (wsV RX2 67 RX4 yX4_get wsX4_get) := goodIn_app (goodIn_of _ (by decide +kernel)) ggX2_choke_X4_get
set_option maxRecDepth 20000 in
theorem ggX2_choke_X4_removeRow : GoodIn wsX2_choke wsX4_removeRow := goodIn_r _ [19, 14, 15, 9, 20, 21, 22, 7, 23, 43, 44, 45] (by decide +kernel) (by decide +kernel)
set_option maxRecDepth 20000 in
theorem gX2_choke_X4_removeRow : GoodIn wsX2_choke (wsV RX2 71 RX4 yX4_removeRow wsX4_removeRow) := goodIn_app (goodIn_of _ (by decide +kernel)) ggX2_choke_X4_removeRow
set_option maxRecDepth 20000 in
theorem ggX2_choke_X2_grow : GoodIn wsX2_choke wsX2_grow := goodIn_r _ [28, 29, 30, 31, 27, 32, 33, 34, 35, 36, 37, 38, 39, 40, 41, 42] (by decide +kernel) (by decide +kernel)
set_option maxRecDepth 20000 in
theorem gX2_choke_X2_grow : GoodIn wsX2_choke (wsV RX2 75 RX2 yX2_grow wsX2_grow) := goodIn_app (goodIn_of _ (by decide +kernel)) ggX2_choke_X2_grow
theorem dX2_choke_0 : decode cX2_choke 0 = .ok (.iload_n 1, 1) := by decide +kernel
theorem dX2_choke_1 : decode cX2_choke 1 = .ok (.ifCond .ne 4, 3) := by decide +kernel
theorem dX2_choke_4 : decode cX2_choke 4 = .ok (.return_, 1) := by decide +kernel
theorem dX2_choke_5 : decode cX2_choke 5 = .ok (.aload_n 0, 1) := by decide +kernel
theorem dX2_choke_6 : decode cX2_choke 6 = .ok (.getfield 20, 3) := by decide +kernel
theorem dX2_choke_9 : decode cX2_choke 9 = .ok (.invokevirtual 64, 3) := by decide +kernel
theorem dX2_choke_12 : decode cX2_choke 12 = .ok (.iconst 1, 1) := by decide +kernel
theorem dX2_choke_13 : decode cX2_choke 13 = .ok (.isub, 1) := by decide +kernel
theorem dX2_choke_14 : decode cX2_choke 14 = .ok (.istore_n 2, 1) := by decide +kernel
theorem dX2_choke_15 : decode cX2_choke 15 = .ok (.iload_n 2, 1) := by decide +kernel
theorem dX2_choke_16 : decode cX2_choke 16 = .ok (.ifCond .lt 71, 3) := by decide +kernel
theorem dX2_choke_19 : decode cX2_choke 19 = .ok (.aload_n 0, 1) := by decide +kernel
theorem dX2_choke_20 : decode cX2_choke 20 = .ok (.getfield 20, 3) := by decide +kernel
theorem dX2_choke_23 : decode cX2_choke 23 = .ok (.iload_n 2, 1) := by decide +kernel
theorem dX2_choke_24 : decode cX2_choke 24 = .ok (.bipush 6, 2) := by decide +kernel
theorem dX2_choke_26 : decode cX2_choke 26 = .ok (.invokevirtual 67, 3) := by decide +kernel
theorem dX2_choke_29 : decode cX2_choke 29 = .ok (.aload_n 0, 1) := by decide +kernel
theorem dX2_choke_30 : decode cX2_choke 30 = .ok (.getfield 41, 3) := by decide +kernel
theorem dX2_choke_33 : decode cX2_choke 33 = .ok (.if_icmp .eq 7, 3) := by decide +kernel
theorem dX2_choke_36 : decode cX2_choke 36 = .ok (.iconst 1, 1) := by decide +kernel
theorem dX2_choke_37 : decode cX2_choke 37 = .ok (.goto 4, 3) := by decide +kernel
theorem dX2_choke_40 : decode cX2_choke 40 = .ok (.iconst 0, 1) := by decide +kernel
theorem dX2_choke_41 : decode cX2_choke 41 = .ok (.istore_n 3, 1) := by decide +kernel
theorem dX2_choke_42 : decode cX2_choke 42 = .ok (.iload_n 3, 1) := by decide +kernel
theorem dX2_choke_43 : decode cX2_choke 43 = .ok (.ifCond .eq 38, 3) := by decide +kernel
theorem dX2_choke_46 : decode cX2_choke 46 = .ok (.aload_n 0, 1) := by decide +kernel
theorem dX2_choke_47 : decode cX2_choke 47 = .ok (.getfield 14, 3) := by decide +kernel
theorem dX2_choke_50 : decode cX2_choke 50 = .ok (.aload_n 0, 1) := by decide +kernel
theorem dX2_choke_51 : decode cX2_choke 51 = .ok (.getfield 20, 3) := by decide +kernel
theorem dX2_choke_54 : decode cX2_choke 54 = .ok (.iload_n 2, 1) := by decide +kernel
theorem dX2_choke_55 : decode cX2_choke 55 = .ok (.iconst 0, 1) := by decide +kernel
theorem dX2_choke_56 : decode cX2_choke 56 = .ok (.invokevirtual 67, 3) := by decide +kernel
theorem dX2_choke_59 : decode cX2_choke 59 = .ok (.iconst 4, 1) := by decide +kernel
theorem dX2_choke_60 : decode cX2_choke 60 = .ok (.invokevirtual 67, 3) := by decide +kernel
theorem dX2_choke_63 : decode cX2_choke 63 = .ok (.iload_n 1, 1) := by decide +kernel
theorem dX2_choke_64 : decode cX2_choke 64 = .ok (.if_icmp .ne 17, 3) := by decide +kernel
theorem dX2_choke_67 : decode cX2_choke 67 = .ok (.aload_n 0, 1) := by decide +kernel
theorem dX2_choke_68 : decode cX2_choke 68 = .ok (.getfield 20, 3) := by decide +kernel
theorem dX2_choke_71 : decode cX2_choke 71 = .ok (.iload_n 2, 1) := by decide +kernel
theorem dX2_choke_72 : decode cX2_choke 72 = .ok (.invokevirtual 71, 3) := by decide +kernel
theorem dX2_choke_75 : decode cX2_choke 75 = .ok (.aload_n 0, 1) := by decide +kernel
theorem dX2_choke_76 : decode cX2_choke 76 = .ok (.iconst 3, 1) := by decide +kernel
theorem dX2_choke_77 : decode cX2_choke 77 = .ok (.iconst 1, 1) := by decide +kernel
theorem dX2_choke_78 : decode cX2_choke 78 = .ok (.invokevirtual 75, 3) := by decide +kernel
theorem dX2_choke_81 : decode cX2_choke 81 = .ok (.iinc 2 (-1), 3) := by decide +kernel
theorem dX2_choke_84 : decode cX2_choke 84 = .ok (.goto (-69), 3) := by decide +kernel
theorem dX2_choke_87 : decode cX2_choke 87 = .ok (.return_, 1) := by decide +kernel
set_option maxRecDepth 20000 in
theorem ggX2_stealDownTo_X4_rows : GoodIn wsX2_stealDownTo wsX4_rows := goodIn_r _ [6, 7, 45, 46, 47] (by decide +kernel) (by decide +kernel)
set_option maxRecDepth 20000 in
theorem gX2_stealDownTo_X4_rows : GoodIn wsX2_stealDownTo (wsV RX2 64 RX4 yX4_rows wsX4_rows) := goodIn_app (goodIn_of _ (by decide +kernel)) ggX2_stealDownTo_X4_rows
set_option maxRecDepth 20000 in
theorem ggX2_stealDownTo_X2_stealRank : GoodIn wsX2_stealDownTo wsX2_stealRank := goodIn_r _ [12, 1, 13, 14, 15, 11, 16, 17, 18, 19, 20, 5, 21, 7, 22, 23, 40, 41, 42, 43, 44, 45, 46, 47] (by decide +kernel) (by decide +kernel)
set_option maxRecDepth 20000 in
theorem gX2_stealDownTo_X2_stealRank : GoodIn wsX2_stealDownTo (wsV RX2 100 RX2 yX2_stealRank wsX2_stealRank) := goodIn_app (goodIn_of _ (by decide +kernel)) ggX2_stealDownTo_X2_stealRank
set_option maxRecDepth 20000 in
theorem ggX2_stealDownTo_X4_removeRow : GoodIn wsX2_stealDownTo wsX4_removeRow := goodIn_r _ [27, 22, 23, 7, 28, 29, 30, 5, 31, 45, 46, 47] (by decide +kernel) (by decide +kernel)
set_option maxRecDepth 20000 in
theorem gX2_stealDownTo_X4_removeRow : GoodIn wsX2_stealDownTo (wsV RX2 71 RX4 yX4_removeRow wsX4_removeRow) := goodIn_app (goodIn_of _ (by decide +kernel)) ggX2_stealDownTo_X4_removeRow
set_option maxRecDepth 20000 in
theorem ggX2_stealDownTo_X2_grow : GoodIn wsX2_stealDownTo wsX2_grow := goodIn_r _ [35, 13, 14, 15, 11, 16, 17, 36, 37, 38, 39, 40, 41, 42, 43, 44] (by decide +kernel) (by decide +kernel)
set_option maxRecDepth 20000 in
theorem gX2_stealDownTo_X2_grow : GoodIn wsX2_stealDownTo (wsV RX2 75 RX2 yX2_grow wsX2_grow) := goodIn_app (goodIn_of _ (by decide +kernel)) ggX2_stealDownTo_X2_grow
theorem dX2_stealDownTo_0 : decode cX2_stealDownTo 0 = .ok (.aload_n 0, 1) := by decide +kernel
theorem dX2_stealDownTo_1 : decode cX2_stealDownTo 1 = .ok (.getfield 20, 3) := by decide +kernel
theorem dX2_stealDownTo_4 : decode cX2_stealDownTo 4 = .ok (.invokevirtual 64, 3) := by decide +kernel
theorem dX2_stealDownTo_7 : decode cX2_stealDownTo 7 = .ok (.istore_n 2, 1) := by decide +kernel
theorem dX2_stealDownTo_8 : decode cX2_stealDownTo 8 = .ok (.iload_n 2, 1) := by decide +kernel
theorem dX2_stealDownTo_9 : decode cX2_stealDownTo 9 = .ok (.iload_n 1, 1) := by decide +kernel
theorem dX2_stealDownTo_10 : decode cX2_stealDownTo 10 = .ok (.if_icmp .le 71, 3) := by decide +kernel
theorem dX2_stealDownTo_13 : decode cX2_stealDownTo 13 = .ok (.iload_n 2, 1) := by decide +kernel
theorem dX2_stealDownTo_14 : decode cX2_stealDownTo 14 = .ok (.ifCond .le 67, 3) := by decide +kernel
theorem dX2_stealDownTo_17 : decode cX2_stealDownTo 17 = .ok (.iconst 0, 1) := by decide +kernel
theorem dX2_stealDownTo_18 : decode cX2_stealDownTo 18 = .ok (.istore_n 3, 1) := by decide +kernel
theorem dX2_stealDownTo_19 : decode cX2_stealDownTo 19 = .ok (.iconst 1, 1) := by decide +kernel
theorem dX2_stealDownTo_20 : decode cX2_stealDownTo 20 = .ok (.istore 4, 2) := by decide +kernel
theorem dX2_stealDownTo_22 : decode cX2_stealDownTo 22 = .ok (.iload 4, 2) := by decide +kernel
theorem dX2_stealDownTo_24 : decode cX2_stealDownTo 24 = .ok (.aload_n 0, 1) := by decide +kernel
theorem dX2_stealDownTo_25 : decode cX2_stealDownTo 25 = .ok (.getfield 20, 3) := by decide +kernel
theorem dX2_stealDownTo_28 : decode cX2_stealDownTo 28 = .ok (.invokevirtual 64, 3) := by decide +kernel
theorem dX2_stealDownTo_31 : decode cX2_stealDownTo 31 = .ok (.if_icmp .ge 30, 3) := by decide +kernel
theorem dX2_stealDownTo_34 : decode cX2_stealDownTo 34 = .ok (.aload_n 0, 1) := by decide +kernel
theorem dX2_stealDownTo_35 : decode cX2_stealDownTo 35 = .ok (.iload 4, 2) := by decide +kernel
theorem dX2_stealDownTo_37 : decode cX2_stealDownTo 37 = .ok (.invokevirtual 100, 3) := by decide +kernel
theorem dX2_stealDownTo_40 : decode cX2_stealDownTo 40 = .ok (.aload_n 0, 1) := by decide +kernel
theorem dX2_stealDownTo_41 : decode cX2_stealDownTo 41 = .ok (.iload_n 3, 1) := by decide +kernel
theorem dX2_stealDownTo_42 : decode cX2_stealDownTo 42 = .ok (.invokevirtual 100, 3) := by decide +kernel
theorem dX2_stealDownTo_45 : decode cX2_stealDownTo 45 = .ok (.if_icmp .ge 8, 3) := by decide +kernel
theorem dX2_stealDownTo_48 : decode cX2_stealDownTo 48 = .ok (.iload 4, 2) := by decide +kernel
theorem dX2_stealDownTo_50 : decode cX2_stealDownTo 50 = .ok (.goto 4, 3) := by decide +kernel
theorem dX2_stealDownTo_53 : decode cX2_stealDownTo 53 = .ok (.iload_n 3, 1) := by decide +kernel
theorem dX2_stealDownTo_54 : decode cX2_stealDownTo 54 = .ok (.istore_n 3, 1) := by decide +kernel
theorem dX2_stealDownTo_55 : decode cX2_stealDownTo 55 = .ok (.iinc 4 1, 3) := by decide +kernel
theorem dX2_stealDownTo_58 : decode cX2_stealDownTo 58 = .ok (.goto (-36), 3) := by decide +kernel
theorem dX2_stealDownTo_61 : decode cX2_stealDownTo 61 = .ok (.aload_n 0, 1) := by decide +kernel
theorem dX2_stealDownTo_62 : decode cX2_stealDownTo 62 = .ok (.getfield 20, 3) := by decide +kernel
theorem dX2_stealDownTo_65 : decode cX2_stealDownTo 65 = .ok (.iload_n 3, 1) := by decide +kernel
theorem dX2_stealDownTo_66 : decode cX2_stealDownTo 66 = .ok (.invokevirtual 71, 3) := by decide +kernel
theorem dX2_stealDownTo_69 : decode cX2_stealDownTo 69 = .ok (.aload_n 0, 1) := by decide +kernel
theorem dX2_stealDownTo_70 : decode cX2_stealDownTo 70 = .ok (.iconst 4, 1) := by decide +kernel
theorem dX2_stealDownTo_71 : decode cX2_stealDownTo 71 = .ok (.iconst 1, 1) := by decide +kernel
theorem dX2_stealDownTo_72 : decode cX2_stealDownTo 72 = .ok (.invokevirtual 75, 3) := by decide +kernel
theorem dX2_stealDownTo_75 : decode cX2_stealDownTo 75 = .ok (.iinc 2 (-1), 3) := by decide +kernel
theorem dX2_stealDownTo_78 : decode cX2_stealDownTo 78 = .ok (.goto (-70), 3) := by decide +kernel
theorem dX2_stealDownTo_81 : decode cX2_stealDownTo 81 = .ok (.return_, 1) := by decide +kernel
set_option maxRecDepth 20000 in
theorem ggX2_stealPlace_X2_stealRank : GoodIn wsX2_stealPlace wsX2_stealRank := goodIn_r _ [6, 1, 7, 8, 9, 5, 10, 11, 12, 13, 14, 15, 16, 17, 18, 19, 24, 25, 26, 27, 28, 29, 30, 31] (by decide +kernel) (by decide +kernel)
set_option maxRecDepth 20000 in
theorem gX2_stealPlace_X2_stealRank : GoodIn wsX2_stealPlace (wsV RX2 100 RX2 yX2_stealRank wsX2_stealRank) := goodIn_app (goodIn_of _ (by decide +kernel)) ggX2_stealPlace_X2_stealRank
set_option maxRecDepth 20000 in
theorem ggX2_stealPlace_X4_rows : GoodIn wsX2_stealPlace wsX4_rows := goodIn_r _ [23, 17, 29, 30, 31] (by decide +kernel) (by decide +kernel)
set_option maxRecDepth 20000 in
theorem gX2_stealPlace_X4_rows : GoodIn wsX2_stealPlace (wsV RX2 64 RX4 yX4_rows wsX4_rows) := goodIn_app (goodIn_of _ (by decide +kernel)) ggX2_stealPlace_X4_rows
theorem dX2_stealPlace_0 : decode cX2_stealPlace 0 = .ok (.aload_n 0, 1) := by decide +kernel
theorem dX2_stealPlace_1 : decode cX2_stealPlace 1 = .ok (.iload_n 1, 1) := by decide +kernel
theorem dX2_stealPlace_2 : decode cX2_stealPlace 2 = .ok (.invokevirtual 100, 3) := by decide +kernel
theorem dX2_stealPlace_5 : decode cX2_stealPlace 5 = .ok (.istore_n 2, 1) := by decide +kernel
theorem dX2_stealPlace_6 : decode cX2_stealPlace 6 = .ok (.iconst 0, 1) := by decide +kernel
theorem dX2_stealPlace_7 : decode cX2_stealPlace 7 = .ok (.istore_n 3, 1) := by decide +kernel
theorem dX2_stealPlace_8 : decode cX2_stealPlace 8 = .ok (.iconst 0, 1) := by decide +kernel
theorem dX2_stealPlace_9 : decode cX2_stealPlace 9 = .ok (.istore 4, 2) := by decide +kernel
theorem dX2_stealPlace_11 : decode cX2_stealPlace 11 = .ok (.iload 4, 2) := by decide +kernel
theorem dX2_stealPlace_13 : decode cX2_stealPlace 13 = .ok (.aload_n 0, 1) := by decide +kernel
theorem dX2_stealPlace_14 : decode cX2_stealPlace 14 = .ok (.getfield 20, 3) := by decide +kernel
theorem dX2_stealPlace_17 : decode cX2_stealPlace 17 = .ok (.invokevirtual 64, 3) := by decide +kernel
theorem dX2_stealPlace_20 : decode cX2_stealPlace 20 = .ok (.if_icmp .ge 38, 3) := by decide +kernel
theorem dX2_stealPlace_23 : decode cX2_stealPlace 23 = .ok (.aload_n 0, 1) := by decide +kernel
theorem dX2_stealPlace_24 : decode cX2_stealPlace 24 = .ok (.iload 4, 2) := by decide +kernel
theorem dX2_stealPlace_26 : decode cX2_stealPlace 26 = .ok (.invokevirtual 100, 3) := by decide +kernel
theorem dX2_stealPlace_29 : decode cX2_stealPlace 29 = .ok (.istore 5, 2) := by decide +kernel
theorem dX2_stealPlace_31 : decode cX2_stealPlace 31 = .ok (.iload 5, 2) := by decide +kernel
theorem dX2_stealPlace_33 : decode cX2_stealPlace 33 = .ok (.iload_n 2, 1) := by decide +kernel
theorem dX2_stealPlace_34 : decode cX2_stealPlace 34 = .ok (.if_icmp .lt 15, 3) := by decide +kernel
theorem dX2_stealPlace_37 : decode cX2_stealPlace 37 = .ok (.iload 5, 2) := by decide +kernel
theorem dX2_stealPlace_39 : decode cX2_stealPlace 39 = .ok (.iload_n 2, 1) := by decide +kernel
theorem dX2_stealPlace_40 : decode cX2_stealPlace 40 = .ok (.if_icmp .ne 12, 3) := by decide +kernel
theorem dX2_stealPlace_43 : decode cX2_stealPlace 43 = .ok (.iload 4, 2) := by decide +kernel
theorem dX2_stealPlace_45 : decode cX2_stealPlace 45 = .ok (.iload_n 1, 1) := by decide +kernel
theorem dX2_stealPlace_46 : decode cX2_stealPlace 46 = .ok (.if_icmp .ge 6, 3) := by decide +kernel
theorem dX2_stealPlace_49 : decode cX2_stealPlace 49 = .ok (.iinc 3 1, 3) := by decide +kernel
theorem dX2_stealPlace_52 : decode cX2_stealPlace 52 = .ok (.iinc 4 1, 3) := by decide +kernel
theorem dX2_stealPlace_55 : decode cX2_stealPlace 55 = .ok (.goto (-44), 3) := by decide +kernel
theorem dX2_stealPlace_58 : decode cX2_stealPlace 58 = .ok (.iload_n 3, 1) := by decide +kernel
theorem dX2_stealPlace_59 : decode cX2_stealPlace 59 = .ok (.ireturn, 1) := by decide +kernel
set_option maxRecDepth 20000 in
theorem ggX2_stealRank_X2_number : GoodIn wsX2_stealRank wsX2_number := goodIn_r _ [6, 7, 16, 17, 18, 19, 20] (by decide +kernel) (by decide +kernel)
set_option maxRecDepth 20000 in
theorem gX2_stealRank_X2_number : GoodIn wsX2_stealRank (wsV RX2 45 RX2 yX2_number wsX2_number) := goodIn_app (goodIn_of _ (by decide +kernel)) ggX2_stealRank_X2_number
set_option maxRecDepth 20000 in
theorem ggX2_stealRank_X4_get : GoodIn wsX2_stealRank wsX4_get := goodIn_r _ [12, 13, 14, 15, 21, 22, 23] (by decide +kernel) (by decide +kernel)
set_option maxRecDepth 20000 in
theorem gX2_stealRank_X4_get : GoodIn wsX2_stealRank (wsV RX2 67 RX4 yX4_get wsX4_get) := goodIn_app (goodIn_of _ (by decide +kernel)) ggX2_stealRank_X4_get
theorem dX2_stealRank_0 : decode cX2_stealRank 0 = .ok (.aload_n 0, 1) := by decide +kernel
theorem dX2_stealRank_1 : decode cX2_stealRank 1 = .ok (.bipush 7, 2) := by decide +kernel
theorem dX2_stealRank_3 : decode cX2_stealRank 3 = .ok (.invokevirtual 45, 3) := by decide +kernel
theorem dX2_stealRank_6 : decode cX2_stealRank 6 = .ok (.lookupswitch 47 #[(0, 26), (1, 37)], 26) := by decide +kernel
theorem dX2_stealRank_32 : decode cX2_stealRank 32 = .ok (.aload_n 0, 1) := by decide +kernel
theorem dX2_stealRank_33 : decode cX2_stealRank 33 = .ok (.getfield 20, 3) := by decide +kernel
theorem dX2_stealRank_36 : decode cX2_stealRank 36 = .ok (.iload_n 1, 1) := by decide +kernel
theorem dX2_stealRank_37 : decode cX2_stealRank 37 = .ok (.iconst 4, 1) := by decide +kernel
theorem dX2_stealRank_38 : decode cX2_stealRank 38 = .ok (.invokevirtual 67, 3) := by decide +kernel
theorem dX2_stealRank_41 : decode cX2_stealRank 41 = .ok (.ineg, 1) := by decide +kernel
theorem dX2_stealRank_42 : decode cX2_stealRank 42 = .ok (.ireturn, 1) := by decide +kernel
theorem dX2_stealRank_43 : decode cX2_stealRank 43 = .ok (.aload_n 0, 1) := by decide +kernel
theorem dX2_stealRank_44 : decode cX2_stealRank 44 = .ok (.getfield 20, 3) := by decide +kernel
theorem dX2_stealRank_47 : decode cX2_stealRank 47 = .ok (.iload_n 1, 1) := by decide +kernel
theorem dX2_stealRank_48 : decode cX2_stealRank 48 = .ok (.iconst 3, 1) := by decide +kernel
theorem dX2_stealRank_49 : decode cX2_stealRank 49 = .ok (.invokevirtual 67, 3) := by decide +kernel
theorem dX2_stealRank_52 : decode cX2_stealRank 52 = .ok (.ireturn, 1) := by decide +kernel
theorem dX2_stealRank_53 : decode cX2_stealRank 53 = .ok (.aload_n 0, 1) := by decide +kernel
theorem dX2_stealRank_54 : decode cX2_stealRank 54 = .ok (.getfield 20, 3) := by decide +kernel
theorem dX2_stealRank_57 : decode cX2_stealRank 57 = .ok (.iload_n 1, 1) := by decide +kernel
theorem dX2_stealRank_58 : decode cX2_stealRank 58 = .ok (.iconst 5, 1) := by decide +kernel
theorem dX2_stealRank_59 : decode cX2_stealRank 59 = .ok (.invokevirtual 67, 3) := by decide +kernel
theorem dX2_stealRank_62 : decode cX2_stealRank 62 = .ok (.ineg, 1) := by decide +kernel
theorem dX2_stealRank_63 : decode cX2_stealRank 63 = .ok (.ireturn, 1) := by decide +kernel
set_option maxRecDepth 20000 in
theorem ggX2_release_X2_moveHeld : GoodIn wsX2_release wsX2_moveHeld := goodIn_r _ [6, 7, 8, 9, 10, 11, 12, 13, 14, 15, 16, 17, 18, 19, 20, 21, 22, 23, 24, 25, 26, 27, 28, 29, 30, 31] (by decide +kernel) (by decide +kernel)
set_option maxRecDepth 20000 in
theorem gX2_release_X2_moveHeld : GoodIn wsX2_release (wsV RX2 85 RX2 yX2_moveHeld wsX2_moveHeld) := goodIn_app (goodIn_of _ (by decide +kernel)) ggX2_release_X2_moveHeld
theorem dX2_release_0 : decode cX2_release 0 = .ok (.aload_n 0, 1) := by decide +kernel
theorem dX2_release_1 : decode cX2_release 1 = .ok (.iload_n 1, 1) := by decide +kernel
theorem dX2_release_2 : decode cX2_release 2 = .ok (.aload_n 0, 1) := by decide +kernel
theorem dX2_release_3 : decode cX2_release 3 = .ok (.getfield 37, 3) := by decide +kernel
theorem dX2_release_6 : decode cX2_release 6 = .ok (.ifCond .eq 7, 3) := by decide +kernel
theorem dX2_release_9 : decode cX2_release 9 = .ok (.iconst 1, 1) := by decide +kernel
theorem dX2_release_10 : decode cX2_release 10 = .ok (.goto 4, 3) := by decide +kernel
theorem dX2_release_13 : decode cX2_release 13 = .ok (.iconst 2, 1) := by decide +kernel
theorem dX2_release_14 : decode cX2_release 14 = .ok (.invokevirtual 85, 3) := by decide +kernel
theorem dX2_release_17 : decode cX2_release 17 = .ok (.ireturn, 1) := by decide +kernel
set_option maxRecDepth 20000 in
theorem ggX2_moveHeld_X4_rows : GoodIn wsX2_moveHeld wsX4_rows := goodIn_r _ [6, 7, 23, 24, 25] (by decide +kernel) (by decide +kernel)
set_option maxRecDepth 20000 in
theorem gX2_moveHeld_X4_rows : GoodIn wsX2_moveHeld (wsV RX2 64 RX4 yX4_rows wsX4_rows) := goodIn_app (goodIn_of _ (by decide +kernel)) ggX2_moveHeld_X4_rows
set_option maxRecDepth 20000 in
theorem ggX2_moveHeld_X4_get : GoodIn wsX2_moveHeld wsX4_get := goodIn_r _ [11, 7, 12, 13, 23, 24, 25] (by decide +kernel) (by decide +kernel)
set_option maxRecDepth 20000 in
theorem gX2_moveHeld_X4_get : GoodIn wsX2_moveHeld (wsV RX2 67 RX4 yX4_get wsX4_get) := goodIn_app (goodIn_of _ (by decide +kernel)) ggX2_moveHeld_X4_get
set_option maxRecDepth 20000 in
theorem ggX2_moveHeld_X4_put : GoodIn wsX2_moveHeld wsX4_put := goodIn_r _ [17, 7, 12, 13, 23, 24, 25] (by decide +kernel) (by decide +kernel)
set_option maxRecDepth 20000 in
theorem gX2_moveHeld_X4_put : GoodIn wsX2_moveHeld (wsV RX2 56 RX4 yX4_put wsX4_put) := goodIn_app (goodIn_of _ (by decide +kernel)) ggX2_moveHeld_X4_put
theorem dX2_moveHeld_0 : decode cX2_moveHeld 0 = .ok (.iconst 0, 1) := by decide +kernel
theorem dX2_moveHeld_1 : decode cX2_moveHeld 1 = .ok (.istore_n 3, 1) := by decide +kernel
theorem dX2_moveHeld_2 : decode cX2_moveHeld 2 = .ok (.iconst 0, 1) := by decide +kernel
theorem dX2_moveHeld_3 : decode cX2_moveHeld 3 = .ok (.istore 4, 2) := by decide +kernel
theorem dX2_moveHeld_5 : decode cX2_moveHeld 5 = .ok (.iload 4, 2) := by decide +kernel
theorem dX2_moveHeld_7 : decode cX2_moveHeld 7 = .ok (.aload_n 0, 1) := by decide +kernel
theorem dX2_moveHeld_8 : decode cX2_moveHeld 8 = .ok (.getfield 20, 3) := by decide +kernel
theorem dX2_moveHeld_11 : decode cX2_moveHeld 11 = .ok (.invokevirtual 64, 3) := by decide +kernel
theorem dX2_moveHeld_14 : decode cX2_moveHeld 14 = .ok (.if_icmp .ge 50, 3) := by decide +kernel
theorem dX2_moveHeld_17 : decode cX2_moveHeld 17 = .ok (.aload_n 0, 1) := by decide +kernel
theorem dX2_moveHeld_18 : decode cX2_moveHeld 18 = .ok (.getfield 20, 3) := by decide +kernel
theorem dX2_moveHeld_21 : decode cX2_moveHeld 21 = .ok (.iload 4, 2) := by decide +kernel
theorem dX2_moveHeld_23 : decode cX2_moveHeld 23 = .ok (.iconst 1, 1) := by decide +kernel
theorem dX2_moveHeld_24 : decode cX2_moveHeld 24 = .ok (.invokevirtual 67, 3) := by decide +kernel
theorem dX2_moveHeld_27 : decode cX2_moveHeld 27 = .ok (.iload_n 1, 1) := by decide +kernel
theorem dX2_moveHeld_28 : decode cX2_moveHeld 28 = .ok (.if_icmp .ne 30, 3) := by decide +kernel
theorem dX2_moveHeld_31 : decode cX2_moveHeld 31 = .ok (.aload_n 0, 1) := by decide +kernel
theorem dX2_moveHeld_32 : decode cX2_moveHeld 32 = .ok (.getfield 20, 3) := by decide +kernel
theorem dX2_moveHeld_35 : decode cX2_moveHeld 35 = .ok (.iload 4, 2) := by decide +kernel
theorem dX2_moveHeld_37 : decode cX2_moveHeld 37 = .ok (.iconst 5, 1) := by decide +kernel
theorem dX2_moveHeld_38 : decode cX2_moveHeld 38 = .ok (.invokevirtual 67, 3) := by decide +kernel
theorem dX2_moveHeld_41 : decode cX2_moveHeld 41 = .ok (.ifCond .ne 17, 3) := by decide +kernel
theorem dX2_moveHeld_44 : decode cX2_moveHeld 44 = .ok (.aload_n 0, 1) := by decide +kernel
theorem dX2_moveHeld_45 : decode cX2_moveHeld 45 = .ok (.getfield 20, 3) := by decide +kernel
theorem dX2_moveHeld_48 : decode cX2_moveHeld 48 = .ok (.iload 4, 2) := by decide +kernel
theorem dX2_moveHeld_50 : decode cX2_moveHeld 50 = .ok (.iconst 5, 1) := by decide +kernel
theorem dX2_moveHeld_51 : decode cX2_moveHeld 51 = .ok (.iload_n 2, 1) := by decide +kernel
theorem dX2_moveHeld_52 : decode cX2_moveHeld 52 = .ok (.invokevirtual 56, 3) := by decide +kernel
theorem dX2_moveHeld_55 : decode cX2_moveHeld 55 = .ok (.iinc 3 1, 3) := by decide +kernel
theorem dX2_moveHeld_58 : decode cX2_moveHeld 58 = .ok (.iinc 4 1, 3) := by decide +kernel
theorem dX2_moveHeld_61 : decode cX2_moveHeld 61 = .ok (.goto (-56), 3) := by decide +kernel
theorem dX2_moveHeld_64 : decode cX2_moveHeld 64 = .ok (.iload_n 3, 1) := by decide +kernel
theorem dX2_moveHeld_65 : decode cX2_moveHeld 65 = .ok (.ireturn, 1) := by decide +kernel
set_option maxRecDepth 20000 in
theorem ggX2_tread_X4_rows : GoodIn wsX2_tread wsX4_rows := goodIn_r _ [7, 8, 24, 25, 26] (by decide +kernel) (by decide +kernel)
set_option maxRecDepth 20000 in
theorem gX2_tread_X4_rows : GoodIn wsX2_tread (wsV RX2 64 RX4 yX4_rows wsX4_rows) := goodIn_app (goodIn_of _ (by decide +kernel)) ggX2_tread_X4_rows
set_option maxRecDepth 20000 in
theorem ggX2_tread_X4_get : GoodIn wsX2_tread wsX4_get := goodIn_r _ [12, 8, 13, 14, 24, 25, 26] (by decide +kernel) (by decide +kernel)
set_option maxRecDepth 20000 in
theorem gX2_tread_X4_get : GoodIn wsX2_tread (wsV RX2 67 RX4 yX4_get wsX4_get) := goodIn_app (goodIn_of _ (by decide +kernel)) ggX2_tread_X4_get
set_option maxRecDepth 20000 in
theorem ggX2_tread_X4_put : GoodIn wsX2_tread wsX4_put := goodIn_r _ [18, 8, 13, 14, 24, 25, 26] (by decide +kernel) (by decide +kernel)
set_option maxRecDepth 20000 in
theorem gX2_tread_X4_put : GoodIn wsX2_tread (wsV RX2 56 RX4 yX4_put wsX4_put) := goodIn_app (goodIn_of _ (by decide +kernel)) ggX2_tread_X4_put
theorem dX2_tread_0 : decode cX2_tread 0 = .ok (.aload_n 0, 1) := by decide +kernel
theorem dX2_tread_1 : decode cX2_tread 1 = .ok (.aload_n 0, 1) := by decide +kernel
theorem dX2_tread_2 : decode cX2_tread 2 = .ok (.getfield 37, 3) := by decide +kernel
theorem dX2_tread_5 : decode cX2_tread 5 = .ok (.ifCond .ne 7, 3) := by decide +kernel
theorem dX2_tread_8 : decode cX2_tread 8 = .ok (.iconst 1, 1) := by decide +kernel
theorem dX2_tread_9 : decode cX2_tread 9 = .ok (.goto 4, 3) := by decide +kernel
theorem dX2_tread_12 : decode cX2_tread 12 = .ok (.iconst 0, 1) := by decide +kernel
theorem dX2_tread_13 : decode cX2_tread 13 = .ok (.putfield 37, 3) := by decide +kernel
theorem dX2_tread_16 : decode cX2_tread 16 = .ok (.aload_n 0, 1) := by decide +kernel
theorem dX2_tread_17 : decode cX2_tread 17 = .ok (.getfield 37, 3) := by decide +kernel
theorem dX2_tread_20 : decode cX2_tread 20 = .ok (.ifCond .eq 5, 3) := by decide +kernel
theorem dX2_tread_23 : decode cX2_tread 23 = .ok (.iconst 0, 1) := by decide +kernel
theorem dX2_tread_24 : decode cX2_tread 24 = .ok (.ireturn, 1) := by decide +kernel
theorem dX2_tread_25 : decode cX2_tread 25 = .ok (.iconst 0, 1) := by decide +kernel
theorem dX2_tread_26 : decode cX2_tread 26 = .ok (.istore_n 1, 1) := by decide +kernel
theorem dX2_tread_27 : decode cX2_tread 27 = .ok (.iconst 0, 1) := by decide +kernel
theorem dX2_tread_28 : decode cX2_tread 28 = .ok (.istore_n 2, 1) := by decide +kernel
theorem dX2_tread_29 : decode cX2_tread 29 = .ok (.iload_n 2, 1) := by decide +kernel
theorem dX2_tread_30 : decode cX2_tread 30 = .ok (.aload_n 0, 1) := by decide +kernel
theorem dX2_tread_31 : decode cX2_tread 31 = .ok (.getfield 20, 3) := by decide +kernel
theorem dX2_tread_34 : decode cX2_tread 34 = .ok (.invokevirtual 64, 3) := by decide +kernel
theorem dX2_tread_37 : decode cX2_tread 37 = .ok (.if_icmp .ge 35, 3) := by decide +kernel
theorem dX2_tread_40 : decode cX2_tread 40 = .ok (.aload_n 0, 1) := by decide +kernel
theorem dX2_tread_41 : decode cX2_tread 41 = .ok (.getfield 20, 3) := by decide +kernel
theorem dX2_tread_44 : decode cX2_tread 44 = .ok (.iload_n 2, 1) := by decide +kernel
theorem dX2_tread_45 : decode cX2_tread 45 = .ok (.iconst 5, 1) := by decide +kernel
theorem dX2_tread_46 : decode cX2_tread 46 = .ok (.invokevirtual 67, 3) := by decide +kernel
theorem dX2_tread_49 : decode cX2_tread 49 = .ok (.iconst 1, 1) := by decide +kernel
theorem dX2_tread_50 : decode cX2_tread 50 = .ok (.if_icmp .ne 16, 3) := by decide +kernel
theorem dX2_tread_53 : decode cX2_tread 53 = .ok (.aload_n 0, 1) := by decide +kernel
theorem dX2_tread_54 : decode cX2_tread 54 = .ok (.getfield 20, 3) := by decide +kernel
theorem dX2_tread_57 : decode cX2_tread 57 = .ok (.iload_n 2, 1) := by decide +kernel
theorem dX2_tread_58 : decode cX2_tread 58 = .ok (.iconst 5, 1) := by decide +kernel
theorem dX2_tread_59 : decode cX2_tread 59 = .ok (.iconst 2, 1) := by decide +kernel
theorem dX2_tread_60 : decode cX2_tread 60 = .ok (.invokevirtual 56, 3) := by decide +kernel
theorem dX2_tread_63 : decode cX2_tread 63 = .ok (.iinc 1 1, 3) := by decide +kernel
theorem dX2_tread_66 : decode cX2_tread 66 = .ok (.iinc 2 1, 3) := by decide +kernel
theorem dX2_tread_69 : decode cX2_tread 69 = .ok (.goto (-40), 3) := by decide +kernel
theorem dX2_tread_72 : decode cX2_tread 72 = .ok (.iload_n 1, 1) := by decide +kernel
theorem dX2_tread_73 : decode cX2_tread 73 = .ok (.ireturn, 1) := by decide +kernel
set_option maxRecDepth 20000 in
theorem ggX2_runTicks_X2_number : GoodIn wsX2_runTicks wsX2_number := goodIn_r _ [6, 7, 49, 50, 51, 52, 53] (by decide +kernel) (by decide +kernel)
set_option maxRecDepth 20000 in
theorem gX2_runTicks_X2_number : GoodIn wsX2_runTicks (wsV RX2 45 RX2 yX2_number wsX2_number) := goodIn_app (goodIn_of _ (by decide +kernel)) ggX2_runTicks_X2_number
set_option maxRecDepth 20000 in
theorem ggX2_runTicks_X4_rows : GoodIn wsX2_runTicks wsX4_rows := goodIn_r _ [12, 13, 54, 55, 56] (by decide +kernel) (by decide +kernel)
set_option maxRecDepth 20000 in
theorem gX2_runTicks_X4_rows : GoodIn wsX2_runTicks (wsV RX2 64 RX4 yX4_rows wsX4_rows) := goodIn_app (goodIn_of _ (by decide +kernel)) ggX2_runTicks_X4_rows
set_option maxRecDepth 20000 in
theorem ggX2_runTicks_X2_wear : GoodIn wsX2_runTicks wsX2_wear := goodIn_r _ [17, 1, 18, 19, 20, 21, 11, 22, 13, 23, 24, 25, 26, 27, 5, 28, 2, 3, 4, 6, 7, 29, 30, 31, 32, 33, 34, 35, 36, 37, 38, 39, 40, 41, 42, 43, 44, 45, 46, 47, 48, 49, 50, 51, 52, 53, 54, 55, 56] (by decide +kernel) (by decide +kernel)
set_option maxRecDepth 20000 in
theorem gX2_runTicks_X2_wear : GoodIn wsX2_runTicks (wsV RX2 103 RX2 yX2_wear wsX2_wear) := goodIn_app (goodIn_of _ (by decide +kernel)) ggX2_runTicks_X2_wear
set_option maxRecDepth 20000 in
theorem ggX2_runTicks_X2_grow : GoodIn wsX2_runTicks wsX2_grow := goodIn_r _ [44, 2, 3, 4, 5, 6, 7, 45, 46, 47, 48, 49, 50, 51, 52, 53] (by decide +kernel) (by decide +kernel)
set_option maxRecDepth 20000 in
theorem gX2_runTicks_X2_grow : GoodIn wsX2_runTicks (wsV RX2 75 RX2 yX2_grow wsX2_grow) := goodIn_app (goodIn_of _ (by decide +kernel)) ggX2_runTicks_X2_grow
theorem dX2_runTicks_0 : decode cX2_runTicks 0 = .ok (.aload_n 0, 1) := by decide +kernel
theorem dX2_runTicks_1 : decode cX2_runTicks 1 = .ok (.iconst 2, 1) := by decide +kernel
theorem dX2_runTicks_2 : decode cX2_runTicks 2 = .ok (.invokevirtual 45, 3) := by decide +kernel
theorem dX2_runTicks_5 : decode cX2_runTicks 5 = .ok (.istore_n 2, 1) := by decide +kernel
theorem dX2_runTicks_6 : decode cX2_runTicks 6 = .ok (.iconst 0, 1) := by decide +kernel
theorem dX2_runTicks_7 : decode cX2_runTicks 7 = .ok (.istore_n 3, 1) := by decide +kernel
theorem dX2_runTicks_8 : decode cX2_runTicks 8 = .ok (.iload_n 3, 1) := by decide +kernel
theorem dX2_runTicks_9 : decode cX2_runTicks 9 = .ok (.iload_n 1, 1) := by decide +kernel
theorem dX2_runTicks_10 : decode cX2_runTicks 10 = .ok (.if_icmp .ge 37, 3) := by decide +kernel
theorem dX2_runTicks_13 : decode cX2_runTicks 13 = .ok (.aload_n 0, 1) := by decide +kernel
theorem dX2_runTicks_14 : decode cX2_runTicks 14 = .ok (.getfield 20, 3) := by decide +kernel
theorem dX2_runTicks_17 : decode cX2_runTicks 17 = .ok (.invokevirtual 64, 3) := by decide +kernel
theorem dX2_runTicks_20 : decode cX2_runTicks 20 = .ok (.iconst 1, 1) := by decide +kernel
theorem dX2_runTicks_21 : decode cX2_runTicks 21 = .ok (.isub, 1) := by decide +kernel
theorem dX2_runTicks_22 : decode cX2_runTicks 22 = .ok (.istore 4, 2) := by decide +kernel
theorem dX2_runTicks_24 : decode cX2_runTicks 24 = .ok (.iload 4, 2) := by decide +kernel
theorem dX2_runTicks_26 : decode cX2_runTicks 26 = .ok (.ifCond .lt 15, 3) := by decide +kernel
theorem dX2_runTicks_29 : decode cX2_runTicks 29 = .ok (.aload_n 0, 1) := by decide +kernel
theorem dX2_runTicks_30 : decode cX2_runTicks 30 = .ok (.iload 4, 2) := by decide +kernel
theorem dX2_runTicks_32 : decode cX2_runTicks 32 = .ok (.invokevirtual 103, 3) := by decide +kernel
theorem dX2_runTicks_35 : decode cX2_runTicks 35 = .ok (.iinc 4 (-1), 3) := by decide +kernel
theorem dX2_runTicks_38 : decode cX2_runTicks 38 = .ok (.goto (-14), 3) := by decide +kernel
theorem dX2_runTicks_41 : decode cX2_runTicks 41 = .ok (.iinc 3 1, 3) := by decide +kernel
theorem dX2_runTicks_44 : decode cX2_runTicks 44 = .ok (.goto (-36), 3) := by decide +kernel
theorem dX2_runTicks_47 : decode cX2_runTicks 47 = .ok (.aload_n 0, 1) := by decide +kernel
theorem dX2_runTicks_48 : decode cX2_runTicks 48 = .ok (.iconst 0, 1) := by decide +kernel
theorem dX2_runTicks_49 : decode cX2_runTicks 49 = .ok (.iload_n 1, 1) := by decide +kernel
theorem dX2_runTicks_50 : decode cX2_runTicks 50 = .ok (.invokevirtual 75, 3) := by decide +kernel
theorem dX2_runTicks_53 : decode cX2_runTicks 53 = .ok (.aload_n 0, 1) := by decide +kernel
theorem dX2_runTicks_54 : decode cX2_runTicks 54 = .ok (.iconst 2, 1) := by decide +kernel
theorem dX2_runTicks_55 : decode cX2_runTicks 55 = .ok (.invokevirtual 45, 3) := by decide +kernel
theorem dX2_runTicks_58 : decode cX2_runTicks 58 = .ok (.iload_n 2, 1) := by decide +kernel
theorem dX2_runTicks_59 : decode cX2_runTicks 59 = .ok (.isub, 1) := by decide +kernel
theorem dX2_runTicks_60 : decode cX2_runTicks 60 = .ok (.ireturn, 1) := by decide +kernel
set_option maxRecDepth 20000 in
theorem ggX2_wear_X4_get : GoodIn wsX2_wear wsX4_get := goodIn_r _ [7, 8, 9, 10, 46, 47, 48] (by decide +kernel) (by decide +kernel)
set_option maxRecDepth 20000 in
theorem gX2_wear_X4_get : GoodIn wsX2_wear (wsV RX2 67 RX4 yX4_get wsX4_get) := goodIn_app (goodIn_of _ (by decide +kernel)) ggX2_wear_X4_get
set_option maxRecDepth 20000 in
theorem ggX2_wear_X2_fadeOf : GoodIn wsX2_wear wsX2_fadeOf := goodIn_r _ [15, 1, 3, 4, 5, 6, 7, 8, 9, 10, 16, 17, 18, 14, 19, 20, 41, 42, 43, 44, 45, 46, 47, 48] (by decide +kernel) (by decide +kernel)
set_option maxRecDepth 20000 in
theorem gX2_wear_X2_fadeOf : GoodIn wsX2_wear (wsV RX2 106 RX2 yX2_fadeOf wsX2_fadeOf) := goodIn_app (goodIn_of _ (by decide +kernel)) ggX2_wear_X2_fadeOf
set_option maxRecDepth 20000 in
theorem ggX2_wear_X4_put : GoodIn wsX2_wear wsX4_put := goodIn_r _ [24, 8, 9, 10, 46, 47, 48] (by decide +kernel) (by decide +kernel)
set_option maxRecDepth 20000 in
theorem gX2_wear_X4_put : GoodIn wsX2_wear (wsV RX2 56 RX4 yX4_put wsX4_put) := goodIn_app (goodIn_of _ (by decide +kernel)) ggX2_wear_X4_put
set_option maxRecDepth 20000 in
theorem ggX2_wear_X4_removeRow : GoodIn wsX2_wear wsX4_removeRow := goodIn_r _ [28, 9, 10, 8, 29, 30, 31, 6, 32, 46, 47, 48] (by decide +kernel) (by decide +kernel)
set_option maxRecDepth 20000 in
theorem gX2_wear_X4_removeRow : GoodIn wsX2_wear (wsV RX2 71 RX4 yX4_removeRow wsX4_removeRow) := goodIn_app (goodIn_of _ (by decide +kernel)) ggX2_wear_X4_removeRow
set_option maxRecDepth 20000 in
theorem ggX2_wear_X2_grow : GoodIn wsX2_wear wsX2_grow := goodIn_r _ [36, 16, 17, 18, 14, 19, 20, 37, 38, 39, 40, 41, 42, 43, 44, 45] (by decide +kernel) (by decide +kernel)
set_option maxRecDepth 20000 in
theorem gX2_wear_X2_grow : GoodIn wsX2_wear (wsV RX2 75 RX2 yX2_grow wsX2_grow) := goodIn_app (goodIn_of _ (by decide +kernel)) ggX2_wear_X2_grow
theorem dX2_wear_0 : decode cX2_wear 0 = .ok (.aload_n 0, 1) := by decide +kernel
theorem dX2_wear_1 : decode cX2_wear 1 = .ok (.getfield 20, 3) := by decide +kernel
theorem dX2_wear_4 : decode cX2_wear 4 = .ok (.iload_n 1, 1) := by decide +kernel
theorem dX2_wear_5 : decode cX2_wear 5 = .ok (.iconst 4, 1) := by decide +kernel
theorem dX2_wear_6 : decode cX2_wear 6 = .ok (.invokevirtual 67, 3) := by decide +kernel
theorem dX2_wear_9 : decode cX2_wear 9 = .ok (.iconst 1, 1) := by decide +kernel
theorem dX2_wear_10 : decode cX2_wear 10 = .ok (.iadd, 1) := by decide +kernel
theorem dX2_wear_11 : decode cX2_wear 11 = .ok (.istore_n 2, 1) := by decide +kernel
theorem dX2_wear_12 : decode cX2_wear 12 = .ok (.aload_n 0, 1) := by decide +kernel
theorem dX2_wear_13 : decode cX2_wear 13 = .ok (.getfield 20, 3) := by decide +kernel
theorem dX2_wear_16 : decode cX2_wear 16 = .ok (.iload_n 1, 1) := by decide +kernel
theorem dX2_wear_17 : decode cX2_wear 17 = .ok (.iconst 3, 1) := by decide +kernel
theorem dX2_wear_18 : decode cX2_wear 18 = .ok (.invokevirtual 67, 3) := by decide +kernel
theorem dX2_wear_21 : decode cX2_wear 21 = .ok (.aload_n 0, 1) := by decide +kernel
theorem dX2_wear_22 : decode cX2_wear 22 = .ok (.iload_n 1, 1) := by decide +kernel
theorem dX2_wear_23 : decode cX2_wear 23 = .ok (.invokevirtual 106, 3) := by decide +kernel
theorem dX2_wear_26 : decode cX2_wear 26 = .ok (.isub, 1) := by decide +kernel
theorem dX2_wear_27 : decode cX2_wear 27 = .ok (.istore_n 3, 1) := by decide +kernel
theorem dX2_wear_28 : decode cX2_wear 28 = .ok (.aload_n 0, 1) := by decide +kernel
theorem dX2_wear_29 : decode cX2_wear 29 = .ok (.getfield 20, 3) := by decide +kernel
theorem dX2_wear_32 : decode cX2_wear 32 = .ok (.iload_n 1, 1) := by decide +kernel
theorem dX2_wear_33 : decode cX2_wear 33 = .ok (.iconst 4, 1) := by decide +kernel
theorem dX2_wear_34 : decode cX2_wear 34 = .ok (.iload_n 2, 1) := by decide +kernel
theorem dX2_wear_35 : decode cX2_wear 35 = .ok (.invokevirtual 56, 3) := by decide +kernel
theorem dX2_wear_38 : decode cX2_wear 38 = .ok (.aload_n 0, 1) := by decide +kernel
theorem dX2_wear_39 : decode cX2_wear 39 = .ok (.getfield 20, 3) := by decide +kernel
theorem dX2_wear_42 : decode cX2_wear 42 = .ok (.iload_n 1, 1) := by decide +kernel
theorem dX2_wear_43 : decode cX2_wear 43 = .ok (.iconst 3, 1) := by decide +kernel
theorem dX2_wear_44 : decode cX2_wear 44 = .ok (.iload_n 3, 1) := by decide +kernel
theorem dX2_wear_45 : decode cX2_wear 45 = .ok (.invokevirtual 56, 3) := by decide +kernel
theorem dX2_wear_48 : decode cX2_wear 48 = .ok (.iload_n 3, 1) := by decide +kernel
theorem dX2_wear_49 : decode cX2_wear 49 = .ok (.ifCond .le 25, 3) := by decide +kernel
theorem dX2_wear_52 : decode cX2_wear 52 = .ok (.iload_n 2, 1) := by decide +kernel
theorem dX2_wear_53 : decode cX2_wear 53 = .ok (.aload_n 0, 1) := by decide +kernel
theorem dX2_wear_54 : decode cX2_wear 54 = .ok (.getfield 14, 3) := by decide +kernel
theorem dX2_wear_57 : decode cX2_wear 57 = .ok (.aload_n 0, 1) := by decide +kernel
theorem dX2_wear_58 : decode cX2_wear 58 = .ok (.getfield 20, 3) := by decide +kernel
theorem dX2_wear_61 : decode cX2_wear 61 = .ok (.iload_n 1, 1) := by decide +kernel
theorem dX2_wear_62 : decode cX2_wear 62 = .ok (.iconst 0, 1) := by decide +kernel
theorem dX2_wear_63 : decode cX2_wear 63 = .ok (.invokevirtual 67, 3) := by decide +kernel
theorem dX2_wear_66 : decode cX2_wear 66 = .ok (.bipush 6, 2) := by decide +kernel
theorem dX2_wear_68 : decode cX2_wear 68 = .ok (.invokevirtual 67, 3) := by decide +kernel
theorem dX2_wear_71 : decode cX2_wear 71 = .ok (.if_icmp .lt 17, 3) := by decide +kernel
theorem dX2_wear_74 : decode cX2_wear 74 = .ok (.aload_n 0, 1) := by decide +kernel
theorem dX2_wear_75 : decode cX2_wear 75 = .ok (.getfield 20, 3) := by decide +kernel
theorem dX2_wear_78 : decode cX2_wear 78 = .ok (.iload_n 1, 1) := by decide +kernel
theorem dX2_wear_79 : decode cX2_wear 79 = .ok (.invokevirtual 71, 3) := by decide +kernel
theorem dX2_wear_82 : decode cX2_wear 82 = .ok (.aload_n 0, 1) := by decide +kernel
theorem dX2_wear_83 : decode cX2_wear 83 = .ok (.iconst 2, 1) := by decide +kernel
theorem dX2_wear_84 : decode cX2_wear 84 = .ok (.iconst 1, 1) := by decide +kernel
theorem dX2_wear_85 : decode cX2_wear 85 = .ok (.invokevirtual 75, 3) := by decide +kernel
theorem dX2_wear_88 : decode cX2_wear 88 = .ok (.return_, 1) := by decide +kernel
set_option maxRecDepth 20000 in
theorem ggX2_fadeOf_X4_get : GoodIn wsX2_fadeOf wsX4_get := goodIn_r _ [6, 7, 8, 9, 21, 22, 23] (by decide +kernel) (by decide +kernel)
set_option maxRecDepth 20000 in
theorem gX2_fadeOf_X4_get : GoodIn wsX2_fadeOf (wsV RX2 67 RX4 yX4_get wsX4_get) := goodIn_app (goodIn_of _ (by decide +kernel)) ggX2_fadeOf_X4_get
set_option maxRecDepth 20000 in
theorem ggX2_fadeOf_X2_number : GoodIn wsX2_fadeOf wsX2_number := goodIn_r _ [14, 15, 16, 17, 18, 19, 20] (by decide +kernel) (by decide +kernel)
set_option maxRecDepth 20000 in
theorem gX2_fadeOf_X2_number : GoodIn wsX2_fadeOf (wsV RX2 45 RX2 yX2_number wsX2_number) := goodIn_app (goodIn_of _ (by decide +kernel)) ggX2_fadeOf_X2_number
theorem dX2_fadeOf_0 : decode cX2_fadeOf 0 = .ok (.aload_n 0, 1) := by decide +kernel
theorem dX2_fadeOf_1 : decode cX2_fadeOf 1 = .ok (.getfield 20, 3) := by decide +kernel
theorem dX2_fadeOf_4 : decode cX2_fadeOf 4 = .ok (.iload_n 1, 1) := by decide +kernel
theorem dX2_fadeOf_5 : decode cX2_fadeOf 5 = .ok (.iconst 5, 1) := by decide +kernel
theorem dX2_fadeOf_6 : decode cX2_fadeOf 6 = .ok (.invokevirtual 67, 3) := by decide +kernel
theorem dX2_fadeOf_9 : decode cX2_fadeOf 9 = .ok (.iconst 2, 1) := by decide +kernel
theorem dX2_fadeOf_10 : decode cX2_fadeOf 10 = .ok (.if_icmp .ne 12, 3) := by decide +kernel
theorem dX2_fadeOf_13 : decode cX2_fadeOf 13 = .ok (.aload_n 0, 1) := by decide +kernel
theorem dX2_fadeOf_14 : decode cX2_fadeOf 14 = .ok (.bipush 8, 2) := by decide +kernel
theorem dX2_fadeOf_16 : decode cX2_fadeOf 16 = .ok (.invokevirtual 45, 3) := by decide +kernel
theorem dX2_fadeOf_19 : decode cX2_fadeOf 19 = .ok (.goto 4, 3) := by decide +kernel
theorem dX2_fadeOf_22 : decode cX2_fadeOf 22 = .ok (.iconst 1, 1) := by decide +kernel
theorem dX2_fadeOf_23 : decode cX2_fadeOf 23 = .ok (.ireturn, 1) := by decide +kernel
set_option maxRecDepth 20000 in
theorem ggX2_ticksLeft_X2_fadeOf : GoodIn wsX2_ticksLeft wsX2_fadeOf := goodIn_r _ [14, 5, 15, 16, 17, 18, 19, 20, 21, 22, 23, 24, 25, 13, 26, 27, 28, 29, 30, 31, 32, 33, 34, 35] (by decide +kernel) (by decide +kernel)
set_option maxRecDepth 20000 in
theorem gX2_ticksLeft_X2_fadeOf : GoodIn wsX2_ticksLeft (wsV RX2 106 RX2 yX2_fadeOf wsX2_fadeOf) := goodIn_app (goodIn_of _ (by decide +kernel)) ggX2_ticksLeft_X2_fadeOf
set_option maxRecDepth 20000 in
theorem ggX2_ticksLeft_X4_get : GoodIn wsX2_ticksLeft wsX4_get := goodIn_r _ [19, 20, 21, 22, 33, 34, 35] (by decide +kernel) (by decide +kernel)
set_option maxRecDepth 20000 in
theorem gX2_ticksLeft_X4_get : GoodIn wsX2_ticksLeft (wsV RX2 67 RX4 yX4_get wsX4_get) := goodIn_app (goodIn_of _ (by decide +kernel)) ggX2_ticksLeft_X4_get
theorem dX2_ticksLeft_0 : decode cX2_ticksLeft 0 = .ok (.iconst 1, 1) := by decide +kernel
theorem dX2_ticksLeft_1 : decode cX2_ticksLeft 1 = .ok (.aload_n 0, 1) := by decide +kernel
theorem dX2_ticksLeft_2 : decode cX2_ticksLeft 2 = .ok (.iload_n 1, 1) := by decide +kernel
theorem dX2_ticksLeft_3 : decode cX2_ticksLeft 3 = .ok (.invokevirtual 106, 3) := by decide +kernel
theorem dX2_ticksLeft_6 : decode cX2_ticksLeft 6 = .ok (.invokestatic 109, 3) := by decide +kernel
theorem dX2_ticksLeft_9 : decode cX2_ticksLeft 9 = .ok (.istore_n 2, 1) := by decide +kernel
theorem dX2_ticksLeft_10 : decode cX2_ticksLeft 10 = .ok (.aload_n 0, 1) := by decide +kernel
theorem dX2_ticksLeft_11 : decode cX2_ticksLeft 11 = .ok (.getfield 20, 3) := by decide +kernel
theorem dX2_ticksLeft_14 : decode cX2_ticksLeft 14 = .ok (.iload_n 1, 1) := by decide +kernel
theorem dX2_ticksLeft_15 : decode cX2_ticksLeft 15 = .ok (.iconst 3, 1) := by decide +kernel
theorem dX2_ticksLeft_16 : decode cX2_ticksLeft 16 = .ok (.invokevirtual 67, 3) := by decide +kernel
theorem dX2_ticksLeft_19 : decode cX2_ticksLeft 19 = .ok (.iload_n 2, 1) := by decide +kernel
theorem dX2_ticksLeft_20 : decode cX2_ticksLeft 20 = .ok (.iadd, 1) := by decide +kernel
theorem dX2_ticksLeft_21 : decode cX2_ticksLeft 21 = .ok (.iconst 1, 1) := by decide +kernel
theorem dX2_ticksLeft_22 : decode cX2_ticksLeft 22 = .ok (.isub, 1) := by decide +kernel
theorem dX2_ticksLeft_23 : decode cX2_ticksLeft 23 = .ok (.iload_n 2, 1) := by decide +kernel
theorem dX2_ticksLeft_24 : decode cX2_ticksLeft 24 = .ok (.idiv, 1) := by decide +kernel
theorem dX2_ticksLeft_25 : decode cX2_ticksLeft 25 = .ok (.istore_n 3, 1) := by decide +kernel
theorem dX2_ticksLeft_26 : decode cX2_ticksLeft 26 = .ok (.aload_n 0, 1) := by decide +kernel
theorem dX2_ticksLeft_27 : decode cX2_ticksLeft 27 = .ok (.getfield 14, 3) := by decide +kernel
theorem dX2_ticksLeft_30 : decode cX2_ticksLeft 30 = .ok (.aload_n 0, 1) := by decide +kernel
theorem dX2_ticksLeft_31 : decode cX2_ticksLeft 31 = .ok (.getfield 20, 3) := by decide +kernel
theorem dX2_ticksLeft_34 : decode cX2_ticksLeft 34 = .ok (.iload_n 1, 1) := by decide +kernel
theorem dX2_ticksLeft_35 : decode cX2_ticksLeft 35 = .ok (.iconst 0, 1) := by decide +kernel
theorem dX2_ticksLeft_36 : decode cX2_ticksLeft 36 = .ok (.invokevirtual 67, 3) := by decide +kernel
theorem dX2_ticksLeft_39 : decode cX2_ticksLeft 39 = .ok (.bipush 6, 2) := by decide +kernel
theorem dX2_ticksLeft_41 : decode cX2_ticksLeft 41 = .ok (.invokevirtual 67, 3) := by decide +kernel
theorem dX2_ticksLeft_44 : decode cX2_ticksLeft 44 = .ok (.aload_n 0, 1) := by decide +kernel
theorem dX2_ticksLeft_45 : decode cX2_ticksLeft 45 = .ok (.getfield 20, 3) := by decide +kernel
theorem dX2_ticksLeft_48 : decode cX2_ticksLeft 48 = .ok (.iload_n 1, 1) := by decide +kernel
theorem dX2_ticksLeft_49 : decode cX2_ticksLeft 49 = .ok (.iconst 4, 1) := by decide +kernel
theorem dX2_ticksLeft_50 : decode cX2_ticksLeft 50 = .ok (.invokevirtual 67, 3) := by decide +kernel
theorem dX2_ticksLeft_53 : decode cX2_ticksLeft 53 = .ok (.isub, 1) := by decide +kernel
theorem dX2_ticksLeft_54 : decode cX2_ticksLeft 54 = .ok (.istore 4, 2) := by decide +kernel
theorem dX2_ticksLeft_56 : decode cX2_ticksLeft 56 = .ok (.iconst 1, 1) := by decide +kernel
theorem dX2_ticksLeft_57 : decode cX2_ticksLeft 57 = .ok (.iload_n 3, 1) := by decide +kernel
theorem dX2_ticksLeft_58 : decode cX2_ticksLeft 58 = .ok (.iload 4, 2) := by decide +kernel
theorem dX2_ticksLeft_60 : decode cX2_ticksLeft 60 = .ok (.invokestatic 114, 3) := by decide +kernel
theorem dX2_ticksLeft_63 : decode cX2_ticksLeft 63 = .ok (.invokestatic 109, 3) := by decide +kernel
theorem dX2_ticksLeft_66 : decode cX2_ticksLeft 66 = .ok (.ireturn, 1) := by decide +kernel
set_option maxRecDepth 20000 in
theorem ggX2_stopAll_X4_rows : GoodIn wsX2_stopAll wsX4_rows := goodIn_r _ [6, 7, 31, 32, 33] (by decide +kernel) (by decide +kernel)
set_option maxRecDepth 20000 in
theorem gX2_stopAll_X4_rows : GoodIn wsX2_stopAll (wsV RX2 64 RX4 yX4_rows wsX4_rows) := goodIn_app (goodIn_of _ (by decide +kernel)) ggX2_stopAll_X4_rows
set_option maxRecDepth 20000 in
theorem ggX2_stopAll_X4_removeAll : GoodIn wsX2_stopAll wsX4_removeAll := goodIn_r _ [11, 7, 31, 32, 33] (by decide +kernel) (by decide +kernel)
set_option maxRecDepth 20000 in
theorem gX2_stopAll_X4_removeAll : GoodIn wsX2_stopAll (wsV RX2 117 RX4 yX4_removeAll wsX4_removeAll) := goodIn_app (goodIn_of _ (by decide +kernel)) ggX2_stopAll_X4_removeAll
set_option maxRecDepth 20000 in
theorem ggX2_stopAll_X2_grow : GoodIn wsX2_stopAll wsX2_grow := goodIn_r _ [16, 17, 18, 19, 15, 20, 21, 22, 23, 24, 25, 26, 27, 28, 29, 30] (by decide +kernel) (by decide +kernel)
set_option maxRecDepth 20000 in
theorem gX2_stopAll_X2_grow : GoodIn wsX2_stopAll (wsV RX2 75 RX2 yX2_grow wsX2_grow) := goodIn_app (goodIn_of _ (by decide +kernel)) ggX2_stopAll_X2_grow
theorem dX2_stopAll_0 : decode cX2_stopAll 0 = .ok (.aload_n 0, 1) := by decide +kernel
theorem dX2_stopAll_1 : decode cX2_stopAll 1 = .ok (.getfield 20, 3) := by decide +kernel
theorem dX2_stopAll_4 : decode cX2_stopAll 4 = .ok (.invokevirtual 64, 3) := by decide +kernel
theorem dX2_stopAll_7 : decode cX2_stopAll 7 = .ok (.istore_n 1, 1) := by decide +kernel
theorem dX2_stopAll_8 : decode cX2_stopAll 8 = .ok (.aload_n 0, 1) := by decide +kernel
theorem dX2_stopAll_9 : decode cX2_stopAll 9 = .ok (.getfield 20, 3) := by decide +kernel
theorem dX2_stopAll_12 : decode cX2_stopAll 12 = .ok (.invokevirtual 117, 3) := by decide +kernel
theorem dX2_stopAll_15 : decode cX2_stopAll 15 = .ok (.aload_n 0, 1) := by decide +kernel
theorem dX2_stopAll_16 : decode cX2_stopAll 16 = .ok (.iconst 5, 1) := by decide +kernel
theorem dX2_stopAll_17 : decode cX2_stopAll 17 = .ok (.iload_n 1, 1) := by decide +kernel
theorem dX2_stopAll_18 : decode cX2_stopAll 18 = .ok (.invokevirtual 75, 3) := by decide +kernel
theorem dX2_stopAll_21 : decode cX2_stopAll 21 = .ok (.iload_n 1, 1) := by decide +kernel
theorem dX2_stopAll_22 : decode cX2_stopAll 22 = .ok (.ireturn, 1) := by decide +kernel
theorem dX3_init_0 : decode cX3_init 0 = .ok (.aload_n 0, 1) := by decide +kernel
theorem dX3_init_1 : decode cX3_init 1 = .ok (.invokespecial 3, 3) := by decide +kernel
theorem dX3_init_4 : decode cX3_init 4 = .ok (.aload_n 0, 1) := by decide +kernel
theorem dX3_init_5 : decode cX3_init 5 = .ok (.bipush 9, 2) := by decide +kernel
theorem dX3_init_7 : decode cX3_init 7 = .ok (.newarray .int, 2) := by decide +kernel
theorem dX3_init_9 : decode cX3_init 9 = .ok (.putfield 9, 3) := by decide +kernel
theorem dX3_init_12 : decode cX3_init 12 = .ok (.return_, 1) := by decide +kernel
theorem dX3_finding_0 : decode cX3_finding 0 = .ok (.iload_n 1, 1) := by decide +kernel
theorem dX3_finding_1 : decode cX3_finding 1 = .ok (.tableswitch 42 0 2 #[27, 32, 37], 27) := by decide +kernel
theorem dX3_finding_28 : decode cX3_finding 28 = .ok (.aload_n 0, 1) := by decide +kernel
theorem dX3_finding_29 : decode cX3_finding 29 = .ok (.getfield 15, 3) := by decide +kernel
theorem dX3_finding_32 : decode cX3_finding 32 = .ok (.ireturn, 1) := by decide +kernel
theorem dX3_finding_33 : decode cX3_finding 33 = .ok (.aload_n 0, 1) := by decide +kernel
theorem dX3_finding_34 : decode cX3_finding 34 = .ok (.getfield 19, 3) := by decide +kernel
theorem dX3_finding_37 : decode cX3_finding 37 = .ok (.ireturn, 1) := by decide +kernel
theorem dX3_finding_38 : decode cX3_finding 38 = .ok (.aload_n 0, 1) := by decide +kernel
theorem dX3_finding_39 : decode cX3_finding 39 = .ok (.getfield 22, 3) := by decide +kernel
theorem dX3_finding_42 : decode cX3_finding 42 = .ok (.ireturn, 1) := by decide +kernel
theorem dX3_finding_43 : decode cX3_finding 43 = .ok (.aload_n 0, 1) := by decide +kernel
theorem dX3_finding_44 : decode cX3_finding 44 = .ok (.getfield 25, 3) := by decide +kernel
theorem dX3_finding_47 : decode cX3_finding 47 = .ok (.ireturn, 1) := by decide +kernel
set_option maxRecDepth 20000 in
theorem ggX3_goByPlaces_X3_start : GoodIn wsX3_goByPlaces wsX3_start := goodIn_r _ [5, 6, 7, 8, 9, 10, 41, 42, 43, 44, 45] (by decide +kernel) (by decide +kernel)
set_option maxRecDepth 20000 in
theorem gX3_goByPlaces_X3_start : GoodIn wsX3_goByPlaces (wsV RX3 28 RX3 yX3_start wsX3_start) := goodIn_app (goodIn_of _ (by decide +kernel)) ggX3_goByPlaces_X3_start
set_option maxRecDepth 20000 in
theorem ggX3_goByPlaces_X2_matching : GoodIn wsX3_goByPlaces wsX2_matching := goodIn_r _ [15, 16, 17, 18, 19, 20, 21, 22, 23, 24, 25, 14, 26, 27, 28, 29, 30, 31, 32, 46, 47, 48, 49, 50, 51, 52, 53] (by decide +kernel) (by decide +kernel)
set_option maxRecDepth 20000 in
theorem gX3_goByPlaces_X2_matching : GoodIn wsX3_goByPlaces (wsV RX3 31 RX2 yX2_matching wsX2_matching) := goodIn_app (goodIn_of _ (by decide +kernel)) ggX3_goByPlaces_X2_matching
set_option maxRecDepth 20000 in
theorem ggX3_goByPlaces_X3_see : GoodIn wsX3_goByPlaces wsX3_see := goodIn_r _ [36, 7, 10, 8, 9, 37, 38, 39, 40, 41, 42, 43, 44, 45] (by decide +kernel) (by decide +kernel)
set_option maxRecDepth 20000 in
theorem gX3_goByPlaces_X3_see : GoodIn wsX3_goByPlaces (wsV RX3 37 RX3 yX3_see wsX3_see) := goodIn_app (goodIn_of _ (by decide +kernel)) ggX3_goByPlaces_X3_see
end
section
theorem dX3_goByPlaces_0 : decode cX3_goByPlaces 0 = .ok (.aload_n 0, 1) := by decide +kernel
theorem dX3_goByPlaces_1 : decode cX3_goByPlaces 1 = .ok (.invokevirtual 28, 3) := by decide +kernel
theorem dX3_goByPlaces_4 : decode cX3_goByPlaces 4 = .ok (.iconst 0, 1) := by decide +kernel
theorem dX3_goByPlaces_5 : decode cX3_goByPlaces 5 = .ok (.istore_n 2, 1) := by decide +kernel
theorem dX3_goByPlaces_6 : decode cX3_goByPlaces 6 = .ok (.iload_n 2, 1) := by decide +kernel
theorem dX3_goByPlaces_7 : decode cX3_goByPlaces 7 = .ok (.bipush 35, 2) := by decide +kernel
theorem dX3_goByPlaces_9 : decode cX3_goByPlaces 9 = .ok (.if_icmp .gt 34, 3) := by decide +kernel
theorem dX3_goByPlaces_12 : decode cX3_goByPlaces 12 = .ok (.iconst 1, 1) := by decide +kernel
theorem dX3_goByPlaces_13 : decode cX3_goByPlaces 13 = .ok (.istore_n 3, 1) := by decide +kernel
theorem dX3_goByPlaces_14 : decode cX3_goByPlaces 14 = .ok (.iload_n 3, 1) := by decide +kernel
theorem dX3_goByPlaces_15 : decode cX3_goByPlaces 15 = .ok (.bipush 9, 2) := by decide +kernel
theorem dX3_goByPlaces_17 : decode cX3_goByPlaces 17 = .ok (.if_icmp .gt 20, 3) := by decide +kernel
theorem dX3_goByPlaces_20 : decode cX3_goByPlaces 20 = .ok (.aload_n 0, 1) := by decide +kernel
theorem dX3_goByPlaces_21 : decode cX3_goByPlaces 21 = .ok (.iload_n 2, 1) := by decide +kernel
theorem dX3_goByPlaces_22 : decode cX3_goByPlaces 22 = .ok (.aload_n 1, 1) := by decide +kernel
theorem dX3_goByPlaces_23 : decode cX3_goByPlaces 23 = .ok (.iload_n 2, 1) := by decide +kernel
theorem dX3_goByPlaces_24 : decode cX3_goByPlaces 24 = .ok (.iload_n 3, 1) := by decide +kernel
theorem dX3_goByPlaces_25 : decode cX3_goByPlaces 25 = .ok (.invokevirtual 31, 3) := by decide +kernel
theorem dX3_goByPlaces_28 : decode cX3_goByPlaces 28 = .ok (.invokevirtual 37, 3) := by decide +kernel
theorem dX3_goByPlaces_31 : decode cX3_goByPlaces 31 = .ok (.iinc 3 1, 3) := by decide +kernel
theorem dX3_goByPlaces_34 : decode cX3_goByPlaces 34 = .ok (.goto (-20), 3) := by decide +kernel
theorem dX3_goByPlaces_37 : decode cX3_goByPlaces 37 = .ok (.iinc 2 1, 3) := by decide +kernel
theorem dX3_goByPlaces_40 : decode cX3_goByPlaces 40 = .ok (.goto (-34), 3) := by decide +kernel
theorem dX3_goByPlaces_43 : decode cX3_goByPlaces 43 = .ok (.return_, 1) := by decide +kernel
set_option maxRecDepth 20000 in
theorem ggX3_goByEdges_X3_start : GoodIn wsX3_goByEdges wsX3_start := goodIn_r _ [6, 1, 7, 8, 9, 10, 40, 41, 42, 43, 44] (by decide +kernel) (by decide +kernel)
set_option maxRecDepth 20000 in
theorem gX3_goByEdges_X3_start : GoodIn wsX3_goByEdges (wsV RX3 28 RX3 yX3_start wsX3_start) := goodIn_app (goodIn_of _ (by decide +kernel)) ggX3_goByEdges_X3_start
set_option maxRecDepth 20000 in
theorem ggX3_goByEdges_X4_rows : GoodIn wsX3_goByEdges wsX4_rows := goodIn_r _ [15, 16, 45, 46, 47] (by decide +kernel) (by decide +kernel)
set_option maxRecDepth 20000 in
theorem gX3_goByEdges_X4_rows : GoodIn wsX3_goByEdges (wsV RX3 45 RX4 yX4_rows wsX4_rows) := goodIn_app (goodIn_of _ (by decide +kernel)) ggX3_goByEdges_X4_rows
set_option maxRecDepth 20000 in
theorem ggX3_goByEdges_X4_get : GoodIn wsX3_goByEdges wsX4_get := goodIn_r _ [20, 16, 21, 22, 45, 46, 47] (by decide +kernel) (by decide +kernel)
set_option maxRecDepth 20000 in
theorem gX3_goByEdges_X4_get : GoodIn wsX3_goByEdges (wsV RX3 51 RX4 yX4_get wsX4_get) := goodIn_app (goodIn_of _ (by decide +kernel)) ggX3_goByEdges_X4_get
set_option maxRecDepth 20000 in
theorem ggX3_goByEdges_X3_deepen : GoodIn wsX3_goByEdges wsX3_deepen := goodIn_r _ [26, 1, 17, 18, 19, 14, 20, 16, 21, 22, 40, 41, 42, 43, 44, 45, 46, 47] (by decide +kernel) (by decide +kernel)
set_option maxRecDepth 20000 in
theorem gX3_goByEdges_X3_deepen : GoodIn wsX3_goByEdges (wsV RX3 54 RX3 yX3_deepen wsX3_deepen) := goodIn_app (goodIn_of _ (by decide +kernel)) ggX3_goByEdges_X3_deepen
set_option maxRecDepth 20000 in
theorem ggX3_goByEdges_X3_see : GoodIn wsX3_goByEdges wsX3_see := goodIn_r _ [30, 7, 10, 8, 9, 31, 32, 33, 34, 40, 41, 42, 43, 44] (by decide +kernel) (by decide +kernel)
set_option maxRecDepth 20000 in
theorem gX3_goByEdges_X3_see : GoodIn wsX3_goByEdges (wsV RX3 37 RX3 yX3_see wsX3_see) := goodIn_app (goodIn_of _ (by decide +kernel)) ggX3_goByEdges_X3_see
theorem dX3_goByEdges_0 : decode cX3_goByEdges 0 = .ok (.aload_n 0, 1) := by decide +kernel
theorem dX3_goByEdges_1 : decode cX3_goByEdges 1 = .ok (.invokevirtual 28, 3) := by decide +kernel
theorem dX3_goByEdges_4 : decode cX3_goByEdges 4 = .ok (.iconst 0, 1) := by decide +kernel
theorem dX3_goByEdges_5 : decode cX3_goByEdges 5 = .ok (.istore_n 2, 1) := by decide +kernel
theorem dX3_goByEdges_6 : decode cX3_goByEdges 6 = .ok (.iload_n 2, 1) := by decide +kernel
theorem dX3_goByEdges_7 : decode cX3_goByEdges 7 = .ok (.bipush 35, 2) := by decide +kernel
theorem dX3_goByEdges_9 : decode cX3_goByEdges 9 = .ok (.if_icmp .gt 104, 3) := by decide +kernel
theorem dX3_goByEdges_12 : decode cX3_goByEdges 12 = .ok (.iconst 0, 1) := by decide +kernel
theorem dX3_goByEdges_13 : decode cX3_goByEdges 13 = .ok (.istore_n 3, 1) := by decide +kernel
theorem dX3_goByEdges_14 : decode cX3_goByEdges 14 = .ok (.iload_n 3, 1) := by decide +kernel
theorem dX3_goByEdges_15 : decode cX3_goByEdges 15 = .ok (.aload_n 1, 1) := by decide +kernel
theorem dX3_goByEdges_16 : decode cX3_goByEdges 16 = .ok (.getfield 41, 3) := by decide +kernel
theorem dX3_goByEdges_19 : decode cX3_goByEdges 19 = .ok (.invokevirtual 45, 3) := by decide +kernel
theorem dX3_goByEdges_22 : decode cX3_goByEdges 22 = .ok (.if_icmp .ge 57, 3) := by decide +kernel
theorem dX3_goByEdges_25 : decode cX3_goByEdges 25 = .ok (.aload_n 1, 1) := by decide +kernel
theorem dX3_goByEdges_26 : decode cX3_goByEdges 26 = .ok (.getfield 41, 3) := by decide +kernel
theorem dX3_goByEdges_29 : decode cX3_goByEdges 29 = .ok (.iload_n 3, 1) := by decide +kernel
theorem dX3_goByEdges_30 : decode cX3_goByEdges 30 = .ok (.iconst 0, 1) := by decide +kernel
theorem dX3_goByEdges_31 : decode cX3_goByEdges 31 = .ok (.invokevirtual 51, 3) := by decide +kernel
theorem dX3_goByEdges_34 : decode cX3_goByEdges 34 = .ok (.iload_n 2, 1) := by decide +kernel
theorem dX3_goByEdges_35 : decode cX3_goByEdges 35 = .ok (.if_icmp .ne 13, 3) := by decide +kernel
theorem dX3_goByEdges_38 : decode cX3_goByEdges 38 = .ok (.aload_n 0, 1) := by decide +kernel
theorem dX3_goByEdges_39 : decode cX3_goByEdges 39 = .ok (.aload_n 1, 1) := by decide +kernel
theorem dX3_goByEdges_40 : decode cX3_goByEdges 40 = .ok (.getfield 41, 3) := by decide +kernel
theorem dX3_goByEdges_43 : decode cX3_goByEdges 43 = .ok (.iload_n 3, 1) := by decide +kernel
theorem dX3_goByEdges_44 : decode cX3_goByEdges 44 = .ok (.iconst 1, 1) := by decide +kernel
theorem dX3_goByEdges_45 : decode cX3_goByEdges 45 = .ok (.invokevirtual 54, 3) := by decide +kernel
theorem dX3_goByEdges_48 : decode cX3_goByEdges 48 = .ok (.aload_n 1, 1) := by decide +kernel
theorem dX3_goByEdges_49 : decode cX3_goByEdges 49 = .ok (.getfield 41, 3) := by decide +kernel
theorem dX3_goByEdges_52 : decode cX3_goByEdges 52 = .ok (.iload_n 3, 1) := by decide +kernel
theorem dX3_goByEdges_53 : decode cX3_goByEdges 53 = .ok (.iconst 1, 1) := by decide +kernel
theorem dX3_goByEdges_54 : decode cX3_goByEdges 54 = .ok (.invokevirtual 51, 3) := by decide +kernel
theorem dX3_goByEdges_57 : decode cX3_goByEdges 57 = .ok (.iload_n 2, 1) := by decide +kernel
theorem dX3_goByEdges_58 : decode cX3_goByEdges 58 = .ok (.iconst 1, 1) := by decide +kernel
theorem dX3_goByEdges_59 : decode cX3_goByEdges 59 = .ok (.isub, 1) := by decide +kernel
theorem dX3_goByEdges_60 : decode cX3_goByEdges 60 = .ok (.if_icmp .ne 13, 3) := by decide +kernel
theorem dX3_goByEdges_63 : decode cX3_goByEdges 63 = .ok (.aload_n 0, 1) := by decide +kernel
theorem dX3_goByEdges_64 : decode cX3_goByEdges 64 = .ok (.aload_n 1, 1) := by decide +kernel
theorem dX3_goByEdges_65 : decode cX3_goByEdges 65 = .ok (.getfield 41, 3) := by decide +kernel
theorem dX3_goByEdges_68 : decode cX3_goByEdges 68 = .ok (.iload_n 3, 1) := by decide +kernel
theorem dX3_goByEdges_69 : decode cX3_goByEdges 69 = .ok (.iconst (-1), 1) := by decide +kernel
theorem dX3_goByEdges_70 : decode cX3_goByEdges 70 = .ok (.invokevirtual 54, 3) := by decide +kernel
theorem dX3_goByEdges_73 : decode cX3_goByEdges 73 = .ok (.iinc 3 1, 3) := by decide +kernel
theorem dX3_goByEdges_76 : decode cX3_goByEdges 76 = .ok (.goto (-62), 3) := by decide +kernel
theorem dX3_goByEdges_79 : decode cX3_goByEdges 79 = .ok (.iconst 0, 1) := by decide +kernel
theorem dX3_goByEdges_80 : decode cX3_goByEdges 80 = .ok (.istore_n 3, 1) := by decide +kernel
theorem dX3_goByEdges_81 : decode cX3_goByEdges 81 = .ok (.iload_n 3, 1) := by decide +kernel
theorem dX3_goByEdges_82 : decode cX3_goByEdges 82 = .ok (.aload_n 0, 1) := by decide +kernel
theorem dX3_goByEdges_83 : decode cX3_goByEdges 83 = .ok (.getfield 9, 3) := by decide +kernel
theorem dX3_goByEdges_86 : decode cX3_goByEdges 86 = .ok (.arraylength, 1) := by decide +kernel
theorem dX3_goByEdges_87 : decode cX3_goByEdges 87 = .ok (.if_icmp .ge 20, 3) := by decide +kernel
theorem dX3_goByEdges_90 : decode cX3_goByEdges 90 = .ok (.aload_n 0, 1) := by decide +kernel
theorem dX3_goByEdges_91 : decode cX3_goByEdges 91 = .ok (.iload_n 2, 1) := by decide +kernel
theorem dX3_goByEdges_92 : decode cX3_goByEdges 92 = .ok (.aload_n 0, 1) := by decide +kernel
theorem dX3_goByEdges_93 : decode cX3_goByEdges 93 = .ok (.getfield 9, 3) := by decide +kernel
theorem dX3_goByEdges_96 : decode cX3_goByEdges 96 = .ok (.iload_n 3, 1) := by decide +kernel
theorem dX3_goByEdges_97 : decode cX3_goByEdges 97 = .ok (.iaload, 1) := by decide +kernel
theorem dX3_goByEdges_98 : decode cX3_goByEdges 98 = .ok (.invokevirtual 37, 3) := by decide +kernel
theorem dX3_goByEdges_101 : decode cX3_goByEdges 101 = .ok (.iinc 3 1, 3) := by decide +kernel
theorem dX3_goByEdges_104 : decode cX3_goByEdges 104 = .ok (.goto (-23), 3) := by decide +kernel
theorem dX3_goByEdges_107 : decode cX3_goByEdges 107 = .ok (.iinc 2 1, 3) := by decide +kernel
theorem dX3_goByEdges_110 : decode cX3_goByEdges 110 = .ok (.goto (-104), 3) := by decide +kernel
theorem dX3_goByEdges_113 : decode cX3_goByEdges 113 = .ok (.return_, 1) := by decide +kernel
set_option maxRecDepth 20000 in
theorem ggX3_deepen_X4_get : GoodIn wsX3_deepen wsX4_get := goodIn_r _ [6, 7, 8, 9, 15, 16, 17] (by decide +kernel) (by decide +kernel)
set_option maxRecDepth 20000 in
theorem gX3_deepen_X4_get : GoodIn wsX3_deepen (wsV RX3 51 RX4 yX4_get wsX4_get) := goodIn_app (goodIn_of _ (by decide +kernel)) ggX3_deepen_X4_get
theorem dX3_deepen_0 : decode cX3_deepen 0 = .ok (.iconst 0, 1) := by decide +kernel
theorem dX3_deepen_1 : decode cX3_deepen 1 = .ok (.istore 4, 2) := by decide +kernel
theorem dX3_deepen_3 : decode cX3_deepen 3 = .ok (.iload 4, 2) := by decide +kernel
theorem dX3_deepen_5 : decode cX3_deepen 5 = .ok (.aload_n 0, 1) := by decide +kernel
theorem dX3_deepen_6 : decode cX3_deepen 6 = .ok (.getfield 9, 3) := by decide +kernel
theorem dX3_deepen_9 : decode cX3_deepen 9 = .ok (.arraylength, 1) := by decide +kernel
theorem dX3_deepen_10 : decode cX3_deepen 10 = .ok (.if_icmp .ge 46, 3) := by decide +kernel
theorem dX3_deepen_13 : decode cX3_deepen 13 = .ok (.iload 4, 2) := by decide +kernel
theorem dX3_deepen_15 : decode cX3_deepen 15 = .ok (.iconst 1, 1) := by decide +kernel
theorem dX3_deepen_16 : decode cX3_deepen 16 = .ok (.iadd, 1) := by decide +kernel
theorem dX3_deepen_17 : decode cX3_deepen 17 = .ok (.aload_n 1, 1) := by decide +kernel
theorem dX3_deepen_18 : decode cX3_deepen 18 = .ok (.iload_n 2, 1) := by decide +kernel
theorem dX3_deepen_19 : decode cX3_deepen 19 = .ok (.iconst 2, 1) := by decide +kernel
theorem dX3_deepen_20 : decode cX3_deepen 20 = .ok (.invokevirtual 51, 3) := by decide +kernel
theorem dX3_deepen_23 : decode cX3_deepen 23 = .ok (.if_icmp .lt 27, 3) := by decide +kernel
theorem dX3_deepen_26 : decode cX3_deepen 26 = .ok (.iload 4, 2) := by decide +kernel
theorem dX3_deepen_28 : decode cX3_deepen 28 = .ok (.iconst 1, 1) := by decide +kernel
theorem dX3_deepen_29 : decode cX3_deepen 29 = .ok (.iadd, 1) := by decide +kernel
theorem dX3_deepen_30 : decode cX3_deepen 30 = .ok (.aload_n 1, 1) := by decide +kernel
theorem dX3_deepen_31 : decode cX3_deepen 31 = .ok (.iload_n 2, 1) := by decide +kernel
theorem dX3_deepen_32 : decode cX3_deepen 32 = .ok (.iconst 3, 1) := by decide +kernel
theorem dX3_deepen_33 : decode cX3_deepen 33 = .ok (.invokevirtual 51, 3) := by decide +kernel
theorem dX3_deepen_36 : decode cX3_deepen 36 = .ok (.if_icmp .gt 14, 3) := by decide +kernel
theorem dX3_deepen_39 : decode cX3_deepen 39 = .ok (.aload_n 0, 1) := by decide +kernel
theorem dX3_deepen_40 : decode cX3_deepen 40 = .ok (.getfield 9, 3) := by decide +kernel
theorem dX3_deepen_43 : decode cX3_deepen 43 = .ok (.iload 4, 2) := by decide +kernel
theorem dX3_deepen_45 : decode cX3_deepen 45 = .ok (.dup2, 1) := by decide +kernel
theorem dX3_deepen_46 : decode cX3_deepen 46 = .ok (.iaload, 1) := by decide +kernel
theorem dX3_deepen_47 : decode cX3_deepen 47 = .ok (.iload_n 3, 1) := by decide +kernel
theorem dX3_deepen_48 : decode cX3_deepen 48 = .ok (.iadd, 1) := by decide +kernel
theorem dX3_deepen_49 : decode cX3_deepen 49 = .ok (.iastore, 1) := by decide +kernel
theorem dX3_deepen_50 : decode cX3_deepen 50 = .ok (.iinc 4 1, 3) := by decide +kernel
theorem dX3_deepen_53 : decode cX3_deepen 53 = .ok (.goto (-50), 3) := by decide +kernel
theorem dX3_deepen_56 : decode cX3_deepen 56 = .ok (.return_, 1) := by decide +kernel
theorem dX3_start_0 : decode cX3_start 0 = .ok (.iconst 0, 1) := by decide +kernel
theorem dX3_start_1 : decode cX3_start 1 = .ok (.istore_n 1, 1) := by decide +kernel
theorem dX3_start_2 : decode cX3_start 2 = .ok (.iload_n 1, 1) := by decide +kernel
theorem dX3_start_3 : decode cX3_start 3 = .ok (.aload_n 0, 1) := by decide +kernel
theorem dX3_start_4 : decode cX3_start 4 = .ok (.getfield 9, 3) := by decide +kernel
theorem dX3_start_7 : decode cX3_start 7 = .ok (.arraylength, 1) := by decide +kernel
theorem dX3_start_8 : decode cX3_start 8 = .ok (.if_icmp .ge 16, 3) := by decide +kernel
theorem dX3_start_11 : decode cX3_start 11 = .ok (.aload_n 0, 1) := by decide +kernel
theorem dX3_start_12 : decode cX3_start 12 = .ok (.getfield 9, 3) := by decide +kernel
theorem dX3_start_15 : decode cX3_start 15 = .ok (.iload_n 1, 1) := by decide +kernel
theorem dX3_start_16 : decode cX3_start 16 = .ok (.iconst 0, 1) := by decide +kernel
theorem dX3_start_17 : decode cX3_start 17 = .ok (.iastore, 1) := by decide +kernel
theorem dX3_start_18 : decode cX3_start 18 = .ok (.iinc 1 1, 3) := by decide +kernel
theorem dX3_start_21 : decode cX3_start 21 = .ok (.goto (-19), 3) := by decide +kernel
theorem dX3_start_24 : decode cX3_start 24 = .ok (.aload_n 0, 1) := by decide +kernel
theorem dX3_start_25 : decode cX3_start 25 = .ok (.iconst 0, 1) := by decide +kernel
theorem dX3_start_26 : decode cX3_start 26 = .ok (.putfield 15, 3) := by decide +kernel
theorem dX3_start_29 : decode cX3_start 29 = .ok (.aload_n 0, 1) := by decide +kernel
theorem dX3_start_30 : decode cX3_start 30 = .ok (.iconst 0, 1) := by decide +kernel
theorem dX3_start_31 : decode cX3_start 31 = .ok (.putfield 19, 3) := by decide +kernel
theorem dX3_start_34 : decode cX3_start 34 = .ok (.aload_n 0, 1) := by decide +kernel
theorem dX3_start_35 : decode cX3_start 35 = .ok (.iconst 0, 1) := by decide +kernel
theorem dX3_start_36 : decode cX3_start 36 = .ok (.putfield 22, 3) := by decide +kernel
theorem dX3_start_39 : decode cX3_start 39 = .ok (.aload_n 0, 1) := by decide +kernel
theorem dX3_start_40 : decode cX3_start 40 = .ok (.bipush (-4), 2) := by decide +kernel
theorem dX3_start_42 : decode cX3_start 42 = .ok (.putfield 25, 3) := by decide +kernel
theorem dX3_start_45 : decode cX3_start 45 = .ok (.return_, 1) := by decide +kernel
theorem dX3_see_0 : decode cX3_see 0 = .ok (.iload_n 2, 1) := by decide +kernel
theorem dX3_see_1 : decode cX3_see 1 = .ok (.ifCond .ne 34, 3) := by decide +kernel
theorem dX3_see_4 : decode cX3_see 4 = .ok (.aload_n 0, 1) := by decide +kernel
theorem dX3_see_5 : decode cX3_see 5 = .ok (.dup, 1) := by decide +kernel
theorem dX3_see_6 : decode cX3_see 6 = .ok (.getfield 15, 3) := by decide +kernel
theorem dX3_see_9 : decode cX3_see 9 = .ok (.iconst 1, 1) := by decide +kernel
theorem dX3_see_10 : decode cX3_see 10 = .ok (.iadd, 1) := by decide +kernel
theorem dX3_see_11 : decode cX3_see 11 = .ok (.putfield 15, 3) := by decide +kernel
theorem dX3_see_14 : decode cX3_see 14 = .ok (.aload_n 0, 1) := by decide +kernel
theorem dX3_see_15 : decode cX3_see 15 = .ok (.aload_n 0, 1) := by decide +kernel
theorem dX3_see_16 : decode cX3_see 16 = .ok (.getfield 25, 3) := by decide +kernel
theorem dX3_see_19 : decode cX3_see 19 = .ok (.bipush (-4), 2) := by decide +kernel
theorem dX3_see_21 : decode cX3_see 21 = .ok (.if_icmp .ne 7, 3) := by decide +kernel
theorem dX3_see_24 : decode cX3_see 24 = .ok (.iload_n 1, 1) := by decide +kernel
theorem dX3_see_25 : decode cX3_see 25 = .ok (.goto 7, 3) := by decide +kernel
theorem dX3_see_28 : decode cX3_see 28 = .ok (.aload_n 0, 1) := by decide +kernel
theorem dX3_see_29 : decode cX3_see 29 = .ok (.getfield 25, 3) := by decide +kernel
theorem dX3_see_32 : decode cX3_see 32 = .ok (.putfield 25, 3) := by decide +kernel
theorem dX3_see_35 : decode cX3_see 35 = .ok (.aload_n 0, 1) := by decide +kernel
theorem dX3_see_36 : decode cX3_see 36 = .ok (.dup, 1) := by decide +kernel
theorem dX3_see_37 : decode cX3_see 37 = .ok (.getfield 19, 3) := by decide +kernel
theorem dX3_see_40 : decode cX3_see 40 = .ok (.iload_n 2, 1) := by decide +kernel
theorem dX3_see_41 : decode cX3_see 41 = .ok (.iconst 2, 1) := by decide +kernel
theorem dX3_see_42 : decode cX3_see 42 = .ok (.if_icmp .lt 7, 3) := by decide +kernel
theorem dX3_see_45 : decode cX3_see 45 = .ok (.iconst 1, 1) := by decide +kernel
theorem dX3_see_46 : decode cX3_see 46 = .ok (.goto 4, 3) := by decide +kernel
theorem dX3_see_49 : decode cX3_see 49 = .ok (.iconst 0, 1) := by decide +kernel
theorem dX3_see_50 : decode cX3_see 50 = .ok (.iadd, 1) := by decide +kernel
theorem dX3_see_51 : decode cX3_see 51 = .ok (.putfield 19, 3) := by decide +kernel
theorem dX3_see_54 : decode cX3_see 54 = .ok (.aload_n 0, 1) := by decide +kernel
theorem dX3_see_55 : decode cX3_see 55 = .ok (.aload_n 0, 1) := by decide +kernel
theorem dX3_see_56 : decode cX3_see 56 = .ok (.getfield 22, 3) := by decide +kernel
theorem dX3_see_59 : decode cX3_see 59 = .ok (.iload_n 2, 1) := by decide +kernel
theorem dX3_see_60 : decode cX3_see 60 = .ok (.invokestatic 58, 3) := by decide +kernel
theorem dX3_see_63 : decode cX3_see 63 = .ok (.putfield 22, 3) := by decide +kernel
theorem dX3_see_66 : decode cX3_see 66 = .ok (.return_, 1) := by decide +kernel
theorem dX4_init_0 : decode cX4_init 0 = .ok (.aload_n 0, 1) := by decide +kernel
theorem dX4_init_1 : decode cX4_init 1 = .ok (.invokespecial 1, 3) := by decide +kernel
theorem dX4_init_4 : decode cX4_init 4 = .ok (.aload_n 0, 1) := by decide +kernel
theorem dX4_init_5 : decode cX4_init 5 = .ok (.iload_n 2, 1) := by decide +kernel
theorem dX4_init_6 : decode cX4_init 6 = .ok (.ifCond .le 7, 3) := by decide +kernel
theorem dX4_init_9 : decode cX4_init 9 = .ok (.iload_n 2, 1) := by decide +kernel
theorem dX4_init_10 : decode cX4_init 10 = .ok (.goto 4, 3) := by decide +kernel
theorem dX4_init_13 : decode cX4_init 13 = .ok (.iconst 1, 1) := by decide +kernel
theorem dX4_init_14 : decode cX4_init 14 = .ok (.putfield 7, 3) := by decide +kernel
theorem dX4_init_17 : decode cX4_init 17 = .ok (.aload_n 0, 1) := by decide +kernel
theorem dX4_init_18 : decode cX4_init 18 = .ok (.iload_n 1, 1) := by decide +kernel
theorem dX4_init_19 : decode cX4_init 19 = .ok (.ifCond .le 12, 3) := by decide +kernel
theorem dX4_init_22 : decode cX4_init 22 = .ok (.iload_n 1, 1) := by decide +kernel
theorem dX4_init_23 : decode cX4_init 23 = .ok (.aload_n 0, 1) := by decide +kernel
theorem dX4_init_24 : decode cX4_init 24 = .ok (.getfield 7, 3) := by decide +kernel
theorem dX4_init_27 : decode cX4_init 27 = .ok (.imul, 1) := by decide +kernel
theorem dX4_init_28 : decode cX4_init 28 = .ok (.goto 4, 3) := by decide +kernel
theorem dX4_init_31 : decode cX4_init 31 = .ok (.iconst 0, 1) := by decide +kernel
theorem dX4_init_32 : decode cX4_init 32 = .ok (.newarray .int, 2) := by decide +kernel
theorem dX4_init_34 : decode cX4_init 34 = .ok (.putfield 13, 3) := by decide +kernel
theorem dX4_init_37 : decode cX4_init 37 = .ok (.return_, 1) := by decide +kernel
theorem dX4_rows_0 : decode cX4_rows 0 = .ok (.aload_n 0, 1) := by decide +kernel
theorem dX4_rows_1 : decode cX4_rows 1 = .ok (.getfield 17, 3) := by decide +kernel
theorem dX4_rows_4 : decode cX4_rows 4 = .ok (.ireturn, 1) := by decide +kernel
theorem dX4_has_0 : decode cX4_has 0 = .ok (.iload_n 1, 1) := by decide +kernel
theorem dX4_has_1 : decode cX4_has 1 = .ok (.ifCond .lt 15, 3) := by decide +kernel
theorem dX4_has_4 : decode cX4_has 4 = .ok (.iload_n 1, 1) := by decide +kernel
theorem dX4_has_5 : decode cX4_has 5 = .ok (.aload_n 0, 1) := by decide +kernel
theorem dX4_has_6 : decode cX4_has 6 = .ok (.getfield 17, 3) := by decide +kernel
theorem dX4_has_9 : decode cX4_has 9 = .ok (.if_icmp .ge 7, 3) := by decide +kernel
theorem dX4_has_12 : decode cX4_has 12 = .ok (.iconst 1, 1) := by decide +kernel
theorem dX4_has_13 : decode cX4_has 13 = .ok (.goto 4, 3) := by decide +kernel
theorem dX4_has_16 : decode cX4_has 16 = .ok (.iconst 0, 1) := by decide +kernel
theorem dX4_has_17 : decode cX4_has 17 = .ok (.ireturn, 1) := by decide +kernel
theorem dX4_get_0 : decode cX4_get 0 = .ok (.iload_n 1, 1) := by decide +kernel
theorem dX4_get_1 : decode cX4_get 1 = .ok (.ifCond .lt 23, 3) := by decide +kernel
theorem dX4_get_4 : decode cX4_get 4 = .ok (.iload_n 1, 1) := by decide +kernel
theorem dX4_get_5 : decode cX4_get 5 = .ok (.aload_n 0, 1) := by decide +kernel
theorem dX4_get_6 : decode cX4_get 6 = .ok (.getfield 17, 3) := by decide +kernel
theorem dX4_get_9 : decode cX4_get 9 = .ok (.if_icmp .ge 15, 3) := by decide +kernel
theorem dX4_get_12 : decode cX4_get 12 = .ok (.iload_n 2, 1) := by decide +kernel
theorem dX4_get_13 : decode cX4_get 13 = .ok (.ifCond .lt 11, 3) := by decide +kernel
theorem dX4_get_16 : decode cX4_get 16 = .ok (.iload_n 2, 1) := by decide +kernel
theorem dX4_get_17 : decode cX4_get 17 = .ok (.aload_n 0, 1) := by decide +kernel
theorem dX4_get_18 : decode cX4_get 18 = .ok (.getfield 7, 3) := by decide +kernel
theorem dX4_get_21 : decode cX4_get 21 = .ok (.if_icmp .lt 5, 3) := by decide +kernel
theorem dX4_get_24 : decode cX4_get 24 = .ok (.iconst 0, 1) := by decide +kernel
theorem dX4_get_25 : decode cX4_get 25 = .ok (.ireturn, 1) := by decide +kernel
theorem dX4_get_26 : decode cX4_get 26 = .ok (.iload_n 1, 1) := by decide +kernel
theorem dX4_get_27 : decode cX4_get 27 = .ok (.aload_n 0, 1) := by decide +kernel
theorem dX4_get_28 : decode cX4_get 28 = .ok (.getfield 7, 3) := by decide +kernel
theorem dX4_get_31 : decode cX4_get 31 = .ok (.imul, 1) := by decide +kernel
theorem dX4_get_32 : decode cX4_get 32 = .ok (.iload_n 2, 1) := by decide +kernel
theorem dX4_get_33 : decode cX4_get 33 = .ok (.iadd, 1) := by decide +kernel
theorem dX4_get_34 : decode cX4_get 34 = .ok (.istore_n 3, 1) := by decide +kernel
theorem dX4_get_35 : decode cX4_get 35 = .ok (.iload_n 3, 1) := by decide +kernel
theorem dX4_get_36 : decode cX4_get 36 = .ok (.aload_n 0, 1) := by decide +kernel
theorem dX4_get_37 : decode cX4_get 37 = .ok (.getfield 13, 3) := by decide +kernel
theorem dX4_get_40 : decode cX4_get 40 = .ok (.arraylength, 1) := by decide +kernel
theorem dX4_get_41 : decode cX4_get 41 = .ok (.if_icmp .ge 12, 3) := by decide +kernel
theorem dX4_get_44 : decode cX4_get 44 = .ok (.aload_n 0, 1) := by decide +kernel
theorem dX4_get_45 : decode cX4_get 45 = .ok (.getfield 13, 3) := by decide +kernel
theorem dX4_get_48 : decode cX4_get 48 = .ok (.iload_n 3, 1) := by decide +kernel
theorem dX4_get_49 : decode cX4_get 49 = .ok (.iaload, 1) := by decide +kernel
theorem dX4_get_50 : decode cX4_get 50 = .ok (.goto 4, 3) := by decide +kernel
theorem dX4_get_53 : decode cX4_get 53 = .ok (.iconst 0, 1) := by decide +kernel
theorem dX4_get_54 : decode cX4_get 54 = .ok (.ireturn, 1) := by decide +kernel
theorem dX4_put_0 : decode cX4_put 0 = .ok (.iload_n 1, 1) := by decide +kernel
theorem dX4_put_1 : decode cX4_put 1 = .ok (.ifCond .lt 23, 3) := by decide +kernel
theorem dX4_put_4 : decode cX4_put 4 = .ok (.iload_n 1, 1) := by decide +kernel
theorem dX4_put_5 : decode cX4_put 5 = .ok (.aload_n 0, 1) := by decide +kernel
theorem dX4_put_6 : decode cX4_put 6 = .ok (.getfield 17, 3) := by decide +kernel
theorem dX4_put_9 : decode cX4_put 9 = .ok (.if_icmp .ge 15, 3) := by decide +kernel
theorem dX4_put_12 : decode cX4_put 12 = .ok (.iload_n 2, 1) := by decide +kernel
theorem dX4_put_13 : decode cX4_put 13 = .ok (.ifCond .lt 11, 3) := by decide +kernel
theorem dX4_put_16 : decode cX4_put 16 = .ok (.iload_n 2, 1) := by decide +kernel
theorem dX4_put_17 : decode cX4_put 17 = .ok (.aload_n 0, 1) := by decide +kernel
theorem dX4_put_18 : decode cX4_put 18 = .ok (.getfield 7, 3) := by decide +kernel
theorem dX4_put_21 : decode cX4_put 21 = .ok (.if_icmp .lt 4, 3) := by decide +kernel
theorem dX4_put_24 : decode cX4_put 24 = .ok (.return_, 1) := by decide +kernel
theorem dX4_put_25 : decode cX4_put 25 = .ok (.iload_n 1, 1) := by decide +kernel
theorem dX4_put_26 : decode cX4_put 26 = .ok (.aload_n 0, 1) := by decide +kernel
theorem dX4_put_27 : decode cX4_put 27 = .ok (.getfield 7, 3) := by decide +kernel
theorem dX4_put_30 : decode cX4_put 30 = .ok (.imul, 1) := by decide +kernel
theorem dX4_put_31 : decode cX4_put 31 = .ok (.iload_n 2, 1) := by decide +kernel
theorem dX4_put_32 : decode cX4_put 32 = .ok (.iadd, 1) := by decide +kernel
theorem dX4_put_33 : decode cX4_put 33 = .ok (.istore 4, 2) := by decide +kernel
theorem dX4_put_35 : decode cX4_put 35 = .ok (.iload 4, 2) := by decide +kernel
theorem dX4_put_37 : decode cX4_put 37 = .ok (.aload_n 0, 1) := by decide +kernel
theorem dX4_put_38 : decode cX4_put 38 = .ok (.getfield 13, 3) := by decide +kernel
theorem dX4_put_41 : decode cX4_put 41 = .ok (.arraylength, 1) := by decide +kernel
theorem dX4_put_42 : decode cX4_put 42 = .ok (.if_icmp .ge 11, 3) := by decide +kernel
theorem dX4_put_45 : decode cX4_put 45 = .ok (.aload_n 0, 1) := by decide +kernel
theorem dX4_put_46 : decode cX4_put 46 = .ok (.getfield 13, 3) := by decide +kernel
theorem dX4_put_49 : decode cX4_put 49 = .ok (.iload 4, 2) := by decide +kernel
theorem dX4_put_51 : decode cX4_put 51 = .ok (.iload_n 3, 1) := by decide +kernel
theorem dX4_put_52 : decode cX4_put 52 = .ok (.iastore, 1) := by decide +kernel
theorem dX4_put_53 : decode cX4_put 53 = .ok (.return_, 1) := by decide +kernel
theorem dX4_addRow_0 : decode cX4_addRow 0 = .ok (.aload_n 0, 1) := by decide +kernel
theorem dX4_addRow_1 : decode cX4_addRow 1 = .ok (.getfield 17, 3) := by decide +kernel
theorem dX4_addRow_4 : decode cX4_addRow 4 = .ok (.iconst 1, 1) := by decide +kernel
theorem dX4_addRow_5 : decode cX4_addRow 5 = .ok (.iadd, 1) := by decide +kernel
theorem dX4_addRow_6 : decode cX4_addRow 6 = .ok (.aload_n 0, 1) := by decide +kernel
theorem dX4_addRow_7 : decode cX4_addRow 7 = .ok (.getfield 7, 3) := by decide +kernel
theorem dX4_addRow_10 : decode cX4_addRow 10 = .ok (.imul, 1) := by decide +kernel
theorem dX4_addRow_11 : decode cX4_addRow 11 = .ok (.aload_n 0, 1) := by decide +kernel
theorem dX4_addRow_12 : decode cX4_addRow 12 = .ok (.getfield 13, 3) := by decide +kernel
theorem dX4_addRow_15 : decode cX4_addRow 15 = .ok (.arraylength, 1) := by decide +kernel
theorem dX4_addRow_16 : decode cX4_addRow 16 = .ok (.if_icmp .le 5, 3) := by decide +kernel
theorem dX4_addRow_19 : decode cX4_addRow 19 = .ok (.iconst (-1), 1) := by decide +kernel
theorem dX4_addRow_20 : decode cX4_addRow 20 = .ok (.ireturn, 1) := by decide +kernel
theorem dX4_addRow_21 : decode cX4_addRow 21 = .ok (.aload_n 0, 1) := by decide +kernel
theorem dX4_addRow_22 : decode cX4_addRow 22 = .ok (.dup, 1) := by decide +kernel
theorem dX4_addRow_23 : decode cX4_addRow 23 = .ok (.getfield 17, 3) := by decide +kernel
theorem dX4_addRow_26 : decode cX4_addRow 26 = .ok (.iconst 1, 1) := by decide +kernel
theorem dX4_addRow_27 : decode cX4_addRow 27 = .ok (.iadd, 1) := by decide +kernel
theorem dX4_addRow_28 : decode cX4_addRow 28 = .ok (.putfield 17, 3) := by decide +kernel
theorem dX4_addRow_31 : decode cX4_addRow 31 = .ok (.aload_n 0, 1) := by decide +kernel
theorem dX4_addRow_32 : decode cX4_addRow 32 = .ok (.getfield 17, 3) := by decide +kernel
theorem dX4_addRow_35 : decode cX4_addRow 35 = .ok (.iconst 1, 1) := by decide +kernel
theorem dX4_addRow_36 : decode cX4_addRow 36 = .ok (.isub, 1) := by decide +kernel
theorem dX4_addRow_37 : decode cX4_addRow 37 = .ok (.ireturn, 1) := by decide +kernel
set_option maxRecDepth 20000 in
theorem ggX4_removeRow_X4_has : GoodIn wsX4_removeRow wsX4_has := goodIn_r _ [8, 3, 9, 10, 11] (by decide +kernel) (by decide +kernel)
set_option maxRecDepth 20000 in
theorem gX4_removeRow_X4_has : GoodIn wsX4_removeRow (wsV RX4 20 RX4 yX4_has wsX4_has) := goodIn_app (goodIn_of _ (by decide +kernel)) ggX4_removeRow_X4_has
theorem dX4_removeRow_0 : decode cX4_removeRow 0 = .ok (.aload_n 0, 1) := by decide +kernel
theorem dX4_removeRow_1 : decode cX4_removeRow 1 = .ok (.iload_n 1, 1) := by decide +kernel
theorem dX4_removeRow_2 : decode cX4_removeRow 2 = .ok (.invokevirtual 20, 3) := by decide +kernel
theorem dX4_removeRow_5 : decode cX4_removeRow 5 = .ok (.ifCond .ne 4, 3) := by decide +kernel
theorem dX4_removeRow_8 : decode cX4_removeRow 8 = .ok (.return_, 1) := by decide +kernel
theorem dX4_removeRow_9 : decode cX4_removeRow 9 = .ok (.iload_n 1, 1) := by decide +kernel
theorem dX4_removeRow_10 : decode cX4_removeRow 10 = .ok (.aload_n 0, 1) := by decide +kernel
theorem dX4_removeRow_11 : decode cX4_removeRow 11 = .ok (.getfield 7, 3) := by decide +kernel
theorem dX4_removeRow_14 : decode cX4_removeRow 14 = .ok (.imul, 1) := by decide +kernel
theorem dX4_removeRow_15 : decode cX4_removeRow 15 = .ok (.istore_n 2, 1) := by decide +kernel
theorem dX4_removeRow_16 : decode cX4_removeRow 16 = .ok (.iload_n 2, 1) := by decide +kernel
theorem dX4_removeRow_17 : decode cX4_removeRow 17 = .ok (.aload_n 0, 1) := by decide +kernel
theorem dX4_removeRow_18 : decode cX4_removeRow 18 = .ok (.getfield 13, 3) := by decide +kernel
theorem dX4_removeRow_21 : decode cX4_removeRow 21 = .ok (.arraylength, 1) := by decide +kernel
theorem dX4_removeRow_22 : decode cX4_removeRow 22 = .ok (.aload_n 0, 1) := by decide +kernel
theorem dX4_removeRow_23 : decode cX4_removeRow 23 = .ok (.getfield 7, 3) := by decide +kernel
theorem dX4_removeRow_26 : decode cX4_removeRow 26 = .ok (.isub, 1) := by decide +kernel
theorem dX4_removeRow_27 : decode cX4_removeRow 27 = .ok (.if_icmp .ge 26, 3) := by decide +kernel
theorem dX4_removeRow_30 : decode cX4_removeRow 30 = .ok (.aload_n 0, 1) := by decide +kernel
theorem dX4_removeRow_31 : decode cX4_removeRow 31 = .ok (.getfield 13, 3) := by decide +kernel
theorem dX4_removeRow_34 : decode cX4_removeRow 34 = .ok (.iload_n 2, 1) := by decide +kernel
theorem dX4_removeRow_35 : decode cX4_removeRow 35 = .ok (.aload_n 0, 1) := by decide +kernel
theorem dX4_removeRow_36 : decode cX4_removeRow 36 = .ok (.getfield 13, 3) := by decide +kernel
theorem dX4_removeRow_39 : decode cX4_removeRow 39 = .ok (.iload_n 2, 1) := by decide +kernel
theorem dX4_removeRow_40 : decode cX4_removeRow 40 = .ok (.aload_n 0, 1) := by decide +kernel
theorem dX4_removeRow_41 : decode cX4_removeRow 41 = .ok (.getfield 7, 3) := by decide +kernel
theorem dX4_removeRow_44 : decode cX4_removeRow 44 = .ok (.iadd, 1) := by decide +kernel
theorem dX4_removeRow_45 : decode cX4_removeRow 45 = .ok (.iaload, 1) := by decide +kernel
theorem dX4_removeRow_46 : decode cX4_removeRow 46 = .ok (.iastore, 1) := by decide +kernel
theorem dX4_removeRow_47 : decode cX4_removeRow 47 = .ok (.iinc 2 1, 3) := by decide +kernel
theorem dX4_removeRow_50 : decode cX4_removeRow 50 = .ok (.goto (-34), 3) := by decide +kernel
theorem dX4_removeRow_53 : decode cX4_removeRow 53 = .ok (.aload_n 0, 1) := by decide +kernel
theorem dX4_removeRow_54 : decode cX4_removeRow 54 = .ok (.dup, 1) := by decide +kernel
theorem dX4_removeRow_55 : decode cX4_removeRow 55 = .ok (.getfield 17, 3) := by decide +kernel
theorem dX4_removeRow_58 : decode cX4_removeRow 58 = .ok (.iconst 1, 1) := by decide +kernel
theorem dX4_removeRow_59 : decode cX4_removeRow 59 = .ok (.isub, 1) := by decide +kernel
theorem dX4_removeRow_60 : decode cX4_removeRow 60 = .ok (.putfield 17, 3) := by decide +kernel
theorem dX4_removeRow_63 : decode cX4_removeRow 63 = .ok (.return_, 1) := by decide +kernel
set_option maxRecDepth 20000 in
theorem ggX4_rowsWith_X4_get : GoodIn wsX4_rowsWith wsX4_get := goodIn_r _ [6, 1, 7, 8, 9, 10, 11] (by decide +kernel) (by decide +kernel)
set_option maxRecDepth 20000 in
theorem gX4_rowsWith_X4_get : GoodIn wsX4_rowsWith (wsV RX4 24 RX4 yX4_get wsX4_get) := goodIn_app (goodIn_of _ (by decide +kernel)) ggX4_rowsWith_X4_get
theorem dX4_rowsWith_0 : decode cX4_rowsWith 0 = .ok (.iconst 0, 1) := by decide +kernel
theorem dX4_rowsWith_1 : decode cX4_rowsWith 1 = .ok (.istore_n 3, 1) := by decide +kernel
theorem dX4_rowsWith_2 : decode cX4_rowsWith 2 = .ok (.iconst 0, 1) := by decide +kernel
theorem dX4_rowsWith_3 : decode cX4_rowsWith 3 = .ok (.istore 4, 2) := by decide +kernel
theorem dX4_rowsWith_5 : decode cX4_rowsWith 5 = .ok (.iload 4, 2) := by decide +kernel
theorem dX4_rowsWith_7 : decode cX4_rowsWith 7 = .ok (.aload_n 0, 1) := by decide +kernel
theorem dX4_rowsWith_8 : decode cX4_rowsWith 8 = .ok (.getfield 17, 3) := by decide +kernel
theorem dX4_rowsWith_11 : decode cX4_rowsWith 11 = .ok (.if_icmp .ge 23, 3) := by decide +kernel
theorem dX4_rowsWith_14 : decode cX4_rowsWith 14 = .ok (.aload_n 0, 1) := by decide +kernel
theorem dX4_rowsWith_15 : decode cX4_rowsWith 15 = .ok (.iload 4, 2) := by decide +kernel
theorem dX4_rowsWith_17 : decode cX4_rowsWith 17 = .ok (.iload_n 1, 1) := by decide +kernel
theorem dX4_rowsWith_18 : decode cX4_rowsWith 18 = .ok (.invokevirtual 24, 3) := by decide +kernel
theorem dX4_rowsWith_21 : decode cX4_rowsWith 21 = .ok (.iload_n 2, 1) := by decide +kernel
theorem dX4_rowsWith_22 : decode cX4_rowsWith 22 = .ok (.if_icmp .ne 6, 3) := by decide +kernel
theorem dX4_rowsWith_25 : decode cX4_rowsWith 25 = .ok (.iinc 3 1, 3) := by decide +kernel
theorem dX4_rowsWith_28 : decode cX4_rowsWith 28 = .ok (.iinc 4 1, 3) := by decide +kernel
theorem dX4_rowsWith_31 : decode cX4_rowsWith 31 = .ok (.goto (-26), 3) := by decide +kernel
theorem dX4_rowsWith_34 : decode cX4_rowsWith 34 = .ok (.iload_n 3, 1) := by decide +kernel
theorem dX4_rowsWith_35 : decode cX4_rowsWith 35 = .ok (.ireturn, 1) := by decide +kernel
set_option maxRecDepth 20000 in
theorem ggX4_sumOf_X4_get : GoodIn wsX4_sumOf wsX4_get := goodIn_r _ [6, 1, 7, 8, 9, 10, 11] (by decide +kernel) (by decide +kernel)
set_option maxRecDepth 20000 in
theorem gX4_sumOf_X4_get : GoodIn wsX4_sumOf (wsV RX4 24 RX4 yX4_get wsX4_get) := goodIn_app (goodIn_of _ (by decide +kernel)) ggX4_sumOf_X4_get
theorem dX4_sumOf_0 : decode cX4_sumOf 0 = .ok (.iconst 0, 1) := by decide +kernel
theorem dX4_sumOf_1 : decode cX4_sumOf 1 = .ok (.istore_n 2, 1) := by decide +kernel
theorem dX4_sumOf_2 : decode cX4_sumOf 2 = .ok (.iconst 0, 1) := by decide +kernel
theorem dX4_sumOf_3 : decode cX4_sumOf 3 = .ok (.istore_n 3, 1) := by decide +kernel
theorem dX4_sumOf_4 : decode cX4_sumOf 4 = .ok (.iload_n 3, 1) := by decide +kernel
theorem dX4_sumOf_5 : decode cX4_sumOf 5 = .ok (.aload_n 0, 1) := by decide +kernel
theorem dX4_sumOf_6 : decode cX4_sumOf 6 = .ok (.getfield 17, 3) := by decide +kernel
theorem dX4_sumOf_9 : decode cX4_sumOf 9 = .ok (.if_icmp .ge 18, 3) := by decide +kernel
theorem dX4_sumOf_12 : decode cX4_sumOf 12 = .ok (.iload_n 2, 1) := by decide +kernel
theorem dX4_sumOf_13 : decode cX4_sumOf 13 = .ok (.aload_n 0, 1) := by decide +kernel
theorem dX4_sumOf_14 : decode cX4_sumOf 14 = .ok (.iload_n 3, 1) := by decide +kernel
theorem dX4_sumOf_15 : decode cX4_sumOf 15 = .ok (.iload_n 1, 1) := by decide +kernel
theorem dX4_sumOf_16 : decode cX4_sumOf 16 = .ok (.invokevirtual 24, 3) := by decide +kernel
theorem dX4_sumOf_19 : decode cX4_sumOf 19 = .ok (.iadd, 1) := by decide +kernel
theorem dX4_sumOf_20 : decode cX4_sumOf 20 = .ok (.istore_n 2, 1) := by decide +kernel
theorem dX4_sumOf_21 : decode cX4_sumOf 21 = .ok (.iinc 3 1, 3) := by decide +kernel
theorem dX4_sumOf_24 : decode cX4_sumOf 24 = .ok (.goto (-20), 3) := by decide +kernel
theorem dX4_sumOf_27 : decode cX4_sumOf 27 = .ok (.iload_n 2, 1) := by decide +kernel
theorem dX4_sumOf_28 : decode cX4_sumOf 28 = .ok (.ireturn, 1) := by decide +kernel
theorem dX4_removeAll_0 : decode cX4_removeAll 0 = .ok (.aload_n 0, 1) := by decide +kernel
theorem dX4_removeAll_1 : decode cX4_removeAll 1 = .ok (.iconst 0, 1) := by decide +kernel
theorem dX4_removeAll_2 : decode cX4_removeAll 2 = .ok (.putfield 17, 3) := by decide +kernel
theorem dX4_removeAll_5 : decode cX4_removeAll 5 = .ok (.return_, 1) := by decide +kernel
theorem dX4_copyFrom_0 : decode cX4_copyFrom 0 = .ok (.aload_n 1, 1) := by decide +kernel
theorem dX4_copyFrom_1 : decode cX4_copyFrom 1 = .ok (.getfield 13, 3) := by decide +kernel
theorem dX4_copyFrom_4 : decode cX4_copyFrom 4 = .ok (.iconst 0, 1) := by decide +kernel
theorem dX4_copyFrom_5 : decode cX4_copyFrom 5 = .ok (.aload_n 0, 1) := by decide +kernel
theorem dX4_copyFrom_6 : decode cX4_copyFrom 6 = .ok (.getfield 13, 3) := by decide +kernel
theorem dX4_copyFrom_9 : decode cX4_copyFrom 9 = .ok (.iconst 0, 1) := by decide +kernel
theorem dX4_copyFrom_10 : decode cX4_copyFrom 10 = .ok (.aload_n 0, 1) := by decide +kernel
theorem dX4_copyFrom_11 : decode cX4_copyFrom 11 = .ok (.getfield 13, 3) := by decide +kernel
theorem dX4_copyFrom_14 : decode cX4_copyFrom 14 = .ok (.arraylength, 1) := by decide +kernel
theorem dX4_copyFrom_15 : decode cX4_copyFrom 15 = .ok (.aload_n 1, 1) := by decide +kernel
theorem dX4_copyFrom_16 : decode cX4_copyFrom 16 = .ok (.getfield 13, 3) := by decide +kernel
theorem dX4_copyFrom_19 : decode cX4_copyFrom 19 = .ok (.arraylength, 1) := by decide +kernel
theorem dX4_copyFrom_20 : decode cX4_copyFrom 20 = .ok (.invokestatic 28, 3) := by decide +kernel
theorem dX4_copyFrom_23 : decode cX4_copyFrom 23 = .ok (.invokestatic 33, 3) := by decide +kernel
theorem dX4_copyFrom_26 : decode cX4_copyFrom 26 = .ok (.aload_n 0, 1) := by decide +kernel
theorem dX4_copyFrom_27 : decode cX4_copyFrom 27 = .ok (.aload_n 1, 1) := by decide +kernel
theorem dX4_copyFrom_28 : decode cX4_copyFrom 28 = .ok (.getfield 17, 3) := by decide +kernel
theorem dX4_copyFrom_31 : decode cX4_copyFrom 31 = .ok (.putfield 17, 3) := by decide +kernel
theorem dX4_copyFrom_34 : decode cX4_copyFrom 34 = .ok (.return_, 1) := by decide +kernel
set_option maxRecDepth 20000 in
theorem ggX5_init_X2_init : GoodIn wsX5_init wsX2_init := goodIn_r _ [24, 25, 2, 3, 26, 27, 28, 29, 30, 31, 32, 33, 34, 35, 36, 37, 38, 93, 94, 95, 57, 58, 59, 60, 61] (by decide +kernel) (by decide +kernel)
set_option maxRecDepth 20000 in
theorem gX5_init_X2_init : GoodIn wsX5_init (wsX2_init) := ggX5_init_X2_init
set_option maxRecDepth 20000 in
theorem ggX5_init_X0_init : GoodIn wsX5_init wsX0_init := goodIn_r _ [40, 41, 2, 3, 42, 5, 6, 43, 44, 45, 46, 47, 23, 24, 25, 26, 27, 28, 29, 30, 31, 32, 33, 34, 35, 36, 37, 38, 57, 58, 59, 60, 61, 69, 70, 71, 72, 73, 93, 94, 95] (by decide +kernel) (by decide +kernel)
set_option maxRecDepth 20000 in
theorem gX5_init_X0_init_n24 : GoodIn wsX5_init (wsX0_init) := ggX5_init_X0_init
set_option maxRecDepth 20000 in
theorem ggX5_init_X1_init : GoodIn wsX5_init wsX1_init := goodIn_r _ [49, 50, 2, 3, 51, 52, 74, 75, 76, 77, 78, 79, 80, 81, 82, 83, 84, 85, 86, 87] (by decide +kernel) (by decide +kernel)
set_option maxRecDepth 20000 in
theorem gX5_init_X1_init_n31 : GoodIn wsX5_init (wsX1_init) := ggX5_init_X1_init
set_option maxRecDepth 20000 in
theorem ggX5_init_X3_init : GoodIn wsX5_init wsX3_init := goodIn_r _ [54, 55, 2, 3, 31, 56, 88, 89, 90, 91, 92] (by decide +kernel) (by decide +kernel)
set_option maxRecDepth 20000 in
theorem gX5_init_X3_init_n38 : GoodIn wsX5_init (wsX3_init) := ggX5_init_X3_init
theorem dX5_init_0 : decode cX5_init 0 = .ok (.aload_n 0, 1) := by decide +kernel
theorem dX5_init_1 : decode cX5_init 1 = .ok (.invokespecial 1, 3) := by decide +kernel
theorem dX5_init_4 : decode cX5_init 4 = .ok (.aload_n 0, 1) := by decide +kernel
theorem dX5_init_5 : decode cX5_init 5 = .ok (.new 7, 3) := by decide +kernel
theorem dX5_init_8 : decode cX5_init 8 = .ok (.dup, 1) := by decide +kernel
theorem dX5_init_9 : decode cX5_init 9 = .ok (.invokespecial 9, 3) := by decide +kernel
theorem dX5_init_12 : decode cX5_init 12 = .ok (.putfield 10, 3) := by decide +kernel
theorem dX5_init_15 : decode cX5_init 15 = .ok (.aload_n 0, 1) := by decide +kernel
theorem dX5_init_16 : decode cX5_init 16 = .ok (.new 7, 3) := by decide +kernel
theorem dX5_init_19 : decode cX5_init 19 = .ok (.dup, 1) := by decide +kernel
theorem dX5_init_20 : decode cX5_init 20 = .ok (.invokespecial 9, 3) := by decide +kernel
theorem dX5_init_23 : decode cX5_init 23 = .ok (.putfield 16, 3) := by decide +kernel
theorem dX5_init_26 : decode cX5_init 26 = .ok (.aload_n 0, 1) := by decide +kernel
theorem dX5_init_27 : decode cX5_init 27 = .ok (.new 7, 3) := by decide +kernel
theorem dX5_init_30 : decode cX5_init 30 = .ok (.dup, 1) := by decide +kernel
theorem dX5_init_31 : decode cX5_init 31 = .ok (.invokespecial 9, 3) := by decide +kernel
theorem dX5_init_34 : decode cX5_init 34 = .ok (.putfield 19, 3) := by decide +kernel
theorem dX5_init_37 : decode cX5_init 37 = .ok (.aload_n 0, 1) := by decide +kernel
theorem dX5_init_38 : decode cX5_init 38 = .ok (.new 22, 3) := by decide +kernel
theorem dX5_init_41 : decode cX5_init 41 = .ok (.dup, 1) := by decide +kernel
theorem dX5_init_42 : decode cX5_init 42 = .ok (.invokespecial 24, 3) := by decide +kernel
theorem dX5_init_45 : decode cX5_init 45 = .ok (.putfield 25, 3) := by decide +kernel
theorem dX5_init_48 : decode cX5_init 48 = .ok (.aload_n 0, 1) := by decide +kernel
theorem dX5_init_49 : decode cX5_init 49 = .ok (.new 29, 3) := by decide +kernel
theorem dX5_init_52 : decode cX5_init 52 = .ok (.dup, 1) := by decide +kernel
theorem dX5_init_53 : decode cX5_init 53 = .ok (.invokespecial 31, 3) := by decide +kernel
theorem dX5_init_56 : decode cX5_init 56 = .ok (.putfield 32, 3) := by decide +kernel
theorem dX5_init_59 : decode cX5_init 59 = .ok (.aload_n 0, 1) := by decide +kernel
theorem dX5_init_60 : decode cX5_init 60 = .ok (.new 36, 3) := by decide +kernel
theorem dX5_init_63 : decode cX5_init 63 = .ok (.dup, 1) := by decide +kernel
theorem dX5_init_64 : decode cX5_init 64 = .ok (.invokespecial 38, 3) := by decide +kernel
theorem dX5_init_67 : decode cX5_init 67 = .ok (.putfield 39, 3) := by decide +kernel
theorem dX5_init_70 : decode cX5_init 70 = .ok (.return_, 1) := by decide +kernel
set_option maxRecDepth 20000 in
theorem ggX5_zone_X5_within : GoodIn wsX5_zone wsX5_within := goodIn_r _ [6] (by decide +kernel) (by decide +kernel)
set_option maxRecDepth 20000 in
theorem gX5_zone_X5_within : GoodIn wsX5_zone (va_wsS RX5 43 yX5_within wsX5_within) := goodIn_app (goodIn_of _ (by decide +kernel)) ggX5_zone_X5_within
set_option maxRecDepth 20000 in
theorem ggX5_zone_X4_rows : GoodIn wsX5_zone wsX4_rows := goodIn_r _ [11, 12, 80, 81, 82] (by decide +kernel) (by decide +kernel)
set_option maxRecDepth 20000 in
theorem gX5_zone_X4_rows : GoodIn wsX5_zone (wsV RX5 51 RX4 yX4_rows wsX4_rows) := goodIn_app (goodIn_of _ (by decide +kernel)) ggX5_zone_X4_rows
set_option maxRecDepth 20000 in
theorem ggX5_zone_X0_record : GoodIn wsX5_zone wsX0_record := goodIn_r _ [17, 18, 19, 20, 21, 22, 23, 24, 25, 16, 26, 27, 28, 29, 30, 31, 32, 33, 34, 35, 36, 37, 38, 39, 40, 41, 42, 43, 10, 44, 45, 46, 47, 48, 49, 50, 12, 83, 84, 85, 86, 87, 75, 76, 77, 78, 79, 80, 81, 82] (by decide +kernel) (by decide +kernel)
set_option maxRecDepth 20000 in
theorem gX5_zone_X0_record : GoodIn wsX5_zone (wsV RX5 57 RX0 yX0_record wsX0_record) := goodIn_app (goodIn_of _ (by decide +kernel)) ggX5_zone_X0_record
set_option maxRecDepth 20000 in
theorem ggX5_zone_X2_addZone : GoodIn wsX5_zone wsX2_addZone := goodIn_r _ [54, 32, 55, 56, 57, 10, 58, 12, 59, 45, 60, 61, 62, 63, 64, 65, 66, 30, 67, 75, 76, 77, 78, 79, 80, 81, 82] (by decide +kernel) (by decide +kernel)
set_option maxRecDepth 20000 in
theorem gX5_zone_X2_addZone : GoodIn wsX5_zone (wsV RX5 61 RX2 yX2_addZone wsX2_addZone) := goodIn_app (goodIn_of _ (by decide +kernel)) ggX5_zone_X2_addZone
theorem dX5_zone_0 : decode cX5_zone 0 = .ok (.iload_n 1, 1) := by decide +kernel
theorem dX5_zone_1 : decode cX5_zone 1 = .ok (.iconst 0, 1) := by decide +kernel
theorem dX5_zone_2 : decode cX5_zone 2 = .ok (.bipush 35, 2) := by decide +kernel
theorem dX5_zone_4 : decode cX5_zone 4 = .ok (.invokestatic 43, 3) := by decide +kernel
theorem dX5_zone_7 : decode cX5_zone 7 = .ok (.ifCond .eq 13, 3) := by decide +kernel
theorem dX5_zone_10 : decode cX5_zone 10 = .ok (.iload_n 2, 1) := by decide +kernel
theorem dX5_zone_11 : decode cX5_zone 11 = .ok (.iload_n 1, 1) := by decide +kernel
theorem dX5_zone_12 : decode cX5_zone 12 = .ok (.bipush 35, 2) := by decide +kernel
theorem dX5_zone_14 : decode cX5_zone 14 = .ok (.invokestatic 43, 3) := by decide +kernel
theorem dX5_zone_17 : decode cX5_zone 17 = .ok (.ifCond .ne 5, 3) := by decide +kernel
theorem dX5_zone_20 : decode cX5_zone 20 = .ok (.iconst (-1), 1) := by decide +kernel
theorem dX5_zone_21 : decode cX5_zone 21 = .ok (.ireturn, 1) := by decide +kernel
theorem dX5_zone_22 : decode cX5_zone 22 = .ok (.iload_n 3, 1) := by decide +kernel
theorem dX5_zone_23 : decode cX5_zone 23 = .ok (.iconst 1, 1) := by decide +kernel
theorem dX5_zone_24 : decode cX5_zone 24 = .ok (.bipush 9, 2) := by decide +kernel
theorem dX5_zone_26 : decode cX5_zone 26 = .ok (.invokestatic 43, 3) := by decide +kernel
theorem dX5_zone_29 : decode cX5_zone 29 = .ok (.ifCond .eq 14, 3) := by decide +kernel
theorem dX5_zone_32 : decode cX5_zone 32 = .ok (.iload 4, 2) := by decide +kernel
theorem dX5_zone_34 : decode cX5_zone 34 = .ok (.iload_n 3, 1) := by decide +kernel
theorem dX5_zone_35 : decode cX5_zone 35 = .ok (.bipush 9, 2) := by decide +kernel
theorem dX5_zone_37 : decode cX5_zone 37 = .ok (.invokestatic 43, 3) := by decide +kernel
theorem dX5_zone_40 : decode cX5_zone 40 = .ok (.ifCond .ne 5, 3) := by decide +kernel
theorem dX5_zone_43 : decode cX5_zone 43 = .ok (.iconst (-1), 1) := by decide +kernel
theorem dX5_zone_44 : decode cX5_zone 44 = .ok (.ireturn, 1) := by decide +kernel
theorem dX5_zone_45 : decode cX5_zone 45 = .ok (.aload_n 0, 1) := by decide +kernel
theorem dX5_zone_46 : decode cX5_zone 46 = .ok (.getfield 10, 3) := by decide +kernel
theorem dX5_zone_49 : decode cX5_zone 49 = .ok (.getfield 47, 3) := by decide +kernel
theorem dX5_zone_52 : decode cX5_zone 52 = .ok (.invokevirtual 51, 3) := by decide +kernel
theorem dX5_zone_55 : decode cX5_zone 55 = .ok (.bipush 10, 2) := by decide +kernel
theorem dX5_zone_57 : decode cX5_zone 57 = .ok (.if_icmp .lt 6, 3) := by decide +kernel
theorem dX5_zone_60 : decode cX5_zone 60 = .ok (.bipush (-3), 2) := by decide +kernel
theorem dX5_zone_62 : decode cX5_zone 62 = .ok (.ireturn, 1) := by decide +kernel
theorem dX5_zone_63 : decode cX5_zone 63 = .ok (.aload_n 0, 1) := by decide +kernel
theorem dX5_zone_64 : decode cX5_zone 64 = .ok (.getfield 25, 3) := by decide +kernel
theorem dX5_zone_67 : decode cX5_zone 67 = .ok (.aload_n 0, 1) := by decide +kernel
theorem dX5_zone_68 : decode cX5_zone 68 = .ok (.getfield 10, 3) := by decide +kernel
theorem dX5_zone_71 : decode cX5_zone 71 = .ok (.invokevirtual 57, 3) := by decide +kernel
theorem dX5_zone_74 : decode cX5_zone 74 = .ok (.aload_n 0, 1) := by decide +kernel
theorem dX5_zone_75 : decode cX5_zone 75 = .ok (.getfield 10, 3) := by decide +kernel
theorem dX5_zone_78 : decode cX5_zone 78 = .ok (.iload_n 1, 1) := by decide +kernel
theorem dX5_zone_79 : decode cX5_zone 79 = .ok (.iload_n 2, 1) := by decide +kernel
theorem dX5_zone_80 : decode cX5_zone 80 = .ok (.iload_n 3, 1) := by decide +kernel
theorem dX5_zone_81 : decode cX5_zone 81 = .ok (.iload 4, 2) := by decide +kernel
theorem dX5_zone_83 : decode cX5_zone 83 = .ok (.invokevirtual 61, 3) := by decide +kernel
theorem dX5_zone_86 : decode cX5_zone 86 = .ok (.ireturn, 1) := by decide +kernel
set_option maxRecDepth 20000 in
theorem ggX5_like_X4_has : GoodIn wsX5_like wsX4_has := goodIn_r _ [7, 8, 80, 81, 82] (by decide +kernel) (by decide +kernel)
set_option maxRecDepth 20000 in
theorem gX5_like_X4_has : GoodIn wsX5_like (wsV RX5 65 RX4 yX4_has wsX4_has) := goodIn_app (goodIn_of _ (by decide +kernel)) ggX5_like_X4_has
set_option maxRecDepth 20000 in
theorem ggX5_like_X5_within : GoodIn wsX5_like wsX5_within := goodIn_r _ [12] (by decide +kernel) (by decide +kernel)
set_option maxRecDepth 20000 in
theorem gX5_like_X5_within : GoodIn wsX5_like (va_wsS RX5 43 yX5_within wsX5_within) := goodIn_app (goodIn_of _ (by decide +kernel)) ggX5_like_X5_within
set_option maxRecDepth 20000 in
theorem ggX5_like_X0_record : GoodIn wsX5_like wsX0_record := goodIn_r _ [17, 18, 19, 20, 21, 22, 23, 24, 25, 16, 26, 27, 28, 29, 30, 31, 32, 33, 34, 35, 36, 37, 38, 39, 40, 41, 42, 43, 6, 44, 45, 46, 47, 48, 49, 50, 8, 83, 84, 85, 86, 87, 75, 76, 77, 78, 79, 80, 81, 82] (by decide +kernel) (by decide +kernel)
set_option maxRecDepth 20000 in
theorem gX5_like_X0_record : GoodIn wsX5_like (wsV RX5 57 RX0 yX0_record wsX0_record) := goodIn_app (goodIn_of _ (by decide +kernel)) ggX5_like_X0_record
set_option maxRecDepth 20000 in
theorem ggX5_like_X2_shapeZone : GoodIn wsX5_like wsX2_shapeZone := goodIn_r _ [54, 32, 55, 56, 57, 6, 58, 8, 59, 45, 75, 76, 77, 78, 79, 80, 81, 82] (by decide +kernel) (by decide +kernel)
set_option maxRecDepth 20000 in
theorem gX5_like_X2_shapeZone : GoodIn wsX5_like (wsV RX5 69 RX2 yX2_shapeZone wsX2_shapeZone) := goodIn_app (goodIn_of _ (by decide +kernel)) ggX5_like_X2_shapeZone
set_option maxRecDepth 20000 in
theorem ggX5_like_X4_rowsWith : GoodIn wsX5_like wsX4_rowsWith := goodIn_r _ [63, 8, 64, 65, 66, 6, 67, 59, 45, 80, 81, 82] (by decide +kernel) (by decide +kernel)
set_option maxRecDepth 20000 in
theorem gX5_like_X4_rowsWith : GoodIn wsX5_like (wsV RX5 73 RX4 yX4_rowsWith wsX4_rowsWith) := goodIn_app (goodIn_of _ (by decide +kernel)) ggX5_like_X4_rowsWith
theorem dX5_like_0 : decode cX5_like 0 = .ok (.aload_n 0, 1) := by decide +kernel
theorem dX5_like_1 : decode cX5_like 1 = .ok (.getfield 10, 3) := by decide +kernel
theorem dX5_like_4 : decode cX5_like 4 = .ok (.getfield 47, 3) := by decide +kernel
theorem dX5_like_7 : decode cX5_like 7 = .ok (.iload_n 1, 1) := by decide +kernel
theorem dX5_like_8 : decode cX5_like 8 = .ok (.invokevirtual 65, 3) := by decide +kernel
theorem dX5_like_11 : decode cX5_like 11 = .ok (.ifCond .eq 12, 3) := by decide +kernel
theorem dX5_like_14 : decode cX5_like 14 = .ok (.iload_n 2, 1) := by decide +kernel
theorem dX5_like_15 : decode cX5_like 15 = .ok (.iconst 0, 1) := by decide +kernel
theorem dX5_like_16 : decode cX5_like 16 = .ok (.iconst 3, 1) := by decide +kernel
theorem dX5_like_17 : decode cX5_like 17 = .ok (.invokestatic 43, 3) := by decide +kernel
theorem dX5_like_20 : decode cX5_like 20 = .ok (.ifCond .ne 5, 3) := by decide +kernel
theorem dX5_like_23 : decode cX5_like 23 = .ok (.iconst (-1), 1) := by decide +kernel
theorem dX5_like_24 : decode cX5_like 24 = .ok (.ireturn, 1) := by decide +kernel
theorem dX5_like_25 : decode cX5_like 25 = .ok (.iload_n 3, 1) := by decide +kernel
theorem dX5_like_26 : decode cX5_like 26 = .ok (.iconst 0, 1) := by decide +kernel
theorem dX5_like_27 : decode cX5_like 27 = .ok (.iconst 4, 1) := by decide +kernel
theorem dX5_like_28 : decode cX5_like 28 = .ok (.invokestatic 43, 3) := by decide +kernel
theorem dX5_like_31 : decode cX5_like 31 = .ok (.ifCond .eq 14, 3) := by decide +kernel
theorem dX5_like_34 : decode cX5_like 34 = .ok (.iload 4, 2) := by decide +kernel
theorem dX5_like_36 : decode cX5_like 36 = .ok (.iconst 1, 1) := by decide +kernel
theorem dX5_like_37 : decode cX5_like 37 = .ok (.bipush 60, 2) := by decide +kernel
theorem dX5_like_39 : decode cX5_like 39 = .ok (.invokestatic 43, 3) := by decide +kernel
theorem dX5_like_42 : decode cX5_like 42 = .ok (.ifCond .ne 5, 3) := by decide +kernel
theorem dX5_like_45 : decode cX5_like 45 = .ok (.iconst (-1), 1) := by decide +kernel
theorem dX5_like_46 : decode cX5_like 46 = .ok (.ireturn, 1) := by decide +kernel
theorem dX5_like_47 : decode cX5_like 47 = .ok (.aload_n 0, 1) := by decide +kernel
theorem dX5_like_48 : decode cX5_like 48 = .ok (.getfield 25, 3) := by decide +kernel
theorem dX5_like_51 : decode cX5_like 51 = .ok (.aload_n 0, 1) := by decide +kernel
theorem dX5_like_52 : decode cX5_like 52 = .ok (.getfield 10, 3) := by decide +kernel
theorem dX5_like_55 : decode cX5_like 55 = .ok (.invokevirtual 57, 3) := by decide +kernel
theorem dX5_like_58 : decode cX5_like 58 = .ok (.aload_n 0, 1) := by decide +kernel
theorem dX5_like_59 : decode cX5_like 59 = .ok (.getfield 10, 3) := by decide +kernel
theorem dX5_like_62 : decode cX5_like 62 = .ok (.iload_n 1, 1) := by decide +kernel
theorem dX5_like_63 : decode cX5_like 63 = .ok (.iload_n 2, 1) := by decide +kernel
theorem dX5_like_64 : decode cX5_like 64 = .ok (.iload_n 3, 1) := by decide +kernel
theorem dX5_like_65 : decode cX5_like 65 = .ok (.iload 4, 2) := by decide +kernel
theorem dX5_like_67 : decode cX5_like 67 = .ok (.invokevirtual 69, 3) := by decide +kernel
theorem dX5_like_70 : decode cX5_like 70 = .ok (.iload_n 2, 1) := by decide +kernel
theorem dX5_like_71 : decode cX5_like 71 = .ok (.ifCond .ne 7, 3) := by decide +kernel
theorem dX5_like_74 : decode cX5_like 74 = .ok (.iconst 0, 1) := by decide +kernel
theorem dX5_like_75 : decode cX5_like 75 = .ok (.goto 15, 3) := by decide +kernel
theorem dX5_like_78 : decode cX5_like 78 = .ok (.aload_n 0, 1) := by decide +kernel
theorem dX5_like_79 : decode cX5_like 79 = .ok (.getfield 10, 3) := by decide +kernel
theorem dX5_like_82 : decode cX5_like 82 = .ok (.getfield 47, 3) := by decide +kernel
theorem dX5_like_85 : decode cX5_like 85 = .ok (.iconst 4, 1) := by decide +kernel
theorem dX5_like_86 : decode cX5_like 86 = .ok (.iload_n 2, 1) := by decide +kernel
theorem dX5_like_87 : decode cX5_like 87 = .ok (.invokevirtual 73, 3) := by decide +kernel
theorem dX5_like_90 : decode cX5_like 90 = .ok (.ireturn, 1) := by decide +kernel
set_option maxRecDepth 20000 in
theorem ggX5_takeZone_X4_has : GoodIn wsX5_takeZone wsX4_has := goodIn_r _ [7, 8, 93, 94, 95] (by decide +kernel) (by decide +kernel)
set_option maxRecDepth 20000 in
theorem gX5_takeZone_X4_has : GoodIn wsX5_takeZone (wsV RX5 65 RX4 yX4_has wsX4_has) := goodIn_app (goodIn_of _ (by decide +kernel)) ggX5_takeZone_X4_has
set_option maxRecDepth 20000 in
theorem ggX5_takeZone_X0_record : GoodIn wsX5_takeZone wsX0_record := goodIn_r _ [13, 14, 15, 16, 17, 18, 19, 20, 21, 12, 22, 23, 24, 25, 26, 27, 28, 29, 30, 31, 32, 33, 34, 35, 36, 37, 38, 39, 6, 40, 41, 42, 43, 44, 45, 46, 8, 96, 97, 98, 99, 100, 88, 89, 90, 91, 92, 93, 94, 95] (by decide +kernel) (by decide +kernel)
set_option maxRecDepth 20000 in
theorem gX5_takeZone_X0_record : GoodIn wsX5_takeZone (wsV RX5 57 RX0 yX0_record wsX0_record) := goodIn_app (goodIn_of _ (by decide +kernel)) ggX5_takeZone_X0_record
set_option maxRecDepth 20000 in
theorem ggX5_takeZone_X2_dropZone : GoodIn wsX5_takeZone wsX2_dropZone := goodIn_r _ [50, 29, 28, 51, 52, 53, 6, 54, 8, 55, 56, 57, 58, 59, 41, 60, 61, 62, 63, 64, 4, 5, 7, 65, 66, 67, 68, 69, 70, 71, 26, 72, 73, 74, 75, 76, 30, 77, 78, 79, 80, 88, 89, 90, 91, 92, 93, 94, 95] (by decide +kernel) (by decide +kernel)
set_option maxRecDepth 20000 in
theorem gX5_takeZone_X2_dropZone : GoodIn wsX5_takeZone (wsV RX5 77 RX2 yX2_dropZone wsX2_dropZone) := goodIn_app (goodIn_of _ (by decide +kernel)) ggX5_takeZone_X2_dropZone
theorem dX5_takeZone_0 : decode cX5_takeZone 0 = .ok (.aload_n 0, 1) := by decide +kernel
theorem dX5_takeZone_1 : decode cX5_takeZone 1 = .ok (.getfield 10, 3) := by decide +kernel
theorem dX5_takeZone_4 : decode cX5_takeZone 4 = .ok (.getfield 47, 3) := by decide +kernel
theorem dX5_takeZone_7 : decode cX5_takeZone 7 = .ok (.iload_n 1, 1) := by decide +kernel
theorem dX5_takeZone_8 : decode cX5_takeZone 8 = .ok (.invokevirtual 65, 3) := by decide +kernel
theorem dX5_takeZone_11 : decode cX5_takeZone 11 = .ok (.ifCond .ne 5, 3) := by decide +kernel
theorem dX5_takeZone_14 : decode cX5_takeZone 14 = .ok (.iconst (-1), 1) := by decide +kernel
theorem dX5_takeZone_15 : decode cX5_takeZone 15 = .ok (.ireturn, 1) := by decide +kernel
theorem dX5_takeZone_16 : decode cX5_takeZone 16 = .ok (.aload_n 0, 1) := by decide +kernel
theorem dX5_takeZone_17 : decode cX5_takeZone 17 = .ok (.getfield 25, 3) := by decide +kernel
theorem dX5_takeZone_20 : decode cX5_takeZone 20 = .ok (.aload_n 0, 1) := by decide +kernel
theorem dX5_takeZone_21 : decode cX5_takeZone 21 = .ok (.getfield 10, 3) := by decide +kernel
theorem dX5_takeZone_24 : decode cX5_takeZone 24 = .ok (.invokevirtual 57, 3) := by decide +kernel
theorem dX5_takeZone_27 : decode cX5_takeZone 27 = .ok (.aload_n 0, 1) := by decide +kernel
theorem dX5_takeZone_28 : decode cX5_takeZone 28 = .ok (.getfield 10, 3) := by decide +kernel
theorem dX5_takeZone_31 : decode cX5_takeZone 31 = .ok (.iload_n 1, 1) := by decide +kernel
theorem dX5_takeZone_32 : decode cX5_takeZone 32 = .ok (.invokevirtual 77, 3) := by decide +kernel
theorem dX5_takeZone_35 : decode cX5_takeZone 35 = .ok (.ireturn, 1) := by decide +kernel
set_option maxRecDepth 20000 in
theorem ggX5_hit_X5_isNote : GoodIn wsX5_hit wsX5_isNote := goodIn_r _ [6, 7, 8, 5, 9] (by decide +kernel) (by decide +kernel)
set_option maxRecDepth 20000 in
theorem gX5_hit_X5_isNote : GoodIn wsX5_hit (va_wsS RX5 81 yX5_isNote wsX5_isNote) := goodIn_app (goodIn_of _ (by decide +kernel)) ggX5_hit_X5_isNote
set_option maxRecDepth 20000 in
theorem ggX5_hit_X0_record : GoodIn wsX5_hit wsX0_record := goodIn_r _ [14, 15, 16, 17, 18, 19, 20, 21, 22, 13, 23, 24, 25, 26, 27, 28, 29, 30, 31, 32, 33, 34, 35, 36, 37, 38, 39, 40, 41, 42, 43, 44, 45, 46, 47, 48, 49, 130, 131, 132, 133, 134, 135, 136, 137, 138, 139, 140, 141, 142] (by decide +kernel) (by decide +kernel)
set_option maxRecDepth 20000 in
theorem gX5_hit_X0_record : GoodIn wsX5_hit (wsV RX5 57 RX0 yX0_record wsX0_record) := goodIn_app (goodIn_of _ (by decide +kernel)) ggX5_hit_X0_record
set_option maxRecDepth 20000 in
theorem ggX5_hit_X2_strike : GoodIn wsX5_hit wsX2_strike := goodIn_r _ [53, 37, 29, 54, 55, 56, 27, 57, 30, 58, 59, 60, 41, 61, 49, 62, 63, 64, 65, 66, 43, 67, 68, 69, 70, 71, 72, 73, 74, 75, 76, 77, 78, 79, 80, 81, 82, 31, 83, 84, 85, 86, 87, 88, 89, 90, 91, 92, 93, 94, 95, 96, 97, 98, 99, 100, 101, 102, 103, 104, 105, 106, 107, 108, 109, 110, 111, 112, 113, 114, 115, 116, 117, 118, 119, 120, 121, 122, 135, 136, 137, 138, 139, 140, 141, 142] (by decide +kernel) (by decide +kernel)
set_option maxRecDepth 20000 in
theorem gX5_hit_X2_strike : GoodIn wsX5_hit (wsV RX5 85 RX2 yX2_strike wsX2_strike) := goodIn_app (goodIn_of _ (by decide +kernel)) ggX5_hit_X2_strike
theorem dX5_hit_0 : decode cX5_hit 0 = .ok (.iload_n 1, 1) := by decide +kernel
theorem dX5_hit_1 : decode cX5_hit 1 = .ok (.iload_n 2, 1) := by decide +kernel
theorem dX5_hit_2 : decode cX5_hit 2 = .ok (.invokestatic 81, 3) := by decide +kernel
theorem dX5_hit_5 : decode cX5_hit 5 = .ok (.ifCond .ne 5, 3) := by decide +kernel
theorem dX5_hit_8 : decode cX5_hit 8 = .ok (.iconst (-1), 1) := by decide +kernel
theorem dX5_hit_9 : decode cX5_hit 9 = .ok (.ireturn, 1) := by decide +kernel
theorem dX5_hit_10 : decode cX5_hit 10 = .ok (.aload_n 0, 1) := by decide +kernel
theorem dX5_hit_11 : decode cX5_hit 11 = .ok (.getfield 25, 3) := by decide +kernel
theorem dX5_hit_14 : decode cX5_hit 14 = .ok (.aload_n 0, 1) := by decide +kernel
theorem dX5_hit_15 : decode cX5_hit 15 = .ok (.getfield 10, 3) := by decide +kernel
theorem dX5_hit_18 : decode cX5_hit 18 = .ok (.invokevirtual 57, 3) := by decide +kernel
theorem dX5_hit_21 : decode cX5_hit 21 = .ok (.aload_n 0, 1) := by decide +kernel
theorem dX5_hit_22 : decode cX5_hit 22 = .ok (.getfield 10, 3) := by decide +kernel
theorem dX5_hit_25 : decode cX5_hit 25 = .ok (.iload_n 1, 1) := by decide +kernel
theorem dX5_hit_26 : decode cX5_hit 26 = .ok (.iload_n 2, 1) := by decide +kernel
theorem dX5_hit_27 : decode cX5_hit 27 = .ok (.invokevirtual 85, 3) := by decide +kernel
theorem dX5_hit_30 : decode cX5_hit 30 = .ok (.ireturn, 1) := by decide +kernel
set_option maxRecDepth 20000 in
theorem ggX5_letGo_X5_within : GoodIn wsX5_letGo wsX5_within := goodIn_r _ [6] (by decide +kernel) (by decide +kernel)
set_option maxRecDepth 20000 in
theorem gX5_letGo_X5_within : GoodIn wsX5_letGo (va_wsS RX5 43 yX5_within wsX5_within) := goodIn_app (goodIn_of _ (by decide +kernel)) ggX5_letGo_X5_within
set_option maxRecDepth 20000 in
theorem ggX5_letGo_X0_record : GoodIn wsX5_letGo wsX0_record := goodIn_r _ [11, 12, 13, 14, 15, 16, 17, 18, 19, 10, 20, 21, 22, 23, 24, 25, 26, 27, 28, 29, 30, 31, 32, 33, 34, 35, 36, 37, 38, 39, 40, 41, 42, 43, 44, 45, 46, 75, 76, 77, 78, 79, 80, 81, 82, 83, 84, 85, 86, 87] (by decide +kernel) (by decide +kernel)
set_option maxRecDepth 20000 in
theorem gX5_letGo_X0_record : GoodIn wsX5_letGo (wsV RX5 57 RX0 yX0_record wsX0_record) := goodIn_app (goodIn_of _ (by decide +kernel)) ggX5_letGo_X0_record
set_option maxRecDepth 20000 in
theorem ggX5_letGo_X2_release : GoodIn wsX5_letGo wsX2_release := goodIn_r _ [50, 33, 51, 52, 53, 24, 54, 27, 55, 56, 57, 38, 58, 46, 59, 60, 61, 62, 63, 40, 64, 65, 66, 67, 80, 81, 82, 83, 84, 85, 86, 87] (by decide +kernel) (by decide +kernel)
set_option maxRecDepth 20000 in
theorem gX5_letGo_X2_release : GoodIn wsX5_letGo (wsV RX5 88 RX2 yX2_release wsX2_release) := goodIn_app (goodIn_of _ (by decide +kernel)) ggX5_letGo_X2_release
theorem dX5_letGo_0 : decode cX5_letGo 0 = .ok (.iload_n 1, 1) := by decide +kernel
theorem dX5_letGo_1 : decode cX5_letGo 1 = .ok (.iconst 0, 1) := by decide +kernel
theorem dX5_letGo_2 : decode cX5_letGo 2 = .ok (.bipush 35, 2) := by decide +kernel
theorem dX5_letGo_4 : decode cX5_letGo 4 = .ok (.invokestatic 43, 3) := by decide +kernel
theorem dX5_letGo_7 : decode cX5_letGo 7 = .ok (.ifCond .ne 5, 3) := by decide +kernel
theorem dX5_letGo_10 : decode cX5_letGo 10 = .ok (.iconst (-1), 1) := by decide +kernel
theorem dX5_letGo_11 : decode cX5_letGo 11 = .ok (.ireturn, 1) := by decide +kernel
theorem dX5_letGo_12 : decode cX5_letGo 12 = .ok (.aload_n 0, 1) := by decide +kernel
theorem dX5_letGo_13 : decode cX5_letGo 13 = .ok (.getfield 25, 3) := by decide +kernel
theorem dX5_letGo_16 : decode cX5_letGo 16 = .ok (.aload_n 0, 1) := by decide +kernel
theorem dX5_letGo_17 : decode cX5_letGo 17 = .ok (.getfield 10, 3) := by decide +kernel
theorem dX5_letGo_20 : decode cX5_letGo 20 = .ok (.invokevirtual 57, 3) := by decide +kernel
theorem dX5_letGo_23 : decode cX5_letGo 23 = .ok (.aload_n 0, 1) := by decide +kernel
theorem dX5_letGo_24 : decode cX5_letGo 24 = .ok (.getfield 10, 3) := by decide +kernel
theorem dX5_letGo_27 : decode cX5_letGo 27 = .ok (.iload_n 1, 1) := by decide +kernel
theorem dX5_letGo_28 : decode cX5_letGo 28 = .ok (.invokevirtual 88, 3) := by decide +kernel
theorem dX5_letGo_31 : decode cX5_letGo 31 = .ok (.ireturn, 1) := by decide +kernel
set_option maxRecDepth 20000 in
theorem ggX5_pedal_X0_record : GoodIn wsX5_pedal wsX0_record := goodIn_r _ [7, 8, 9, 10, 11, 12, 13, 14, 15, 6, 16, 17, 18, 19, 20, 21, 22, 23, 24, 25, 26, 27, 28, 29, 30, 31, 32, 33, 34, 35, 36, 37, 38, 39, 40, 41, 42, 67, 68, 69, 70, 71, 72, 73, 74, 75, 76, 77, 78, 79] (by decide +kernel) (by decide +kernel)
set_option maxRecDepth 20000 in
theorem gX5_pedal_X0_record : GoodIn wsX5_pedal (wsV RX5 57 RX0 yX0_record wsX0_record) := goodIn_app (goodIn_of _ (by decide +kernel)) ggX5_pedal_X0_record
set_option maxRecDepth 20000 in
theorem ggX5_pedal_X2_tread : GoodIn wsX5_pedal wsX2_tread := goodIn_r _ [46, 29, 23, 47, 48, 49, 34, 50, 42, 51, 52, 53, 54, 55, 36, 56, 57, 58, 59, 72, 73, 74, 75, 76, 77, 78, 79] (by decide +kernel) (by decide +kernel)
set_option maxRecDepth 20000 in
theorem gX5_pedal_X2_tread : GoodIn wsX5_pedal (wsV RX5 91 RX2 yX2_tread wsX2_tread) := goodIn_app (goodIn_of _ (by decide +kernel)) ggX5_pedal_X2_tread
theorem dX5_pedal_0 : decode cX5_pedal 0 = .ok (.aload_n 0, 1) := by decide +kernel
theorem dX5_pedal_1 : decode cX5_pedal 1 = .ok (.getfield 25, 3) := by decide +kernel
theorem dX5_pedal_4 : decode cX5_pedal 4 = .ok (.aload_n 0, 1) := by decide +kernel
theorem dX5_pedal_5 : decode cX5_pedal 5 = .ok (.getfield 10, 3) := by decide +kernel
theorem dX5_pedal_8 : decode cX5_pedal 8 = .ok (.invokevirtual 57, 3) := by decide +kernel
theorem dX5_pedal_11 : decode cX5_pedal 11 = .ok (.aload_n 0, 1) := by decide +kernel
theorem dX5_pedal_12 : decode cX5_pedal 12 = .ok (.getfield 10, 3) := by decide +kernel
theorem dX5_pedal_15 : decode cX5_pedal 15 = .ok (.invokevirtual 91, 3) := by decide +kernel
theorem dX5_pedal_18 : decode cX5_pedal 18 = .ok (.ireturn, 1) := by decide +kernel
set_option maxRecDepth 20000 in
theorem ggX5_pass_X5_within : GoodIn wsX5_pass wsX5_within := goodIn_r _ [6] (by decide +kernel) (by decide +kernel)
set_option maxRecDepth 20000 in
theorem gX5_pass_X5_within : GoodIn wsX5_pass (va_wsS RX5 43 yX5_within wsX5_within) := goodIn_app (goodIn_of _ (by decide +kernel)) ggX5_pass_X5_within
set_option maxRecDepth 20000 in
theorem ggX5_pass_X0_record : GoodIn wsX5_pass wsX0_record := goodIn_r _ [11, 12, 13, 14, 15, 16, 17, 18, 19, 10, 20, 21, 22, 23, 24, 25, 26, 27, 28, 29, 30, 31, 32, 33, 34, 35, 36, 37, 38, 39, 40, 41, 42, 43, 44, 45, 46, 99, 100, 101, 102, 103, 104, 105, 106, 107, 108, 109, 110, 111] (by decide +kernel) (by decide +kernel)
set_option maxRecDepth 20000 in
theorem gX5_pass_X0_record : GoodIn wsX5_pass (wsV RX5 57 RX0 yX0_record wsX0_record) := goodIn_app (goodIn_of _ (by decide +kernel)) ggX5_pass_X0_record
set_option maxRecDepth 20000 in
theorem ggX5_pass_X2_runTicks : GoodIn wsX5_pass wsX2_runTicks := goodIn_r _ [50, 27, 51, 52, 53, 24, 54, 28, 55, 56, 57, 38, 58, 46, 59, 60, 61, 62, 26, 63, 64, 65, 66, 67, 40, 68, 69, 70, 71, 72, 73, 74, 75, 76, 77, 78, 79, 80, 81, 82, 83, 84, 85, 86, 87, 88, 89, 90, 91, 104, 105, 106, 107, 108, 109, 110, 111] (by decide +kernel) (by decide +kernel)
set_option maxRecDepth 20000 in
theorem gX5_pass_X2_runTicks : GoodIn wsX5_pass (wsV RX5 94 RX2 yX2_runTicks wsX2_runTicks) := goodIn_app (goodIn_of _ (by decide +kernel)) ggX5_pass_X2_runTicks
theorem dX5_pass_0 : decode cX5_pass 0 = .ok (.iload_n 1, 1) := by decide +kernel
theorem dX5_pass_1 : decode cX5_pass 1 = .ok (.iconst 1, 1) := by decide +kernel
theorem dX5_pass_2 : decode cX5_pass 2 = .ok (.bipush 99, 2) := by decide +kernel
theorem dX5_pass_4 : decode cX5_pass 4 = .ok (.invokestatic 43, 3) := by decide +kernel
theorem dX5_pass_7 : decode cX5_pass 7 = .ok (.ifCond .ne 5, 3) := by decide +kernel
theorem dX5_pass_10 : decode cX5_pass 10 = .ok (.iconst (-1), 1) := by decide +kernel
theorem dX5_pass_11 : decode cX5_pass 11 = .ok (.ireturn, 1) := by decide +kernel
theorem dX5_pass_12 : decode cX5_pass 12 = .ok (.aload_n 0, 1) := by decide +kernel
theorem dX5_pass_13 : decode cX5_pass 13 = .ok (.getfield 25, 3) := by decide +kernel
theorem dX5_pass_16 : decode cX5_pass 16 = .ok (.aload_n 0, 1) := by decide +kernel
theorem dX5_pass_17 : decode cX5_pass 17 = .ok (.getfield 10, 3) := by decide +kernel
theorem dX5_pass_20 : decode cX5_pass 20 = .ok (.invokevirtual 57, 3) := by decide +kernel
theorem dX5_pass_23 : decode cX5_pass 23 = .ok (.aload_n 0, 1) := by decide +kernel
theorem dX5_pass_24 : decode cX5_pass 24 = .ok (.getfield 10, 3) := by decide +kernel
theorem dX5_pass_27 : decode cX5_pass 27 = .ok (.iload_n 1, 1) := by decide +kernel
theorem dX5_pass_28 : decode cX5_pass 28 = .ok (.invokevirtual 94, 3) := by decide +kernel
theorem dX5_pass_31 : decode cX5_pass 31 = .ok (.ireturn, 1) := by decide +kernel
set_option maxRecDepth 20000 in
theorem ggX5_silence_X0_record : GoodIn wsX5_silence wsX0_record := goodIn_r _ [7, 8, 9, 10, 11, 12, 13, 14, 15, 6, 16, 17, 18, 19, 20, 21, 22, 23, 24, 25, 26, 27, 28, 29, 30, 31, 32, 33, 34, 35, 36, 37, 38, 39, 40, 41, 42, 74, 75, 76, 77, 78, 79, 80, 81, 82, 83, 84, 85, 86] (by decide +kernel) (by decide +kernel)
set_option maxRecDepth 20000 in
theorem gX5_silence_X0_record : GoodIn wsX5_silence (wsV RX5 57 RX0 yX0_record wsX0_record) := goodIn_app (goodIn_of _ (by decide +kernel)) ggX5_silence_X0_record
set_option maxRecDepth 20000 in
theorem ggX5_silence_X2_stopAll : GoodIn wsX5_silence wsX2_stopAll := goodIn_r _ [46, 23, 47, 48, 49, 34, 50, 42, 51, 52, 53, 54, 55, 56, 57, 20, 58, 59, 60, 61, 62, 24, 63, 64, 65, 66, 79, 80, 81, 82, 83, 84, 85, 86] (by decide +kernel) (by decide +kernel)
set_option maxRecDepth 20000 in
theorem gX5_silence_X2_stopAll : GoodIn wsX5_silence (wsV RX5 97 RX2 yX2_stopAll wsX2_stopAll) := goodIn_app (goodIn_of _ (by decide +kernel)) ggX5_silence_X2_stopAll
theorem dX5_silence_0 : decode cX5_silence 0 = .ok (.aload_n 0, 1) := by decide +kernel
theorem dX5_silence_1 : decode cX5_silence 1 = .ok (.getfield 25, 3) := by decide +kernel
theorem dX5_silence_4 : decode cX5_silence 4 = .ok (.aload_n 0, 1) := by decide +kernel
theorem dX5_silence_5 : decode cX5_silence 5 = .ok (.getfield 10, 3) := by decide +kernel
theorem dX5_silence_8 : decode cX5_silence 8 = .ok (.invokevirtual 57, 3) := by decide +kernel
theorem dX5_silence_11 : decode cX5_silence 11 = .ok (.aload_n 0, 1) := by decide +kernel
theorem dX5_silence_12 : decode cX5_silence 12 = .ok (.getfield 10, 3) := by decide +kernel
theorem dX5_silence_15 : decode cX5_silence 15 = .ok (.invokevirtual 97, 3) := by decide +kernel
theorem dX5_silence_18 : decode cX5_silence 18 = .ok (.ireturn, 1) := by decide +kernel
set_option maxRecDepth 20000 in
theorem ggX5_set_X5_isSetting : GoodIn wsX5_set wsX5_isSetting := goodIn_r _ [6, 7, 8, 5, 9] (by decide +kernel) (by decide +kernel)
set_option maxRecDepth 20000 in
theorem gX5_set_X5_isSetting : GoodIn wsX5_set (va_wsS RX5 100 yX5_isSetting wsX5_isSetting) := goodIn_app (goodIn_of _ (by decide +kernel)) ggX5_set_X5_isSetting
set_option maxRecDepth 20000 in
theorem ggX5_set_X0_record : GoodIn wsX5_set wsX0_record := goodIn_r _ [14, 15, 16, 17, 18, 19, 20, 21, 22, 13, 23, 24, 25, 26, 27, 28, 29, 30, 31, 32, 33, 34, 35, 36, 37, 38, 39, 40, 41, 42, 43, 44, 45, 46, 47, 48, 49, 96, 97, 98, 99, 100, 101, 102, 103, 104, 105, 106, 107, 108] (by decide +kernel) (by decide +kernel)
set_option maxRecDepth 20000 in
theorem gX5_set_X0_record : GoodIn wsX5_set (wsV RX5 57 RX0 yX0_record wsX0_record) := goodIn_app (goodIn_of _ (by decide +kernel)) ggX5_set_X0_record
set_option maxRecDepth 20000 in
theorem ggX5_set_X2_number : GoodIn wsX5_set wsX2_number := goodIn_r _ [53, 31, 101, 102, 103, 104, 105] (by decide +kernel) (by decide +kernel)
set_option maxRecDepth 20000 in
theorem gX5_set_X2_number : GoodIn wsX5_set (wsV RX5 103 RX2 yX2_number wsX2_number) := goodIn_app (goodIn_of _ (by decide +kernel)) ggX5_set_X2_number
set_option maxRecDepth 20000 in
theorem ggX5_set_X2_putNumber : GoodIn wsX5_set wsX2_putNumber := goodIn_r _ [57, 31, 101, 102, 103, 104, 105] (by decide +kernel) (by decide +kernel)
set_option maxRecDepth 20000 in
theorem gX5_set_X2_putNumber : GoodIn wsX5_set (wsV RX5 106 RX2 yX2_putNumber wsX2_putNumber) := goodIn_app (goodIn_of _ (by decide +kernel)) ggX5_set_X2_putNumber
set_option maxRecDepth 20000 in
theorem ggX5_set_X2_stealDownTo : GoodIn wsX5_set wsX2_stealDownTo := goodIn_r _ [61, 30, 62, 63, 64, 41, 65, 49, 66, 67, 68, 27, 69, 70, 51, 52, 53, 31, 71, 72, 73, 74, 75, 43, 76, 77, 78, 79, 80, 81, 82, 83, 84, 85, 86, 87, 88, 55, 56, 57, 101, 102, 103, 104, 105, 106, 107, 108] (by decide +kernel) (by decide +kernel)
set_option maxRecDepth 20000 in
theorem gX5_set_X2_stealDownTo : GoodIn wsX5_set (wsV RX5 110 RX2 yX2_stealDownTo wsX2_stealDownTo) := goodIn_app (goodIn_of _ (by decide +kernel)) ggX5_set_X2_stealDownTo
theorem dX5_set_0 : decode cX5_set 0 = .ok (.iload_n 1, 1) := by decide +kernel
theorem dX5_set_1 : decode cX5_set 1 = .ok (.iload_n 2, 1) := by decide +kernel
theorem dX5_set_2 : decode cX5_set 2 = .ok (.invokestatic 100, 3) := by decide +kernel
theorem dX5_set_5 : decode cX5_set 5 = .ok (.ifCond .ne 5, 3) := by decide +kernel
theorem dX5_set_8 : decode cX5_set 8 = .ok (.iconst (-1), 1) := by decide +kernel
theorem dX5_set_9 : decode cX5_set 9 = .ok (.ireturn, 1) := by decide +kernel
theorem dX5_set_10 : decode cX5_set 10 = .ok (.aload_n 0, 1) := by decide +kernel
theorem dX5_set_11 : decode cX5_set 11 = .ok (.getfield 25, 3) := by decide +kernel
theorem dX5_set_14 : decode cX5_set 14 = .ok (.aload_n 0, 1) := by decide +kernel
theorem dX5_set_15 : decode cX5_set 15 = .ok (.getfield 10, 3) := by decide +kernel
theorem dX5_set_18 : decode cX5_set 18 = .ok (.invokevirtual 57, 3) := by decide +kernel
theorem dX5_set_21 : decode cX5_set 21 = .ok (.aload_n 0, 1) := by decide +kernel
theorem dX5_set_22 : decode cX5_set 22 = .ok (.getfield 10, 3) := by decide +kernel
theorem dX5_set_25 : decode cX5_set 25 = .ok (.bipush 6, 2) := by decide +kernel
theorem dX5_set_27 : decode cX5_set 27 = .ok (.iload_n 1, 1) := by decide +kernel
theorem dX5_set_28 : decode cX5_set 28 = .ok (.iadd, 1) := by decide +kernel
theorem dX5_set_29 : decode cX5_set 29 = .ok (.invokevirtual 103, 3) := by decide +kernel
theorem dX5_set_32 : decode cX5_set 32 = .ok (.istore_n 3, 1) := by decide +kernel
theorem dX5_set_33 : decode cX5_set 33 = .ok (.aload_n 0, 1) := by decide +kernel
theorem dX5_set_34 : decode cX5_set 34 = .ok (.getfield 10, 3) := by decide +kernel
theorem dX5_set_37 : decode cX5_set 37 = .ok (.bipush 6, 2) := by decide +kernel
theorem dX5_set_39 : decode cX5_set 39 = .ok (.iload_n 1, 1) := by decide +kernel
theorem dX5_set_40 : decode cX5_set 40 = .ok (.iadd, 1) := by decide +kernel
theorem dX5_set_41 : decode cX5_set 41 = .ok (.iload_n 2, 1) := by decide +kernel
theorem dX5_set_42 : decode cX5_set 42 = .ok (.invokevirtual 106, 3) := by decide +kernel
theorem dX5_set_45 : decode cX5_set 45 = .ok (.iload_n 1, 1) := by decide +kernel
theorem dX5_set_46 : decode cX5_set 46 = .ok (.ifCond .ne 11, 3) := by decide +kernel
theorem dX5_set_49 : decode cX5_set 49 = .ok (.aload_n 0, 1) := by decide +kernel
theorem dX5_set_50 : decode cX5_set 50 = .ok (.getfield 10, 3) := by decide +kernel
theorem dX5_set_53 : decode cX5_set 53 = .ok (.iload_n 2, 1) := by decide +kernel
theorem dX5_set_54 : decode cX5_set 54 = .ok (.invokevirtual 110, 3) := by decide +kernel
theorem dX5_set_57 : decode cX5_set 57 = .ok (.iload_n 3, 1) := by decide +kernel
theorem dX5_set_58 : decode cX5_set 58 = .ok (.ireturn, 1) := by decide +kernel
set_option maxRecDepth 20000 in
theorem ggX5_append_X5_within : GoodIn wsX5_append wsX5_within := goodIn_r _ [5] (by decide +kernel) (by decide +kernel)
set_option maxRecDepth 20000 in
theorem gX5_append_X5_within : GoodIn wsX5_append (va_wsS RX5 43 yX5_within wsX5_within) := goodIn_app (goodIn_of _ (by decide +kernel)) ggX5_append_X5_within
set_option maxRecDepth 20000 in
theorem ggX5_append_X1_length : GoodIn wsX5_append wsX1_length := goodIn_r _ [10, 11, 24, 25, 26, 27, 28, 29, 30, 31, 32, 33, 34, 35, 36, 37] (by decide +kernel) (by decide +kernel)
set_option maxRecDepth 20000 in
theorem gX5_append_X1_length : GoodIn wsX5_append (wsV RX5 114 RX1 yX1_length wsX1_length) := goodIn_app (goodIn_of _ (by decide +kernel)) ggX5_append_X1_length
set_option maxRecDepth 20000 in
theorem ggX5_append_X1_add : GoodIn wsX5_append wsX1_add := goodIn_r _ [15, 11, 16, 24, 25, 26, 27, 28, 29, 30, 31, 32, 33, 34, 35, 36, 37] (by decide +kernel) (by decide +kernel)
set_option maxRecDepth 20000 in
theorem gX5_append_X1_add : GoodIn wsX5_append (wsV RX5 117 RX1 yX1_add wsX1_add) := goodIn_app (goodIn_of _ (by decide +kernel)) ggX5_append_X1_add
theorem dX5_append_0 : decode cX5_append 0 = .ok (.iload_n 1, 1) := by decide +kernel
theorem dX5_append_1 : decode cX5_append 1 = .ok (.bipush 33, 2) := by decide +kernel
theorem dX5_append_3 : decode cX5_append 3 = .ok (.bipush 126, 2) := by decide +kernel
theorem dX5_append_5 : decode cX5_append 5 = .ok (.invokestatic 43, 3) := by decide +kernel
theorem dX5_append_8 : decode cX5_append 8 = .ok (.ifCond .ne 5, 3) := by decide +kernel
theorem dX5_append_11 : decode cX5_append 11 = .ok (.iconst (-1), 1) := by decide +kernel
theorem dX5_append_12 : decode cX5_append 12 = .ok (.ireturn, 1) := by decide +kernel
theorem dX5_append_13 : decode cX5_append 13 = .ok (.aload_n 0, 1) := by decide +kernel
theorem dX5_append_14 : decode cX5_append 14 = .ok (.getfield 32, 3) := by decide +kernel
theorem dX5_append_17 : decode cX5_append 17 = .ok (.invokevirtual 114, 3) := by decide +kernel
theorem dX5_append_20 : decode cX5_append 20 = .ok (.bipush 60, 2) := by decide +kernel
theorem dX5_append_22 : decode cX5_append 22 = .ok (.if_icmp .lt 6, 3) := by decide +kernel
theorem dX5_append_25 : decode cX5_append 25 = .ok (.bipush (-3), 2) := by decide +kernel
theorem dX5_append_27 : decode cX5_append 27 = .ok (.ireturn, 1) := by decide +kernel
theorem dX5_append_28 : decode cX5_append 28 = .ok (.aload_n 0, 1) := by decide +kernel
theorem dX5_append_29 : decode cX5_append 29 = .ok (.getfield 32, 3) := by decide +kernel
theorem dX5_append_32 : decode cX5_append 32 = .ok (.iload_n 1, 1) := by decide +kernel
theorem dX5_append_33 : decode cX5_append 33 = .ok (.i2c, 1) := by decide +kernel
theorem dX5_append_34 : decode cX5_append 34 = .ok (.invokevirtual 117, 3) := by decide +kernel
theorem dX5_append_37 : decode cX5_append 37 = .ok (.aload_n 0, 1) := by decide +kernel
theorem dX5_append_38 : decode cX5_append 38 = .ok (.getfield 32, 3) := by decide +kernel
theorem dX5_append_41 : decode cX5_append 41 = .ok (.invokevirtual 114, 3) := by decide +kernel
theorem dX5_append_44 : decode cX5_append 44 = .ok (.ireturn, 1) := by decide +kernel
set_option maxRecDepth 20000 in
theorem ggX5_clear_X1_length : GoodIn wsX5_clear wsX1_length := goodIn_r _ [6, 7, 19, 20, 21, 22, 23, 24, 25, 26, 27, 28, 29, 30, 31, 32] (by decide +kernel) (by decide +kernel)
set_option maxRecDepth 20000 in
theorem gX5_clear_X1_length : GoodIn wsX5_clear (wsV RX5 114 RX1 yX1_length wsX1_length) := goodIn_app (goodIn_of _ (by decide +kernel)) ggX5_clear_X1_length
set_option maxRecDepth 20000 in
theorem ggX5_clear_X1_empty : GoodIn wsX5_clear wsX1_empty := goodIn_r _ [11, 7, 19, 20, 21, 22, 23, 24, 25, 26, 27, 28, 29, 30, 31, 32] (by decide +kernel) (by decide +kernel)
set_option maxRecDepth 20000 in
theorem gX5_clear_X1_empty : GoodIn wsX5_clear (wsV RX5 121 RX1 yX1_empty wsX1_empty) := goodIn_app (goodIn_of _ (by decide +kernel)) ggX5_clear_X1_empty
theorem dX5_clear_0 : decode cX5_clear 0 = .ok (.aload_n 0, 1) := by decide +kernel
theorem dX5_clear_1 : decode cX5_clear 1 = .ok (.getfield 32, 3) := by decide +kernel
theorem dX5_clear_4 : decode cX5_clear 4 = .ok (.invokevirtual 114, 3) := by decide +kernel
theorem dX5_clear_7 : decode cX5_clear 7 = .ok (.istore_n 1, 1) := by decide +kernel
theorem dX5_clear_8 : decode cX5_clear 8 = .ok (.aload_n 0, 1) := by decide +kernel
theorem dX5_clear_9 : decode cX5_clear 9 = .ok (.getfield 32, 3) := by decide +kernel
theorem dX5_clear_12 : decode cX5_clear 12 = .ok (.invokevirtual 121, 3) := by decide +kernel
theorem dX5_clear_15 : decode cX5_clear 15 = .ok (.iload_n 1, 1) := by decide +kernel
theorem dX5_clear_16 : decode cX5_clear 16 = .ok (.ireturn, 1) := by decide +kernel
set_option maxRecDepth 20000 in
theorem ggX5_fault_X5_within : GoodIn wsX5_fault wsX5_within := goodIn_r _ [5] (by decide +kernel) (by decide +kernel)
set_option maxRecDepth 20000 in
theorem gX5_fault_X5_within : GoodIn wsX5_fault (va_wsS RX5 43 yX5_within wsX5_within) := goodIn_app (goodIn_of _ (by decide +kernel)) ggX5_fault_X5_within
set_option maxRecDepth 20000 in
theorem ggX5_fault_X1_faultAs : GoodIn wsX5_fault wsX1_faultAs := goodIn_r _ [10, 11, 12, 13, 14, 15, 9, 16, 17, 18, 19, 20, 21, 22, 23, 24, 25, 26, 27, 28, 29, 30, 31, 32, 33, 34, 35, 36, 37, 38, 39, 40, 41, 42, 43, 44, 45, 46, 47, 48, 49, 50, 51, 52, 53, 54, 55, 56, 57, 58, 59, 60, 61, 62, 63, 64, 65, 66, 67, 75, 76, 77, 78, 79, 80, 81, 82, 83, 84, 85, 86, 87, 88] (by decide +kernel) (by decide +kernel)
set_option maxRecDepth 20000 in
theorem gX5_fault_X1_faultAs : GoodIn wsX5_fault (wsV RX5 124 RX1 yX1_faultAs wsX1_faultAs) := goodIn_app (goodIn_of _ (by decide +kernel)) ggX5_fault_X1_faultAs
theorem dX5_fault_0 : decode cX5_fault 0 = .ok (.iload_n 1, 1) := by decide +kernel
theorem dX5_fault_1 : decode cX5_fault 1 = .ok (.iconst 0, 1) := by decide +kernel
theorem dX5_fault_2 : decode cX5_fault 2 = .ok (.iconst 1, 1) := by decide +kernel
theorem dX5_fault_3 : decode cX5_fault 3 = .ok (.invokestatic 43, 3) := by decide +kernel
theorem dX5_fault_6 : decode cX5_fault 6 = .ok (.ifCond .ne 5, 3) := by decide +kernel
theorem dX5_fault_9 : decode cX5_fault 9 = .ok (.iconst (-1), 1) := by decide +kernel
theorem dX5_fault_10 : decode cX5_fault 10 = .ok (.ireturn, 1) := by decide +kernel
theorem dX5_fault_11 : decode cX5_fault 11 = .ok (.aload_n 0, 1) := by decide +kernel
theorem dX5_fault_12 : decode cX5_fault 12 = .ok (.getfield 32, 3) := by decide +kernel
theorem dX5_fault_15 : decode cX5_fault 15 = .ok (.iload_n 1, 1) := by decide +kernel
theorem dX5_fault_16 : decode cX5_fault 16 = .ok (.invokevirtual 124, 3) := by decide +kernel
theorem dX5_fault_19 : decode cX5_fault 19 = .ok (.ireturn, 1) := by decide +kernel
set_option maxRecDepth 20000 in
theorem ggX5_load_X1_faultAs : GoodIn wsX5_load wsX1_faultAs := goodIn_r _ [8, 9, 10, 11, 12, 13, 7, 14, 15, 16, 17, 18, 19, 20, 21, 22, 23, 24, 25, 26, 27, 28, 29, 30, 31, 32, 33, 34, 35, 36, 37, 38, 39, 40, 41, 42, 43, 44, 45, 46, 47, 48, 49, 50, 51, 52, 53, 54, 55, 56, 57, 58, 59, 60, 61, 62, 63, 64, 65, 148, 149, 150, 151, 152, 153, 154, 155, 156, 157, 158, 159, 160, 161] (by decide +kernel) (by decide +kernel)
set_option maxRecDepth 20000 in
theorem gX5_load_X1_faultAs : GoodIn wsX5_load (wsV RX5 124 RX1 yX1_faultAs wsX1_faultAs) := goodIn_app (goodIn_of _ (by decide +kernel)) ggX5_load_X1_faultAs
set_option maxRecDepth 20000 in
theorem ggX5_load_X1_items : GoodIn wsX5_load wsX1_items := goodIn_r _ [18, 10, 19, 148, 149, 150, 151, 152, 153, 154, 155, 156, 157, 158, 159, 160, 161] (by decide +kernel) (by decide +kernel)
set_option maxRecDepth 20000 in
theorem gX5_load_X1_items : GoodIn wsX5_load (wsV RX5 127 RX1 yX1_items wsX1_items) := goodIn_app (goodIn_of _ (by decide +kernel)) ggX5_load_X1_items
set_option maxRecDepth 20000 in
theorem ggX5_load_X4_rows : GoodIn wsX5_load wsX4_rows := goodIn_r _ [71, 72, 162, 163, 164] (by decide +kernel) (by decide +kernel)
set_option maxRecDepth 20000 in
theorem gX5_load_X4_rows : GoodIn wsX5_load (wsV RX5 51 RX4 yX4_rows wsX4_rows) := goodIn_app (goodIn_of _ (by decide +kernel)) ggX5_load_X4_rows
set_option maxRecDepth 20000 in
theorem ggX5_load_X0_record : GoodIn wsX5_load wsX0_record := goodIn_r _ [77, 78, 79, 80, 81, 82, 83, 84, 85, 76, 86, 87, 88, 89, 90, 91, 92, 93, 94, 95, 96, 97, 98, 99, 100, 101, 102, 103, 70, 104, 105, 106, 107, 108, 109, 110, 72, 165, 166, 167, 168, 169, 143, 144, 145, 146, 147, 162, 163, 164] (by decide +kernel) (by decide +kernel)
set_option maxRecDepth 20000 in
theorem gX5_load_X0_record : GoodIn wsX5_load (wsV RX5 57 RX0 yX0_record wsX0_record) := goodIn_app (goodIn_of _ (by decide +kernel)) ggX5_load_X0_record
set_option maxRecDepth 20000 in
theorem ggX5_load_X1_rewind : GoodIn wsX5_load wsX1_rewind := goodIn_r _ [14, 9, 148, 149, 150, 151, 152, 153, 154, 155, 156, 157, 158, 159, 160, 161] (by decide +kernel) (by decide +kernel)
set_option maxRecDepth 20000 in
theorem gX5_load_X1_rewind : GoodIn wsX5_load (wsV RX5 130 RX1 yX1_rewind wsX1_rewind) := goodIn_app (goodIn_of _ (by decide +kernel)) ggX5_load_X1_rewind
set_option maxRecDepth 20000 in
theorem ggX5_load_X1_readZone : GoodIn wsX5_load wsX1_readZone := goodIn_r _ [23, 24, 25, 26, 27, 28, 29, 30, 31, 32, 33, 34, 7, 35, 9, 36, 37, 38, 39, 10, 19, 40, 41, 42, 43, 44, 45, 46, 47, 48, 49, 50, 148, 149, 150, 151, 152, 153, 154, 155, 156, 157, 158, 159, 160, 161] (by decide +kernel) (by decide +kernel)
set_option maxRecDepth 20000 in
theorem gX5_load_X1_readZone : GoodIn wsX5_load (wsV RX5 133 RX1 yX1_readZone wsX1_readZone) := goodIn_app (goodIn_of _ (by decide +kernel)) ggX5_load_X1_readZone
set_option maxRecDepth 20000 in
theorem ggX5_load_X2_addZone : GoodIn wsX5_load wsX2_addZone := goodIn_r _ [116, 92, 117, 118, 119, 70, 120, 72, 121, 105, 122, 123, 124, 125, 126, 127, 128, 90, 129, 143, 144, 145, 146, 147, 162, 163, 164] (by decide +kernel) (by decide +kernel)
set_option maxRecDepth 20000 in
theorem gX5_load_X2_addZone : GoodIn wsX5_load (wsV RX5 61 RX2 yX2_addZone wsX2_addZone) := goodIn_app (goodIn_of _ (by decide +kernel)) ggX5_load_X2_addZone
set_option maxRecDepth 20000 in
theorem ggX5_load_X2_shapeZone : GoodIn wsX5_load wsX2_shapeZone := goodIn_r _ [129, 92, 122, 123, 124, 70, 125, 72, 121, 105, 143, 144, 145, 146, 147, 162, 163, 164] (by decide +kernel) (by decide +kernel)
set_option maxRecDepth 20000 in
theorem gX5_load_X2_shapeZone : GoodIn wsX5_load (wsV RX5 69 RX2 yX2_shapeZone wsX2_shapeZone) := goodIn_app (goodIn_of _ (by decide +kernel)) ggX5_load_X2_shapeZone
set_option maxRecDepth 20000 in
theorem ggX5_load_X1_readSign : GoodIn wsX5_load wsX1_readSign := goodIn_r _ [46, 9, 36, 37, 38, 7, 39, 10, 19, 148, 149, 150, 151, 152, 153, 154, 155, 156, 157, 158, 159, 160, 161] (by decide +kernel) (by decide +kernel)
set_option maxRecDepth 20000 in
theorem gX5_load_X1_readSign : GoodIn wsX5_load (wsV RX5 159 RX1 yX1_readSign wsX1_readSign) := goodIn_app (goodIn_of _ (by decide +kernel)) ggX5_load_X1_readSign
set_option maxRecDepth 20000 in
theorem ggX5_load_X1_empty : GoodIn wsX5_load wsX1_empty := goodIn_r _ [135, 10, 148, 149, 150, 151, 152, 153, 154, 155, 156, 157, 158, 159, 160, 161] (by decide +kernel) (by decide +kernel)
set_option maxRecDepth 20000 in
theorem gX5_load_X1_empty : GoodIn wsX5_load (wsV RX5 121 RX1 yX1_empty wsX1_empty) := goodIn_app (goodIn_of _ (by decide +kernel)) ggX5_load_X1_empty
theorem dX5_load_0 : decode cX5_load 0 = .ok (.aload_n 0, 1) := by decide +kernel
theorem dX5_load_1 : decode cX5_load 1 = .ok (.getfield 32, 3) := by decide +kernel
theorem dX5_load_4 : decode cX5_load 4 = .ok (.iconst 0, 1) := by decide +kernel
theorem dX5_load_5 : decode cX5_load 5 = .ok (.invokevirtual 124, 3) := by decide +kernel
theorem dX5_load_8 : decode cX5_load 8 = .ok (.bipush (-4), 2) := by decide +kernel
theorem dX5_load_10 : decode cX5_load 10 = .ok (.if_icmp .eq 6, 3) := by decide +kernel
theorem dX5_load_13 : decode cX5_load 13 = .ok (.bipush (-2), 2) := by decide +kernel
theorem dX5_load_15 : decode cX5_load 15 = .ok (.ireturn, 1) := by decide +kernel
theorem dX5_load_16 : decode cX5_load 16 = .ok (.aload_n 0, 1) := by decide +kernel
theorem dX5_load_17 : decode cX5_load 17 = .ok (.getfield 32, 3) := by decide +kernel
theorem dX5_load_20 : decode cX5_load 20 = .ok (.invokevirtual 127, 3) := by decide +kernel
theorem dX5_load_23 : decode cX5_load 23 = .ok (.istore_n 1, 1) := by decide +kernel
theorem dX5_load_24 : decode cX5_load 24 = .ok (.aload_n 0, 1) := by decide +kernel
theorem dX5_load_25 : decode cX5_load 25 = .ok (.getfield 10, 3) := by decide +kernel
theorem dX5_load_28 : decode cX5_load 28 = .ok (.getfield 47, 3) := by decide +kernel
theorem dX5_load_31 : decode cX5_load 31 = .ok (.invokevirtual 51, 3) := by decide +kernel
theorem dX5_load_34 : decode cX5_load 34 = .ok (.iload_n 1, 1) := by decide +kernel
theorem dX5_load_35 : decode cX5_load 35 = .ok (.iadd, 1) := by decide +kernel
theorem dX5_load_36 : decode cX5_load 36 = .ok (.bipush 10, 2) := by decide +kernel
theorem dX5_load_38 : decode cX5_load 38 = .ok (.if_icmp .le 6, 3) := by decide +kernel
theorem dX5_load_41 : decode cX5_load 41 = .ok (.bipush (-3), 2) := by decide +kernel
theorem dX5_load_43 : decode cX5_load 43 = .ok (.ireturn, 1) := by decide +kernel
theorem dX5_load_44 : decode cX5_load 44 = .ok (.aload_n 0, 1) := by decide +kernel
theorem dX5_load_45 : decode cX5_load 45 = .ok (.getfield 25, 3) := by decide +kernel
theorem dX5_load_48 : decode cX5_load 48 = .ok (.aload_n 0, 1) := by decide +kernel
theorem dX5_load_49 : decode cX5_load 49 = .ok (.getfield 10, 3) := by decide +kernel
theorem dX5_load_52 : decode cX5_load 52 = .ok (.invokevirtual 57, 3) := by decide +kernel
theorem dX5_load_55 : decode cX5_load 55 = .ok (.aload_n 0, 1) := by decide +kernel
theorem dX5_load_56 : decode cX5_load 56 = .ok (.getfield 32, 3) := by decide +kernel
theorem dX5_load_59 : decode cX5_load 59 = .ok (.invokevirtual 130, 3) := by decide +kernel
theorem dX5_load_62 : decode cX5_load 62 = .ok (.iconst 0, 1) := by decide +kernel
theorem dX5_load_63 : decode cX5_load 63 = .ok (.istore_n 2, 1) := by decide +kernel
theorem dX5_load_64 : decode cX5_load 64 = .ok (.iload_n 2, 1) := by decide +kernel
theorem dX5_load_65 : decode cX5_load 65 = .ok (.iload_n 1, 1) := by decide +kernel
theorem dX5_load_66 : decode cX5_load 66 = .ok (.if_icmp .ge 94, 3) := by decide +kernel
theorem dX5_load_69 : decode cX5_load 69 = .ok (.aload_n 0, 1) := by decide +kernel
theorem dX5_load_70 : decode cX5_load 70 = .ok (.getfield 32, 3) := by decide +kernel
theorem dX5_load_73 : decode cX5_load 73 = .ok (.invokevirtual 133, 3) := by decide +kernel
theorem dX5_load_76 : decode cX5_load 76 = .ok (.ifCond .eq 68, 3) := by decide +kernel
theorem dX5_load_79 : decode cX5_load 79 = .ok (.aload_n 0, 1) := by decide +kernel
theorem dX5_load_80 : decode cX5_load 80 = .ok (.getfield 10, 3) := by decide +kernel
theorem dX5_load_83 : decode cX5_load 83 = .ok (.aload_n 0, 1) := by decide +kernel
theorem dX5_load_84 : decode cX5_load 84 = .ok (.getfield 32, 3) := by decide +kernel
theorem dX5_load_87 : decode cX5_load 87 = .ok (.getfield 137, 3) := by decide +kernel
theorem dX5_load_90 : decode cX5_load 90 = .ok (.aload_n 0, 1) := by decide +kernel
theorem dX5_load_91 : decode cX5_load 91 = .ok (.getfield 32, 3) := by decide +kernel
theorem dX5_load_94 : decode cX5_load 94 = .ok (.getfield 141, 3) := by decide +kernel
theorem dX5_load_97 : decode cX5_load 97 = .ok (.aload_n 0, 1) := by decide +kernel
theorem dX5_load_98 : decode cX5_load 98 = .ok (.getfield 32, 3) := by decide +kernel
theorem dX5_load_101 : decode cX5_load 101 = .ok (.getfield 144, 3) := by decide +kernel
theorem dX5_load_104 : decode cX5_load 104 = .ok (.aload_n 0, 1) := by decide +kernel
theorem dX5_load_105 : decode cX5_load 105 = .ok (.getfield 32, 3) := by decide +kernel
theorem dX5_load_108 : decode cX5_load 108 = .ok (.getfield 147, 3) := by decide +kernel
theorem dX5_load_111 : decode cX5_load 111 = .ok (.invokevirtual 61, 3) := by decide +kernel
theorem dX5_load_114 : decode cX5_load 114 = .ok (.istore_n 3, 1) := by decide +kernel
theorem dX5_load_115 : decode cX5_load 115 = .ok (.aload_n 0, 1) := by decide +kernel
theorem dX5_load_116 : decode cX5_load 116 = .ok (.getfield 10, 3) := by decide +kernel
theorem dX5_load_119 : decode cX5_load 119 = .ok (.iload_n 3, 1) := by decide +kernel
theorem dX5_load_120 : decode cX5_load 120 = .ok (.aload_n 0, 1) := by decide +kernel
theorem dX5_load_121 : decode cX5_load 121 = .ok (.getfield 32, 3) := by decide +kernel
theorem dX5_load_124 : decode cX5_load 124 = .ok (.getfield 150, 3) := by decide +kernel
theorem dX5_load_127 : decode cX5_load 127 = .ok (.aload_n 0, 1) := by decide +kernel
theorem dX5_load_128 : decode cX5_load 128 = .ok (.getfield 32, 3) := by decide +kernel
theorem dX5_load_131 : decode cX5_load 131 = .ok (.getfield 153, 3) := by decide +kernel
theorem dX5_load_134 : decode cX5_load 134 = .ok (.aload_n 0, 1) := by decide +kernel
theorem dX5_load_135 : decode cX5_load 135 = .ok (.getfield 32, 3) := by decide +kernel
theorem dX5_load_138 : decode cX5_load 138 = .ok (.getfield 156, 3) := by decide +kernel
theorem dX5_load_141 : decode cX5_load 141 = .ok (.invokevirtual 69, 3) := by decide +kernel
theorem dX5_load_144 : decode cX5_load 144 = .ok (.aload_n 0, 1) := by decide +kernel
theorem dX5_load_145 : decode cX5_load 145 = .ok (.getfield 32, 3) := by decide +kernel
theorem dX5_load_148 : decode cX5_load 148 = .ok (.bipush 59, 2) := by decide +kernel
theorem dX5_load_150 : decode cX5_load 150 = .ok (.invokevirtual 159, 3) := by decide +kernel
theorem dX5_load_153 : decode cX5_load 153 = .ok (.pop, 1) := by decide +kernel
theorem dX5_load_154 : decode cX5_load 154 = .ok (.iinc 2 1, 3) := by decide +kernel
theorem dX5_load_157 : decode cX5_load 157 = .ok (.goto (-93), 3) := by decide +kernel
theorem dX5_load_160 : decode cX5_load 160 = .ok (.aload_n 0, 1) := by decide +kernel
theorem dX5_load_161 : decode cX5_load 161 = .ok (.getfield 32, 3) := by decide +kernel
theorem dX5_load_164 : decode cX5_load 164 = .ok (.invokevirtual 121, 3) := by decide +kernel
theorem dX5_load_167 : decode cX5_load 167 = .ok (.aload_n 0, 1) := by decide +kernel
theorem dX5_load_168 : decode cX5_load 168 = .ok (.getfield 10, 3) := by decide +kernel
theorem dX5_load_171 : decode cX5_load 171 = .ok (.getfield 47, 3) := by decide +kernel
theorem dX5_load_174 : decode cX5_load 174 = .ok (.invokevirtual 51, 3) := by decide +kernel
theorem dX5_load_177 : decode cX5_load 177 = .ok (.ireturn, 1) := by decide +kernel
set_option maxRecDepth 20000 in
theorem ggX5_play_X1_faultAs : GoodIn wsX5_play wsX1_faultAs := goodIn_r _ [8, 9, 10, 11, 12, 13, 7, 14, 15, 16, 17, 18, 19, 20, 21, 22, 23, 24, 25, 26, 27, 28, 29, 30, 31, 32, 33, 34, 35, 36, 37, 38, 39, 40, 41, 42, 43, 44, 45, 46, 47, 48, 49, 50, 51, 52, 53, 54, 55, 56, 57, 58, 59, 60, 61, 62, 63, 64, 65, 220, 221, 222, 223, 224, 225, 226, 227, 228, 229, 230, 231, 232, 233] (by decide +kernel) (by decide +kernel)
set_option maxRecDepth 20000 in
theorem gX5_play_X1_faultAs : GoodIn wsX5_play (wsV RX5 124 RX1 yX1_faultAs wsX1_faultAs) := goodIn_app (goodIn_of _ (by decide +kernel)) ggX5_play_X1_faultAs
set_option maxRecDepth 20000 in
theorem ggX5_play_X0_record : GoodIn wsX5_play wsX0_record := goodIn_r _ [70, 71, 72, 73, 74, 75, 76, 77, 78, 69, 79, 80, 81, 82, 83, 84, 85, 86, 87, 88, 89, 90, 91, 92, 93, 94, 95, 96, 97, 98, 99, 100, 101, 102, 103, 104, 105, 234, 235, 236, 237, 238, 239, 240, 241, 242, 243, 244, 245, 246] (by decide +kernel) (by decide +kernel)
set_option maxRecDepth 20000 in
theorem gX5_play_X0_record : GoodIn wsX5_play (wsV RX5 57 RX0 yX0_record wsX0_record) := goodIn_app (goodIn_of _ (by decide +kernel)) ggX5_play_X0_record
set_option maxRecDepth 20000 in
theorem ggX5_play_X2_number : GoodIn wsX5_play wsX2_number := goodIn_r _ [109, 87, 239, 240, 241, 242, 243] (by decide +kernel) (by decide +kernel)
set_option maxRecDepth 20000 in
theorem gX5_play_X2_number : GoodIn wsX5_play (wsV RX5 103 RX2 yX2_number wsX2_number) := goodIn_app (goodIn_of _ (by decide +kernel)) ggX5_play_X2_number
set_option maxRecDepth 20000 in
theorem ggX5_play_X1_items : GoodIn wsX5_play wsX1_items := goodIn_r _ [18, 10, 19, 220, 221, 222, 223, 224, 225, 226, 227, 228, 229, 230, 231, 232, 233] (by decide +kernel) (by decide +kernel)
set_option maxRecDepth 20000 in
theorem gX5_play_X1_items : GoodIn wsX5_play (wsV RX5 127 RX1 yX1_items wsX1_items) := goodIn_app (goodIn_of _ (by decide +kernel)) ggX5_play_X1_items
set_option maxRecDepth 20000 in
theorem ggX5_play_X1_rewind : GoodIn wsX5_play wsX1_rewind := goodIn_r _ [14, 9, 220, 221, 222, 223, 224, 225, 226, 227, 228, 229, 230, 231, 232, 233] (by decide +kernel) (by decide +kernel)
set_option maxRecDepth 20000 in
theorem gX5_play_X1_rewind : GoodIn wsX5_play (wsV RX5 130 RX1 yX1_rewind wsX1_rewind) := goodIn_app (goodIn_of _ (by decide +kernel)) ggX5_play_X1_rewind
set_option maxRecDepth 20000 in
theorem ggX5_play_X1_readDeed : GoodIn wsX5_play wsX1_readDeed := goodIn_r _ [54, 55, 9, 36, 37, 38, 7, 39, 10, 19, 56, 57, 58, 59, 24, 60, 32, 33, 34, 35, 40, 41, 42, 43, 44, 45, 46, 61, 62, 63, 64, 65, 220, 221, 222, 223, 224, 225, 226, 227, 228, 229, 230, 231, 232, 233] (by decide +kernel) (by decide +kernel)
set_option maxRecDepth 20000 in
theorem gX5_play_X1_readDeed : GoodIn wsX5_play (wsV RX5 162 RX1 yX1_readDeed wsX1_readDeed) := goodIn_app (goodIn_of _ (by decide +kernel)) ggX5_play_X1_readDeed
set_option maxRecDepth 20000 in
theorem ggX5_play_X5_doDeed : GoodIn wsX5_play wsX5_doDeed := goodIn_r _ [117, 1, 3, 118, 119, 120, 83, 121, 93, 85, 122, 123, 124, 125, 86, 126, 127, 128, 97, 129, 105, 130, 131, 132, 133, 134, 99, 135, 136, 137, 138, 139, 140, 141, 142, 143, 144, 145, 146, 147, 107, 108, 109, 87, 148, 149, 150, 151, 152, 153, 154, 155, 156, 157, 158, 159, 160, 161, 162, 163, 164, 165, 166, 167, 168, 169, 170, 171, 172, 173, 174, 175, 176, 177, 178, 179, 180, 181, 182, 183, 184, 185, 186, 187, 188, 189, 190, 191, 92, 192, 193, 194, 195, 196, 197, 198, 199, 200, 201, 202, 203, 204, 205, 206, 207, 213, 214, 215, 216, 217, 218, 219, 220, 221, 222, 223, 224, 225, 226, 227, 228, 229, 230, 231, 232, 233, 239, 240, 241, 242, 243, 244, 245, 246] (by decide +kernel) (by decide +kernel)
set_option maxRecDepth 20000 in
theorem gX5_play_X5_doDeed : GoodIn wsX5_play (wsV RX5 165 RX5 yX5_doDeed wsX5_doDeed) := goodIn_app (goodIn_of _ (by decide +kernel)) ggX5_play_X5_doDeed
set_option maxRecDepth 20000 in
theorem ggX5_play_X1_readSign : GoodIn wsX5_play wsX1_readSign := goodIn_r _ [46, 9, 36, 37, 38, 7, 39, 10, 19, 220, 221, 222, 223, 224, 225, 226, 227, 228, 229, 230, 231, 232, 233] (by decide +kernel) (by decide +kernel)
set_option maxRecDepth 20000 in
theorem gX5_play_X1_readSign : GoodIn wsX5_play (wsV RX5 159 RX1 yX1_readSign wsX1_readSign) := goodIn_app (goodIn_of _ (by decide +kernel)) ggX5_play_X1_readSign
set_option maxRecDepth 20000 in
theorem ggX5_play_X1_empty : GoodIn wsX5_play wsX1_empty := goodIn_r _ [212, 10, 220, 221, 222, 223, 224, 225, 226, 227, 228, 229, 230, 231, 232, 233] (by decide +kernel) (by decide +kernel)
set_option maxRecDepth 20000 in
theorem gX5_play_X1_empty : GoodIn wsX5_play (wsV RX5 121 RX1 yX1_empty wsX1_empty) := goodIn_app (goodIn_of _ (by decide +kernel)) ggX5_play_X1_empty
theorem dX5_play_0 : decode cX5_play 0 = .ok (.aload_n 0, 1) := by decide +kernel
theorem dX5_play_1 : decode cX5_play 1 = .ok (.getfield 32, 3) := by decide +kernel
theorem dX5_play_4 : decode cX5_play 4 = .ok (.iconst 1, 1) := by decide +kernel
theorem dX5_play_5 : decode cX5_play 5 = .ok (.invokevirtual 124, 3) := by decide +kernel
theorem dX5_play_8 : decode cX5_play 8 = .ok (.bipush (-4), 2) := by decide +kernel
theorem dX5_play_10 : decode cX5_play 10 = .ok (.if_icmp .eq 6, 3) := by decide +kernel
theorem dX5_play_13 : decode cX5_play 13 = .ok (.bipush (-2), 2) := by decide +kernel
theorem dX5_play_15 : decode cX5_play 15 = .ok (.ireturn, 1) := by decide +kernel
theorem dX5_play_16 : decode cX5_play 16 = .ok (.aload_n 0, 1) := by decide +kernel
theorem dX5_play_17 : decode cX5_play 17 = .ok (.getfield 25, 3) := by decide +kernel
theorem dX5_play_20 : decode cX5_play 20 = .ok (.aload_n 0, 1) := by decide +kernel
theorem dX5_play_21 : decode cX5_play 21 = .ok (.getfield 10, 3) := by decide +kernel
theorem dX5_play_24 : decode cX5_play 24 = .ok (.invokevirtual 57, 3) := by decide +kernel
theorem dX5_play_27 : decode cX5_play 27 = .ok (.aload_n 0, 1) := by decide +kernel
theorem dX5_play_28 : decode cX5_play 28 = .ok (.getfield 10, 3) := by decide +kernel
theorem dX5_play_31 : decode cX5_play 31 = .ok (.iconst 1, 1) := by decide +kernel
theorem dX5_play_32 : decode cX5_play 32 = .ok (.invokevirtual 103, 3) := by decide +kernel
theorem dX5_play_35 : decode cX5_play 35 = .ok (.istore_n 1, 1) := by decide +kernel
theorem dX5_play_36 : decode cX5_play 36 = .ok (.aload_n 0, 1) := by decide +kernel
theorem dX5_play_37 : decode cX5_play 37 = .ok (.getfield 32, 3) := by decide +kernel
theorem dX5_play_40 : decode cX5_play 40 = .ok (.invokevirtual 127, 3) := by decide +kernel
theorem dX5_play_43 : decode cX5_play 43 = .ok (.istore_n 2, 1) := by decide +kernel
theorem dX5_play_44 : decode cX5_play 44 = .ok (.aload_n 0, 1) := by decide +kernel
theorem dX5_play_45 : decode cX5_play 45 = .ok (.getfield 32, 3) := by decide +kernel
theorem dX5_play_48 : decode cX5_play 48 = .ok (.invokevirtual 130, 3) := by decide +kernel
theorem dX5_play_51 : decode cX5_play 51 = .ok (.iconst 0, 1) := by decide +kernel
theorem dX5_play_52 : decode cX5_play 52 = .ok (.istore_n 3, 1) := by decide +kernel
theorem dX5_play_53 : decode cX5_play 53 = .ok (.iload_n 3, 1) := by decide +kernel
theorem dX5_play_54 : decode cX5_play 54 = .ok (.iload_n 2, 1) := by decide +kernel
theorem dX5_play_55 : decode cX5_play 55 = .ok (.if_icmp .ge 33, 3) := by decide +kernel
theorem dX5_play_58 : decode cX5_play 58 = .ok (.aload_n 0, 1) := by decide +kernel
theorem dX5_play_59 : decode cX5_play 59 = .ok (.getfield 32, 3) := by decide +kernel
theorem dX5_play_62 : decode cX5_play 62 = .ok (.invokevirtual 162, 3) := by decide +kernel
theorem dX5_play_65 : decode cX5_play 65 = .ok (.ifCond .eq 7, 3) := by decide +kernel
theorem dX5_play_68 : decode cX5_play 68 = .ok (.aload_n 0, 1) := by decide +kernel
theorem dX5_play_69 : decode cX5_play 69 = .ok (.invokevirtual 165, 3) := by decide +kernel
theorem dX5_play_72 : decode cX5_play 72 = .ok (.aload_n 0, 1) := by decide +kernel
theorem dX5_play_73 : decode cX5_play 73 = .ok (.getfield 32, 3) := by decide +kernel
theorem dX5_play_76 : decode cX5_play 76 = .ok (.bipush 59, 2) := by decide +kernel
theorem dX5_play_78 : decode cX5_play 78 = .ok (.invokevirtual 159, 3) := by decide +kernel
theorem dX5_play_81 : decode cX5_play 81 = .ok (.pop, 1) := by decide +kernel
theorem dX5_play_82 : decode cX5_play 82 = .ok (.iinc 3 1, 3) := by decide +kernel
theorem dX5_play_85 : decode cX5_play 85 = .ok (.goto (-32), 3) := by decide +kernel
theorem dX5_play_88 : decode cX5_play 88 = .ok (.aload_n 0, 1) := by decide +kernel
theorem dX5_play_89 : decode cX5_play 89 = .ok (.getfield 32, 3) := by decide +kernel
theorem dX5_play_92 : decode cX5_play 92 = .ok (.invokevirtual 121, 3) := by decide +kernel
theorem dX5_play_95 : decode cX5_play 95 = .ok (.aload_n 0, 1) := by decide +kernel
theorem dX5_play_96 : decode cX5_play 96 = .ok (.getfield 10, 3) := by decide +kernel
theorem dX5_play_99 : decode cX5_play 99 = .ok (.iconst 1, 1) := by decide +kernel
theorem dX5_play_100 : decode cX5_play 100 = .ok (.invokevirtual 103, 3) := by decide +kernel
theorem dX5_play_103 : decode cX5_play 103 = .ok (.iload_n 1, 1) := by decide +kernel
theorem dX5_play_104 : decode cX5_play 104 = .ok (.isub, 1) := by decide +kernel
theorem dX5_play_105 : decode cX5_play 105 = .ok (.ireturn, 1) := by decide +kernel
set_option maxRecDepth 20000 in
theorem ggX5_zoneOf_X4_has : GoodIn wsX5_zoneOf wsX4_has := goodIn_r _ [6, 7, 59, 60, 61] (by decide +kernel) (by decide +kernel)
set_option maxRecDepth 20000 in
theorem gX5_zoneOf_X4_has : GoodIn wsX5_zoneOf (wsV RX5 65 RX4 yX4_has wsX4_has) := goodIn_app (goodIn_of _ (by decide +kernel)) ggX5_zoneOf_X4_has
set_option maxRecDepth 20000 in
theorem ggX5_zoneOf_X5_within : GoodIn wsX5_zoneOf wsX5_within := goodIn_r _ [11] (by decide +kernel) (by decide +kernel)
set_option maxRecDepth 20000 in
theorem gX5_zoneOf_X5_within : GoodIn wsX5_zoneOf (va_wsS RX5 43 yX5_within wsX5_within) := goodIn_app (goodIn_of _ (by decide +kernel)) ggX5_zoneOf_X5_within
set_option maxRecDepth 20000 in
theorem ggX5_zoneOf_X4_rowsWith : GoodIn wsX5_zoneOf wsX4_rowsWith := goodIn_r _ [15, 7, 16, 17, 18, 5, 19, 20, 21, 59, 60, 61] (by decide +kernel) (by decide +kernel)
set_option maxRecDepth 20000 in
theorem gX5_zoneOf_X4_rowsWith : GoodIn wsX5_zoneOf (wsV RX5 73 RX4 yX4_rowsWith wsX4_rowsWith) := goodIn_app (goodIn_of _ (by decide +kernel)) ggX5_zoneOf_X4_rowsWith
set_option maxRecDepth 20000 in
theorem ggX5_zoneOf_X2_canSound : GoodIn wsX5_zoneOf wsX2_canSound := goodIn_r _ [26, 27, 28, 17, 18, 5, 19, 7, 20, 21, 29, 30, 31, 25, 32, 33, 34, 35, 36, 37, 38, 39, 40, 41, 42, 43, 44, 45, 54, 55, 56, 57, 58, 59, 60, 61] (by decide +kernel) (by decide +kernel)
set_option maxRecDepth 20000 in
theorem gX5_zoneOf_X2_canSound : GoodIn wsX5_zoneOf (wsV RX5 171 RX2 yX2_canSound wsX2_canSound) := goodIn_app (goodIn_of _ (by decide +kernel)) ggX5_zoneOf_X2_canSound
set_option maxRecDepth 20000 in
theorem ggX5_zoneOf_X4_get : GoodIn wsX5_zoneOf wsX4_get := goodIn_r _ [19, 7, 20, 21, 59, 60, 61] (by decide +kernel) (by decide +kernel)
set_option maxRecDepth 20000 in
theorem gX5_zoneOf_X4_get : GoodIn wsX5_zoneOf (wsV RX5 174 RX4 yX4_get wsX4_get) := goodIn_app (goodIn_of _ (by decide +kernel)) ggX5_zoneOf_X4_get
theorem dX5_zoneOf_0 : decode cX5_zoneOf 0 = .ok (.aload_n 0, 1) := by decide +kernel
theorem dX5_zoneOf_1 : decode cX5_zoneOf 1 = .ok (.getfield 10, 3) := by decide +kernel
theorem dX5_zoneOf_4 : decode cX5_zoneOf 4 = .ok (.getfield 47, 3) := by decide +kernel
theorem dX5_zoneOf_7 : decode cX5_zoneOf 7 = .ok (.iload_n 1, 1) := by decide +kernel
theorem dX5_zoneOf_8 : decode cX5_zoneOf 8 = .ok (.invokevirtual 65, 3) := by decide +kernel
theorem dX5_zoneOf_11 : decode cX5_zoneOf 11 = .ok (.ifCond .eq 13, 3) := by decide +kernel
theorem dX5_zoneOf_14 : decode cX5_zoneOf 14 = .ok (.iload_n 2, 1) := by decide +kernel
theorem dX5_zoneOf_15 : decode cX5_zoneOf 15 = .ok (.iconst 0, 1) := by decide +kernel
theorem dX5_zoneOf_16 : decode cX5_zoneOf 16 = .ok (.bipush 8, 2) := by decide +kernel
theorem dX5_zoneOf_18 : decode cX5_zoneOf 18 = .ok (.invokestatic 43, 3) := by decide +kernel
theorem dX5_zoneOf_21 : decode cX5_zoneOf 21 = .ok (.ifCond .ne 5, 3) := by decide +kernel
theorem dX5_zoneOf_24 : decode cX5_zoneOf 24 = .ok (.iconst (-1), 1) := by decide +kernel
theorem dX5_zoneOf_25 : decode cX5_zoneOf 25 = .ok (.ireturn, 1) := by decide +kernel
theorem dX5_zoneOf_26 : decode cX5_zoneOf 26 = .ok (.iload_n 2, 1) := by decide +kernel
theorem dX5_zoneOf_27 : decode cX5_zoneOf 27 = .ok (.bipush 7, 2) := by decide +kernel
theorem dX5_zoneOf_29 : decode cX5_zoneOf 29 = .ok (.if_icmp .ne 16, 3) := by decide +kernel
theorem dX5_zoneOf_32 : decode cX5_zoneOf 32 = .ok (.aload_n 0, 1) := by decide +kernel
theorem dX5_zoneOf_33 : decode cX5_zoneOf 33 = .ok (.getfield 10, 3) := by decide +kernel
theorem dX5_zoneOf_36 : decode cX5_zoneOf 36 = .ok (.getfield 168, 3) := by decide +kernel
theorem dX5_zoneOf_39 : decode cX5_zoneOf 39 = .ok (.iconst 0, 1) := by decide +kernel
theorem dX5_zoneOf_40 : decode cX5_zoneOf 40 = .ok (.iload_n 1, 1) := by decide +kernel
theorem dX5_zoneOf_41 : decode cX5_zoneOf 41 = .ok (.invokevirtual 73, 3) := by decide +kernel
theorem dX5_zoneOf_44 : decode cX5_zoneOf 44 = .ok (.ireturn, 1) := by decide +kernel
theorem dX5_zoneOf_45 : decode cX5_zoneOf 45 = .ok (.iload_n 2, 1) := by decide +kernel
theorem dX5_zoneOf_46 : decode cX5_zoneOf 46 = .ok (.bipush 8, 2) := by decide +kernel
theorem dX5_zoneOf_48 : decode cX5_zoneOf 48 = .ok (.if_icmp .ne 20, 3) := by decide +kernel
theorem dX5_zoneOf_51 : decode cX5_zoneOf 51 = .ok (.aload_n 0, 1) := by decide +kernel
theorem dX5_zoneOf_52 : decode cX5_zoneOf 52 = .ok (.getfield 10, 3) := by decide +kernel
theorem dX5_zoneOf_55 : decode cX5_zoneOf 55 = .ok (.iload_n 1, 1) := by decide +kernel
theorem dX5_zoneOf_56 : decode cX5_zoneOf 56 = .ok (.invokevirtual 171, 3) := by decide +kernel
theorem dX5_zoneOf_59 : decode cX5_zoneOf 59 = .ok (.ifCond .eq 7, 3) := by decide +kernel
theorem dX5_zoneOf_62 : decode cX5_zoneOf 62 = .ok (.iconst 1, 1) := by decide +kernel
theorem dX5_zoneOf_63 : decode cX5_zoneOf 63 = .ok (.goto 4, 3) := by decide +kernel
theorem dX5_zoneOf_66 : decode cX5_zoneOf 66 = .ok (.iconst 0, 1) := by decide +kernel
theorem dX5_zoneOf_67 : decode cX5_zoneOf 67 = .ok (.ireturn, 1) := by decide +kernel
theorem dX5_zoneOf_68 : decode cX5_zoneOf 68 = .ok (.aload_n 0, 1) := by decide +kernel
theorem dX5_zoneOf_69 : decode cX5_zoneOf 69 = .ok (.getfield 10, 3) := by decide +kernel
theorem dX5_zoneOf_72 : decode cX5_zoneOf 72 = .ok (.getfield 47, 3) := by decide +kernel
theorem dX5_zoneOf_75 : decode cX5_zoneOf 75 = .ok (.iload_n 1, 1) := by decide +kernel
theorem dX5_zoneOf_76 : decode cX5_zoneOf 76 = .ok (.iload_n 2, 1) := by decide +kernel
theorem dX5_zoneOf_77 : decode cX5_zoneOf 77 = .ok (.invokevirtual 174, 3) := by decide +kernel
theorem dX5_zoneOf_80 : decode cX5_zoneOf 80 = .ok (.ireturn, 1) := by decide +kernel
set_option maxRecDepth 20000 in
theorem ggX5_voice_X4_has : GoodIn wsX5_voice wsX4_has := goodIn_r _ [6, 7, 50, 51, 52] (by decide +kernel) (by decide +kernel)
set_option maxRecDepth 20000 in
theorem gX5_voice_X4_has : GoodIn wsX5_voice (wsV RX5 65 RX4 yX4_has wsX4_has) := goodIn_app (goodIn_of _ (by decide +kernel)) ggX5_voice_X4_has
set_option maxRecDepth 20000 in
theorem ggX5_voice_X5_within : GoodIn wsX5_voice wsX5_within := goodIn_r _ [11] (by decide +kernel) (by decide +kernel)
set_option maxRecDepth 20000 in
theorem gX5_voice_X5_within : GoodIn wsX5_voice (va_wsS RX5 43 yX5_within wsX5_within) := goodIn_app (goodIn_of _ (by decide +kernel)) ggX5_voice_X5_within
set_option maxRecDepth 20000 in
theorem ggX5_voice_X2_stealPlace : GoodIn wsX5_voice wsX2_stealPlace := goodIn_r _ [16, 17, 18, 19, 20, 15, 21, 22, 23, 24, 25, 26, 27, 28, 29, 5, 30, 7, 31, 32, 33, 34, 35, 36, 45, 46, 47, 48, 49, 50, 51, 52] (by decide +kernel) (by decide +kernel)
set_option maxRecDepth 20000 in
theorem gX5_voice_X2_stealPlace : GoodIn wsX5_voice (wsV RX5 177 RX2 yX2_stealPlace wsX2_stealPlace) := goodIn_app (goodIn_of _ (by decide +kernel)) ggX5_voice_X2_stealPlace
set_option maxRecDepth 20000 in
theorem ggX5_voice_X4_get : GoodIn wsX5_voice wsX4_get := goodIn_r _ [30, 7, 31, 32, 50, 51, 52] (by decide +kernel) (by decide +kernel)
set_option maxRecDepth 20000 in
theorem gX5_voice_X4_get : GoodIn wsX5_voice (wsV RX5 174 RX4 yX4_get wsX4_get) := goodIn_app (goodIn_of _ (by decide +kernel)) ggX5_voice_X4_get
theorem dX5_voice_0 : decode cX5_voice 0 = .ok (.aload_n 0, 1) := by decide +kernel
theorem dX5_voice_1 : decode cX5_voice 1 = .ok (.getfield 10, 3) := by decide +kernel
theorem dX5_voice_4 : decode cX5_voice 4 = .ok (.getfield 168, 3) := by decide +kernel
theorem dX5_voice_7 : decode cX5_voice 7 = .ok (.iload_n 1, 1) := by decide +kernel
theorem dX5_voice_8 : decode cX5_voice 8 = .ok (.invokevirtual 65, 3) := by decide +kernel
theorem dX5_voice_11 : decode cX5_voice 11 = .ok (.ifCond .eq 13, 3) := by decide +kernel
theorem dX5_voice_14 : decode cX5_voice 14 = .ok (.iload_n 2, 1) := by decide +kernel
theorem dX5_voice_15 : decode cX5_voice 15 = .ok (.iconst 0, 1) := by decide +kernel
theorem dX5_voice_16 : decode cX5_voice 16 = .ok (.bipush 6, 2) := by decide +kernel
theorem dX5_voice_18 : decode cX5_voice 18 = .ok (.invokestatic 43, 3) := by decide +kernel
theorem dX5_voice_21 : decode cX5_voice 21 = .ok (.ifCond .ne 5, 3) := by decide +kernel
theorem dX5_voice_24 : decode cX5_voice 24 = .ok (.iconst (-1), 1) := by decide +kernel
theorem dX5_voice_25 : decode cX5_voice 25 = .ok (.ireturn, 1) := by decide +kernel
theorem dX5_voice_26 : decode cX5_voice 26 = .ok (.iload_n 2, 1) := by decide +kernel
theorem dX5_voice_27 : decode cX5_voice 27 = .ok (.bipush 6, 2) := by decide +kernel
theorem dX5_voice_29 : decode cX5_voice 29 = .ok (.if_icmp .ne 14, 3) := by decide +kernel
theorem dX5_voice_32 : decode cX5_voice 32 = .ok (.aload_n 0, 1) := by decide +kernel
theorem dX5_voice_33 : decode cX5_voice 33 = .ok (.getfield 10, 3) := by decide +kernel
theorem dX5_voice_36 : decode cX5_voice 36 = .ok (.iload_n 1, 1) := by decide +kernel
theorem dX5_voice_37 : decode cX5_voice 37 = .ok (.invokevirtual 177, 3) := by decide +kernel
theorem dX5_voice_40 : decode cX5_voice 40 = .ok (.goto 15, 3) := by decide +kernel
theorem dX5_voice_43 : decode cX5_voice 43 = .ok (.aload_n 0, 1) := by decide +kernel
theorem dX5_voice_44 : decode cX5_voice 44 = .ok (.getfield 10, 3) := by decide +kernel
theorem dX5_voice_47 : decode cX5_voice 47 = .ok (.getfield 168, 3) := by decide +kernel
theorem dX5_voice_50 : decode cX5_voice 50 = .ok (.iload_n 1, 1) := by decide +kernel
theorem dX5_voice_51 : decode cX5_voice 51 = .ok (.iload_n 2, 1) := by decide +kernel
theorem dX5_voice_52 : decode cX5_voice 52 = .ok (.invokevirtual 174, 3) := by decide +kernel
theorem dX5_voice_55 : decode cX5_voice 55 = .ok (.ireturn, 1) := by decide +kernel
set_option maxRecDepth 20000 in
theorem ggX5_answers_X5_isNote : GoodIn wsX5_answers wsX5_isNote := goodIn_r _ [5, 6, 7, 4, 8] (by decide +kernel) (by decide +kernel)
set_option maxRecDepth 20000 in
theorem gX5_answers_X5_isNote : GoodIn wsX5_answers (va_wsS RX5 81 yX5_isNote wsX5_isNote) := goodIn_app (goodIn_of _ (by decide +kernel)) ggX5_answers_X5_isNote
set_option maxRecDepth 20000 in
theorem ggX5_answers_X2_matching : GoodIn wsX5_answers wsX2_matching := goodIn_r _ [13, 14, 15, 16, 17, 18, 19, 20, 21, 22, 23, 12, 24, 25, 26, 27, 28, 29, 30, 38, 39, 40, 41, 42, 43, 44, 45] (by decide +kernel) (by decide +kernel)
set_option maxRecDepth 20000 in
theorem gX5_answers_X2_matching : GoodIn wsX5_answers (wsV RX5 180 RX2 yX2_matching wsX2_matching) := goodIn_app (goodIn_of _ (by decide +kernel)) ggX5_answers_X2_matching
theorem dX5_answers_0 : decode cX5_answers 0 = .ok (.iload_n 1, 1) := by decide +kernel
theorem dX5_answers_1 : decode cX5_answers 1 = .ok (.iload_n 2, 1) := by decide +kernel
theorem dX5_answers_2 : decode cX5_answers 2 = .ok (.invokestatic 81, 3) := by decide +kernel
theorem dX5_answers_5 : decode cX5_answers 5 = .ok (.ifCond .eq 15, 3) := by decide +kernel
theorem dX5_answers_8 : decode cX5_answers 8 = .ok (.aload_n 0, 1) := by decide +kernel
theorem dX5_answers_9 : decode cX5_answers 9 = .ok (.getfield 10, 3) := by decide +kernel
theorem dX5_answers_12 : decode cX5_answers 12 = .ok (.iload_n 1, 1) := by decide +kernel
theorem dX5_answers_13 : decode cX5_answers 13 = .ok (.iload_n 2, 1) := by decide +kernel
theorem dX5_answers_14 : decode cX5_answers 14 = .ok (.invokevirtual 180, 3) := by decide +kernel
theorem dX5_answers_17 : decode cX5_answers 17 = .ok (.goto 4, 3) := by decide +kernel
theorem dX5_answers_20 : decode cX5_answers 20 = .ok (.iconst (-1), 1) := by decide +kernel
theorem dX5_answers_21 : decode cX5_answers 21 = .ok (.ireturn, 1) := by decide +kernel
set_option maxRecDepth 20000 in
theorem ggX5_map_X5_within : GoodIn wsX5_map wsX5_within := goodIn_r _ [6] (by decide +kernel) (by decide +kernel)
set_option maxRecDepth 20000 in
theorem gX5_map_X5_within : GoodIn wsX5_map (va_wsS RX5 43 yX5_within wsX5_within) := goodIn_app (goodIn_of _ (by decide +kernel)) ggX5_map_X5_within
set_option maxRecDepth 20000 in
theorem ggX5_map_X3_goByPlaces : GoodIn wsX5_map wsX3_goByPlaces := goodIn_r _ [11, 12, 13, 14, 10, 15, 16, 17, 18, 19, 20, 21, 22, 23, 24, 25, 26, 27, 28, 29, 30, 31, 32, 33, 34, 35, 36, 37, 38, 39, 40, 41, 42, 43, 44, 45, 46, 47, 48, 49, 50, 72, 73, 74, 75, 76, 77, 78, 79, 80, 81, 82, 83, 84] (by decide +kernel) (by decide +kernel)
set_option maxRecDepth 20000 in
theorem gX5_map_X3_goByPlaces : GoodIn wsX5_map (wsV RX5 183 RX3 yX3_goByPlaces wsX3_goByPlaces) := goodIn_app (goodIn_of _ (by decide +kernel)) ggX5_map_X3_goByPlaces
set_option maxRecDepth 20000 in
theorem ggX5_map_X3_goByEdges : GoodIn wsX5_map wsX3_goByEdges := goodIn_r _ [54, 16, 12, 13, 14, 10, 15, 17, 18, 19, 20, 55, 28, 29, 30, 31, 32, 56, 38, 39, 40, 41, 42, 57, 58, 59, 60, 43, 44, 45, 46, 47, 48, 49, 50, 77, 78, 79, 80, 81, 72, 73, 74, 75, 76, 82, 83, 84] (by decide +kernel) (by decide +kernel)
set_option maxRecDepth 20000 in
theorem gX5_map_X3_goByEdges : GoodIn wsX5_map (wsV RX5 186 RX3 yX3_goByEdges wsX3_goByEdges) := goodIn_app (goodIn_of _ (by decide +kernel)) ggX5_map_X3_goByEdges
set_option maxRecDepth 20000 in
theorem ggX5_map_X3_finding : GoodIn wsX5_map wsX3_finding := goodIn_r _ [64, 17, 18, 19, 20, 72, 73, 74, 75, 76] (by decide +kernel) (by decide +kernel)
set_option maxRecDepth 20000 in
theorem gX5_map_X3_finding : GoodIn wsX5_map (wsV RX5 189 RX3 yX3_finding wsX3_finding) := goodIn_app (goodIn_of _ (by decide +kernel)) ggX5_map_X3_finding
theorem dX5_map_0 : decode cX5_map 0 = .ok (.iload_n 1, 1) := by decide +kernel
theorem dX5_map_1 : decode cX5_map 1 = .ok (.iconst 0, 1) := by decide +kernel
theorem dX5_map_2 : decode cX5_map 2 = .ok (.iconst 3, 1) := by decide +kernel
theorem dX5_map_3 : decode cX5_map 3 = .ok (.invokestatic 43, 3) := by decide +kernel
theorem dX5_map_6 : decode cX5_map 6 = .ok (.ifCond .eq 12, 3) := by decide +kernel
theorem dX5_map_9 : decode cX5_map 9 = .ok (.iload_n 2, 1) := by decide +kernel
theorem dX5_map_10 : decode cX5_map 10 = .ok (.iconst 0, 1) := by decide +kernel
theorem dX5_map_11 : decode cX5_map 11 = .ok (.iconst 1, 1) := by decide +kernel
theorem dX5_map_12 : decode cX5_map 12 = .ok (.invokestatic 43, 3) := by decide +kernel
theorem dX5_map_15 : decode cX5_map 15 = .ok (.ifCond .ne 5, 3) := by decide +kernel
theorem dX5_map_18 : decode cX5_map 18 = .ok (.iconst (-1), 1) := by decide +kernel
theorem dX5_map_19 : decode cX5_map 19 = .ok (.ireturn, 1) := by decide +kernel
theorem dX5_map_20 : decode cX5_map 20 = .ok (.iload_n 2, 1) := by decide +kernel
theorem dX5_map_21 : decode cX5_map 21 = .ok (.ifCond .ne 17, 3) := by decide +kernel
theorem dX5_map_24 : decode cX5_map 24 = .ok (.aload_n 0, 1) := by decide +kernel
theorem dX5_map_25 : decode cX5_map 25 = .ok (.getfield 39, 3) := by decide +kernel
theorem dX5_map_28 : decode cX5_map 28 = .ok (.aload_n 0, 1) := by decide +kernel
theorem dX5_map_29 : decode cX5_map 29 = .ok (.getfield 10, 3) := by decide +kernel
theorem dX5_map_32 : decode cX5_map 32 = .ok (.invokevirtual 183, 3) := by decide +kernel
theorem dX5_map_35 : decode cX5_map 35 = .ok (.goto 14, 3) := by decide +kernel
theorem dX5_map_38 : decode cX5_map 38 = .ok (.aload_n 0, 1) := by decide +kernel
theorem dX5_map_39 : decode cX5_map 39 = .ok (.getfield 39, 3) := by decide +kernel
theorem dX5_map_42 : decode cX5_map 42 = .ok (.aload_n 0, 1) := by decide +kernel
theorem dX5_map_43 : decode cX5_map 43 = .ok (.getfield 10, 3) := by decide +kernel
theorem dX5_map_46 : decode cX5_map 46 = .ok (.invokevirtual 186, 3) := by decide +kernel
theorem dX5_map_49 : decode cX5_map 49 = .ok (.aload_n 0, 1) := by decide +kernel
theorem dX5_map_50 : decode cX5_map 50 = .ok (.getfield 39, 3) := by decide +kernel
theorem dX5_map_53 : decode cX5_map 53 = .ok (.iload_n 1, 1) := by decide +kernel
theorem dX5_map_54 : decode cX5_map 54 = .ok (.invokevirtual 189, 3) := by decide +kernel
theorem dX5_map_57 : decode cX5_map 57 = .ok (.ireturn, 1) := by decide +kernel
set_option maxRecDepth 20000 in
theorem ggX5_count_X5_within : GoodIn wsX5_count wsX5_within := goodIn_r _ [7] (by decide +kernel) (by decide +kernel)
set_option maxRecDepth 20000 in
theorem gX5_count_X5_within : GoodIn wsX5_count (va_wsS RX5 43 yX5_within wsX5_within) := goodIn_app (goodIn_of _ (by decide +kernel)) ggX5_count_X5_within
set_option maxRecDepth 20000 in
theorem ggX5_count_X2_number : GoodIn wsX5_count wsX2_number := goodIn_r _ [12, 13, 53, 54, 55, 56, 57] (by decide +kernel) (by decide +kernel)
set_option maxRecDepth 20000 in
theorem gX5_count_X2_number : GoodIn wsX5_count (wsV RX5 103 RX2 yX2_number wsX2_number) := goodIn_app (goodIn_of _ (by decide +kernel)) ggX5_count_X2_number
set_option maxRecDepth 20000 in
theorem ggX5_count_X4_rows : GoodIn wsX5_count wsX4_rows := goodIn_r _ [18, 19, 58, 59, 60] (by decide +kernel) (by decide +kernel)
set_option maxRecDepth 20000 in
theorem gX5_count_X4_rows : GoodIn wsX5_count (wsV RX5 51 RX4 yX4_rows wsX4_rows) := goodIn_app (goodIn_of _ (by decide +kernel)) ggX5_count_X4_rows
set_option maxRecDepth 20000 in
theorem ggX5_count_X4_rowsWith : GoodIn wsX5_count wsX4_rowsWith := goodIn_r _ [23, 19, 24, 25, 26, 17, 27, 28, 29, 58, 59, 60] (by decide +kernel) (by decide +kernel)
set_option maxRecDepth 20000 in
theorem gX5_count_X4_rowsWith : GoodIn wsX5_count (wsV RX5 73 RX4 yX4_rowsWith wsX4_rowsWith) := goodIn_app (goodIn_of _ (by decide +kernel)) ggX5_count_X4_rowsWith
set_option maxRecDepth 20000 in
theorem ggX5_count_X4_sumOf : GoodIn wsX5_count wsX4_sumOf := goodIn_r _ [33, 19, 24, 25, 26, 17, 27, 28, 29, 58, 59, 60] (by decide +kernel) (by decide +kernel)
set_option maxRecDepth 20000 in
theorem gX5_count_X4_sumOf : GoodIn wsX5_count (wsV RX5 192 RX4 yX4_sumOf wsX4_sumOf) := goodIn_app (goodIn_of _ (by decide +kernel)) ggX5_count_X4_sumOf
set_option maxRecDepth 20000 in
theorem ggX5_count_X1_length : GoodIn wsX5_count wsX1_length := goodIn_r _ [38, 39, 61, 62, 63, 64, 65, 66, 67, 68, 69, 70, 71, 72, 73, 74] (by decide +kernel) (by decide +kernel)
set_option maxRecDepth 20000 in
theorem gX5_count_X1_length : GoodIn wsX5_count (wsV RX5 114 RX1 yX1_length wsX1_length) := goodIn_app (goodIn_of _ (by decide +kernel)) ggX5_count_X1_length
set_option maxRecDepth 20000 in
theorem ggX5_count_X0_size : GoodIn wsX5_count wsX0_size := goodIn_r _ [44, 45, 75, 76, 77, 78, 79] (by decide +kernel) (by decide +kernel)
set_option maxRecDepth 20000 in
theorem gX5_count_X0_size : GoodIn wsX5_count (wsV RX5 199 RX0 yX0_size wsX0_size) := goodIn_app (goodIn_of _ (by decide +kernel)) ggX5_count_X0_size
theorem dX5_count_0 : decode cX5_count 0 = .ok (.iload_n 1, 1) := by decide +kernel
theorem dX5_count_1 : decode cX5_count 1 = .ok (.iconst 0, 1) := by decide +kernel
theorem dX5_count_2 : decode cX5_count 2 = .ok (.bipush 21, 2) := by decide +kernel
theorem dX5_count_4 : decode cX5_count 4 = .ok (.invokestatic 43, 3) := by decide +kernel
theorem dX5_count_7 : decode cX5_count 7 = .ok (.ifCond .ne 5, 3) := by decide +kernel
theorem dX5_count_10 : decode cX5_count 10 = .ok (.iconst (-1), 1) := by decide +kernel
theorem dX5_count_11 : decode cX5_count 11 = .ok (.ireturn, 1) := by decide +kernel
theorem dX5_count_12 : decode cX5_count 12 = .ok (.iload_n 1, 1) := by decide +kernel
theorem dX5_count_13 : decode cX5_count 13 = .ok (.bipush 7, 2) := by decide +kernel
theorem dX5_count_15 : decode cX5_count 15 = .ok (.if_icmp .lt 21, 3) := by decide +kernel
theorem dX5_count_18 : decode cX5_count 18 = .ok (.iload_n 1, 1) := by decide +kernel
theorem dX5_count_19 : decode cX5_count 19 = .ok (.bipush 20, 2) := by decide +kernel
theorem dX5_count_21 : decode cX5_count 21 = .ok (.if_icmp .ge 15, 3) := by decide +kernel
theorem dX5_count_24 : decode cX5_count 24 = .ok (.aload_n 0, 1) := by decide +kernel
theorem dX5_count_25 : decode cX5_count 25 = .ok (.getfield 10, 3) := by decide +kernel
theorem dX5_count_28 : decode cX5_count 28 = .ok (.iload_n 1, 1) := by decide +kernel
theorem dX5_count_29 : decode cX5_count 29 = .ok (.bipush 7, 2) := by decide +kernel
theorem dX5_count_31 : decode cX5_count 31 = .ok (.isub, 1) := by decide +kernel
theorem dX5_count_32 : decode cX5_count 32 = .ok (.invokevirtual 103, 3) := by decide +kernel
theorem dX5_count_35 : decode cX5_count 35 = .ok (.ireturn, 1) := by decide +kernel
theorem dX5_count_36 : decode cX5_count 36 = .ok (.iload_n 1, 1) := by decide +kernel
theorem dX5_count_37 : decode cX5_count 37 = .ok (.tableswitch 196 0 20 #[99, 110, 121, 134, 147, 160, 172, 196, 196, 196, 196, 196, 196, 196, 196, 196, 196, 196, 196, 196, 188], 99) := by decide +kernel
theorem dX5_count_136 : decode cX5_count 136 = .ok (.aload_n 0, 1) := by decide +kernel
theorem dX5_count_137 : decode cX5_count 137 = .ok (.getfield 10, 3) := by decide +kernel
theorem dX5_count_140 : decode cX5_count 140 = .ok (.getfield 47, 3) := by decide +kernel
theorem dX5_count_143 : decode cX5_count 143 = .ok (.invokevirtual 51, 3) := by decide +kernel
theorem dX5_count_146 : decode cX5_count 146 = .ok (.ireturn, 1) := by decide +kernel
theorem dX5_count_147 : decode cX5_count 147 = .ok (.aload_n 0, 1) := by decide +kernel
theorem dX5_count_148 : decode cX5_count 148 = .ok (.getfield 10, 3) := by decide +kernel
theorem dX5_count_151 : decode cX5_count 151 = .ok (.getfield 168, 3) := by decide +kernel
theorem dX5_count_154 : decode cX5_count 154 = .ok (.invokevirtual 51, 3) := by decide +kernel
theorem dX5_count_157 : decode cX5_count 157 = .ok (.ireturn, 1) := by decide +kernel
theorem dX5_count_158 : decode cX5_count 158 = .ok (.aload_n 0, 1) := by decide +kernel
theorem dX5_count_159 : decode cX5_count 159 = .ok (.getfield 10, 3) := by decide +kernel
theorem dX5_count_162 : decode cX5_count 162 = .ok (.getfield 168, 3) := by decide +kernel
theorem dX5_count_165 : decode cX5_count 165 = .ok (.iconst 5, 1) := by decide +kernel
theorem dX5_count_166 : decode cX5_count 166 = .ok (.iconst 0, 1) := by decide +kernel
theorem dX5_count_167 : decode cX5_count 167 = .ok (.invokevirtual 73, 3) := by decide +kernel
theorem dX5_count_170 : decode cX5_count 170 = .ok (.ireturn, 1) := by decide +kernel
theorem dX5_count_171 : decode cX5_count 171 = .ok (.aload_n 0, 1) := by decide +kernel
theorem dX5_count_172 : decode cX5_count 172 = .ok (.getfield 10, 3) := by decide +kernel
theorem dX5_count_175 : decode cX5_count 175 = .ok (.getfield 168, 3) := by decide +kernel
theorem dX5_count_178 : decode cX5_count 178 = .ok (.iconst 5, 1) := by decide +kernel
theorem dX5_count_179 : decode cX5_count 179 = .ok (.iconst 1, 1) := by decide +kernel
theorem dX5_count_180 : decode cX5_count 180 = .ok (.invokevirtual 73, 3) := by decide +kernel
theorem dX5_count_183 : decode cX5_count 183 = .ok (.ireturn, 1) := by decide +kernel
theorem dX5_count_184 : decode cX5_count 184 = .ok (.aload_n 0, 1) := by decide +kernel
theorem dX5_count_185 : decode cX5_count 185 = .ok (.getfield 10, 3) := by decide +kernel
theorem dX5_count_188 : decode cX5_count 188 = .ok (.getfield 168, 3) := by decide +kernel
theorem dX5_count_191 : decode cX5_count 191 = .ok (.iconst 5, 1) := by decide +kernel
theorem dX5_count_192 : decode cX5_count 192 = .ok (.iconst 2, 1) := by decide +kernel
theorem dX5_count_193 : decode cX5_count 193 = .ok (.invokevirtual 73, 3) := by decide +kernel
theorem dX5_count_196 : decode cX5_count 196 = .ok (.ireturn, 1) := by decide +kernel
theorem dX5_count_197 : decode cX5_count 197 = .ok (.aload_n 0, 1) := by decide +kernel
theorem dX5_count_198 : decode cX5_count 198 = .ok (.getfield 10, 3) := by decide +kernel
theorem dX5_count_201 : decode cX5_count 201 = .ok (.getfield 168, 3) := by decide +kernel
theorem dX5_count_204 : decode cX5_count 204 = .ok (.iconst 3, 1) := by decide +kernel
theorem dX5_count_205 : decode cX5_count 205 = .ok (.invokevirtual 192, 3) := by decide +kernel
theorem dX5_count_208 : decode cX5_count 208 = .ok (.ireturn, 1) := by decide +kernel
theorem dX5_count_209 : decode cX5_count 209 = .ok (.aload_n 0, 1) := by decide +kernel
theorem dX5_count_210 : decode cX5_count 210 = .ok (.getfield 10, 3) := by decide +kernel
theorem dX5_count_213 : decode cX5_count 213 = .ok (.getfield 195, 3) := by decide +kernel
theorem dX5_count_216 : decode cX5_count 216 = .ok (.ifCond .eq 7, 3) := by decide +kernel
theorem dX5_count_219 : decode cX5_count 219 = .ok (.iconst 1, 1) := by decide +kernel
theorem dX5_count_220 : decode cX5_count 220 = .ok (.goto 4, 3) := by decide +kernel
theorem dX5_count_223 : decode cX5_count 223 = .ok (.iconst 0, 1) := by decide +kernel
theorem dX5_count_224 : decode cX5_count 224 = .ok (.ireturn, 1) := by decide +kernel
theorem dX5_count_225 : decode cX5_count 225 = .ok (.aload_n 0, 1) := by decide +kernel
theorem dX5_count_226 : decode cX5_count 226 = .ok (.getfield 32, 3) := by decide +kernel
theorem dX5_count_229 : decode cX5_count 229 = .ok (.invokevirtual 114, 3) := by decide +kernel
theorem dX5_count_232 : decode cX5_count 232 = .ok (.ireturn, 1) := by decide +kernel
theorem dX5_count_233 : decode cX5_count 233 = .ok (.aload_n 0, 1) := by decide +kernel
theorem dX5_count_234 : decode cX5_count 234 = .ok (.getfield 25, 3) := by decide +kernel
theorem dX5_count_237 : decode cX5_count 237 = .ok (.invokevirtual 199, 3) := by decide +kernel
theorem dX5_count_240 : decode cX5_count 240 = .ok (.ireturn, 1) := by decide +kernel
set_option maxRecDepth 20000 in
theorem ggX5_loudness_X4_rows : GoodIn wsX5_loudness wsX4_rows := goodIn_r _ [6, 7, 30, 31, 32] (by decide +kernel) (by decide +kernel)
set_option maxRecDepth 20000 in
theorem gX5_loudness_X4_rows : GoodIn wsX5_loudness (wsV RX5 51 RX4 yX4_rows wsX4_rows) := goodIn_app (goodIn_of _ (by decide +kernel)) ggX5_loudness_X4_rows
set_option maxRecDepth 20000 in
theorem ggX5_loudness_X4_sumOf : GoodIn wsX5_loudness wsX4_sumOf := goodIn_r _ [11, 7, 12, 13, 14, 5, 15, 16, 17, 30, 31, 32] (by decide +kernel) (by decide +kernel)
set_option maxRecDepth 20000 in
theorem gX5_loudness_X4_sumOf : GoodIn wsX5_loudness (wsV RX5 192 RX4 yX4_sumOf wsX4_sumOf) := goodIn_app (goodIn_of _ (by decide +kernel)) ggX5_loudness_X4_sumOf
theorem dX5_loudness_0 : decode cX5_loudness 0 = .ok (.aload_n 0, 1) := by decide +kernel
theorem dX5_loudness_1 : decode cX5_loudness 1 = .ok (.getfield 10, 3) := by decide +kernel
theorem dX5_loudness_4 : decode cX5_loudness 4 = .ok (.getfield 168, 3) := by decide +kernel
theorem dX5_loudness_7 : decode cX5_loudness 7 = .ok (.invokevirtual 51, 3) := by decide +kernel
theorem dX5_loudness_10 : decode cX5_loudness 10 = .ok (.istore_n 1, 1) := by decide +kernel
theorem dX5_loudness_11 : decode cX5_loudness 11 = .ok (.iload_n 1, 1) := by decide +kernel
theorem dX5_loudness_12 : decode cX5_loudness 12 = .ok (.ifCond .le 21, 3) := by decide +kernel
theorem dX5_loudness_15 : decode cX5_loudness 15 = .ok (.aload_n 0, 1) := by decide +kernel
theorem dX5_loudness_16 : decode cX5_loudness 16 = .ok (.getfield 10, 3) := by decide +kernel
theorem dX5_loudness_19 : decode cX5_loudness 19 = .ok (.getfield 168, 3) := by decide +kernel
theorem dX5_loudness_22 : decode cX5_loudness 22 = .ok (.iconst 3, 1) := by decide +kernel
theorem dX5_loudness_23 : decode cX5_loudness 23 = .ok (.invokevirtual 192, 3) := by decide +kernel
theorem dX5_loudness_26 : decode cX5_loudness 26 = .ok (.i2d, 1) := by decide +kernel
theorem dX5_loudness_27 : decode cX5_loudness 27 = .ok (.iload_n 1, 1) := by decide +kernel
theorem dX5_loudness_28 : decode cX5_loudness 28 = .ok (.i2d, 1) := by decide +kernel
theorem dX5_loudness_29 : decode cX5_loudness 29 = .ok (.ddiv, 1) := by decide +kernel
theorem dX5_loudness_30 : decode cX5_loudness 30 = .ok (.goto 4, 3) := by decide +kernel
theorem dX5_loudness_33 : decode cX5_loudness 33 = .ok (.dconst 0, 1) := by decide +kernel
theorem dX5_loudness_34 : decode cX5_loudness 34 = .ok (.dreturn, 1) := by decide +kernel
set_option maxRecDepth 20000 in
theorem ggX5_ifHit_X5_isNote : GoodIn wsX5_ifHit wsX5_isNote := goodIn_r _ [6, 7, 8, 5, 9] (by decide +kernel) (by decide +kernel)
set_option maxRecDepth 20000 in
theorem gX5_ifHit_X5_isNote : GoodIn wsX5_ifHit (va_wsS RX5 81 yX5_isNote wsX5_isNote) := goodIn_app (goodIn_of _ (by decide +kernel)) ggX5_ifHit_X5_isNote
set_option maxRecDepth 20000 in
theorem ggX5_ifHit_X5_within : GoodIn wsX5_ifHit wsX5_within := goodIn_r _ [9] (by decide +kernel) (by decide +kernel)
set_option maxRecDepth 20000 in
theorem gX5_ifHit_X5_within : GoodIn wsX5_ifHit (va_wsS RX5 43 yX5_within wsX5_within) := goodIn_app (goodIn_of _ (by decide +kernel)) ggX5_ifHit_X5_within
set_option maxRecDepth 20000 in
theorem ggX5_ifHit_X2_firstSounding : GoodIn wsX5_ifHit wsX2_firstSounding := goodIn_r _ [14, 15, 16, 17, 18, 19, 20, 21, 22, 23, 24, 13, 25, 26, 27, 28, 29, 30, 31, 32, 33, 34, 35, 36, 37, 38, 39, 40, 122, 123, 124, 125, 126, 127, 128, 129] (by decide +kernel) (by decide +kernel)
set_option maxRecDepth 20000 in
theorem gX5_ifHit_X2_firstSounding : GoodIn wsX5_ifHit (wsV RX5 202 RX2 yX2_firstSounding wsX2_firstSounding) := goodIn_app (goodIn_of _ (by decide +kernel)) ggX5_ifHit_X2_firstSounding
set_option maxRecDepth 20000 in
theorem ggX5_ifHit_X2_copyFrom : GoodIn wsX5_ifHit wsX2_copyFrom := goodIn_r _ [44, 15, 45, 40, 46, 47, 48, 49, 50, 51, 52, 53, 54, 19, 55, 35, 56, 57, 58, 59, 60, 21, 122, 123, 124, 125, 126, 127, 128, 129] (by decide +kernel) (by decide +kernel)
set_option maxRecDepth 20000 in
theorem gX5_ifHit_X2_copyFrom : GoodIn wsX5_ifHit (wsV RX5 205 RX2 yX2_copyFrom wsX2_copyFrom) := goodIn_app (goodIn_of _ (by decide +kernel)) ggX5_ifHit_X2_copyFrom
set_option maxRecDepth 20000 in
theorem ggX5_ifHit_X2_strike : GoodIn wsX5_ifHit wsX2_strike := goodIn_r _ [64, 51, 15, 65, 66, 67, 13, 68, 45, 16, 17, 18, 19, 20, 21, 30, 31, 32, 33, 34, 35, 69, 70, 71, 72, 22, 23, 24, 25, 26, 27, 28, 29, 36, 37, 38, 39, 40, 73, 74, 75, 76, 77, 78, 79, 80, 81, 82, 83, 84, 85, 86, 87, 88, 89, 90, 91, 92, 93, 94, 95, 96, 97, 98, 99, 100, 101, 102, 103, 104, 105, 106, 107, 108, 109, 110, 111, 112, 122, 123, 124, 125, 126, 127, 128, 129] (by decide +kernel) (by decide +kernel)
set_option maxRecDepth 20000 in
theorem gX5_ifHit_X2_strike : GoodIn wsX5_ifHit (wsV RX5 85 RX2 yX2_strike wsX2_strike) := goodIn_app (goodIn_of _ (by decide +kernel)) ggX5_ifHit_X2_strike
set_option maxRecDepth 20000 in
theorem ggX5_ifHit_X2_number : GoodIn wsX5_ifHit wsX2_number := goodIn_r _ [39, 40, 122, 123, 124, 125, 126] (by decide +kernel) (by decide +kernel)
set_option maxRecDepth 20000 in
theorem gX5_ifHit_X2_number : GoodIn wsX5_ifHit (wsV RX5 103 RX2 yX2_number wsX2_number) := goodIn_app (goodIn_of _ (by decide +kernel)) ggX5_ifHit_X2_number
set_option maxRecDepth 20000 in
theorem ggX5_ifHit_X4_rows : GoodIn wsX5_ifHit wsX4_rows := goodIn_r _ [20, 21, 127, 128, 129] (by decide +kernel) (by decide +kernel)
set_option maxRecDepth 20000 in
theorem gX5_ifHit_X4_rows : GoodIn wsX5_ifHit (wsV RX5 51 RX4 yX4_rows wsX4_rows) := goodIn_app (goodIn_of _ (by decide +kernel)) ggX5_ifHit_X4_rows
theorem dX5_ifHit_0 : decode cX5_ifHit 0 = .ok (.iload_n 1, 1) := by decide +kernel
theorem dX5_ifHit_1 : decode cX5_ifHit 1 = .ok (.iload_n 2, 1) := by decide +kernel
theorem dX5_ifHit_2 : decode cX5_ifHit 2 = .ok (.invokestatic 81, 3) := by decide +kernel
theorem dX5_ifHit_5 : decode cX5_ifHit 5 = .ok (.ifCond .eq 12, 3) := by decide +kernel
theorem dX5_ifHit_8 : decode cX5_ifHit 8 = .ok (.iload_n 3, 1) := by decide +kernel
theorem dX5_ifHit_9 : decode cX5_ifHit 9 = .ok (.iconst 0, 1) := by decide +kernel
theorem dX5_ifHit_10 : decode cX5_ifHit 10 = .ok (.iconst 4, 1) := by decide +kernel
theorem dX5_ifHit_11 : decode cX5_ifHit 11 = .ok (.invokestatic 43, 3) := by decide +kernel
theorem dX5_ifHit_14 : decode cX5_ifHit 14 = .ok (.ifCond .ne 5, 3) := by decide +kernel
theorem dX5_ifHit_17 : decode cX5_ifHit 17 = .ok (.iconst (-1), 1) := by decide +kernel
theorem dX5_ifHit_18 : decode cX5_ifHit 18 = .ok (.ireturn, 1) := by decide +kernel
theorem dX5_ifHit_19 : decode cX5_ifHit 19 = .ok (.iload_n 3, 1) := by decide +kernel
theorem dX5_ifHit_20 : decode cX5_ifHit 20 = .ok (.iconst 3, 1) := by decide +kernel
theorem dX5_ifHit_21 : decode cX5_ifHit 21 = .ok (.if_icmp .ne 13, 3) := by decide +kernel
theorem dX5_ifHit_24 : decode cX5_ifHit 24 = .ok (.aload_n 0, 1) := by decide +kernel
theorem dX5_ifHit_25 : decode cX5_ifHit 25 = .ok (.getfield 10, 3) := by decide +kernel
theorem dX5_ifHit_28 : decode cX5_ifHit 28 = .ok (.iload_n 1, 1) := by decide +kernel
theorem dX5_ifHit_29 : decode cX5_ifHit 29 = .ok (.iload_n 2, 1) := by decide +kernel
theorem dX5_ifHit_30 : decode cX5_ifHit 30 = .ok (.invokevirtual 202, 3) := by decide +kernel
theorem dX5_ifHit_33 : decode cX5_ifHit 33 = .ok (.ireturn, 1) := by decide +kernel
theorem dX5_ifHit_34 : decode cX5_ifHit 34 = .ok (.aload_n 0, 1) := by decide +kernel
theorem dX5_ifHit_35 : decode cX5_ifHit 35 = .ok (.getfield 16, 3) := by decide +kernel
theorem dX5_ifHit_38 : decode cX5_ifHit 38 = .ok (.aload_n 0, 1) := by decide +kernel
theorem dX5_ifHit_39 : decode cX5_ifHit 39 = .ok (.getfield 10, 3) := by decide +kernel
theorem dX5_ifHit_42 : decode cX5_ifHit 42 = .ok (.invokevirtual 205, 3) := by decide +kernel
theorem dX5_ifHit_45 : decode cX5_ifHit 45 = .ok (.aload_n 0, 1) := by decide +kernel
theorem dX5_ifHit_46 : decode cX5_ifHit 46 = .ok (.getfield 16, 3) := by decide +kernel
theorem dX5_ifHit_49 : decode cX5_ifHit 49 = .ok (.iload_n 1, 1) := by decide +kernel
theorem dX5_ifHit_50 : decode cX5_ifHit 50 = .ok (.iload_n 2, 1) := by decide +kernel
theorem dX5_ifHit_51 : decode cX5_ifHit 51 = .ok (.invokevirtual 85, 3) := by decide +kernel
theorem dX5_ifHit_54 : decode cX5_ifHit 54 = .ok (.istore 4, 2) := by decide +kernel
theorem dX5_ifHit_56 : decode cX5_ifHit 56 = .ok (.iload_n 3, 1) := by decide +kernel
theorem dX5_ifHit_57 : decode cX5_ifHit 57 = .ok (.tableswitch 66 0 2 #[27, 30, 48], 27) := by decide +kernel
theorem dX5_ifHit_84 : decode cX5_ifHit 84 = .ok (.iload 4, 2) := by decide +kernel
theorem dX5_ifHit_86 : decode cX5_ifHit 86 = .ok (.ireturn, 1) := by decide +kernel
theorem dX5_ifHit_87 : decode cX5_ifHit 87 = .ok (.aload_n 0, 1) := by decide +kernel
theorem dX5_ifHit_88 : decode cX5_ifHit 88 = .ok (.getfield 16, 3) := by decide +kernel
theorem dX5_ifHit_91 : decode cX5_ifHit 91 = .ok (.iconst 3, 1) := by decide +kernel
theorem dX5_ifHit_92 : decode cX5_ifHit 92 = .ok (.invokevirtual 103, 3) := by decide +kernel
theorem dX5_ifHit_95 : decode cX5_ifHit 95 = .ok (.aload_n 0, 1) := by decide +kernel
theorem dX5_ifHit_96 : decode cX5_ifHit 96 = .ok (.getfield 10, 3) := by decide +kernel
theorem dX5_ifHit_99 : decode cX5_ifHit 99 = .ok (.iconst 3, 1) := by decide +kernel
theorem dX5_ifHit_100 : decode cX5_ifHit 100 = .ok (.invokevirtual 103, 3) := by decide +kernel
theorem dX5_ifHit_103 : decode cX5_ifHit 103 = .ok (.isub, 1) := by decide +kernel
theorem dX5_ifHit_104 : decode cX5_ifHit 104 = .ok (.ireturn, 1) := by decide +kernel
theorem dX5_ifHit_105 : decode cX5_ifHit 105 = .ok (.aload_n 0, 1) := by decide +kernel
theorem dX5_ifHit_106 : decode cX5_ifHit 106 = .ok (.getfield 16, 3) := by decide +kernel
theorem dX5_ifHit_109 : decode cX5_ifHit 109 = .ok (.iconst 4, 1) := by decide +kernel
theorem dX5_ifHit_110 : decode cX5_ifHit 110 = .ok (.invokevirtual 103, 3) := by decide +kernel
theorem dX5_ifHit_113 : decode cX5_ifHit 113 = .ok (.aload_n 0, 1) := by decide +kernel
theorem dX5_ifHit_114 : decode cX5_ifHit 114 = .ok (.getfield 10, 3) := by decide +kernel
theorem dX5_ifHit_117 : decode cX5_ifHit 117 = .ok (.iconst 4, 1) := by decide +kernel
theorem dX5_ifHit_118 : decode cX5_ifHit 118 = .ok (.invokevirtual 103, 3) := by decide +kernel
theorem dX5_ifHit_121 : decode cX5_ifHit 121 = .ok (.isub, 1) := by decide +kernel
theorem dX5_ifHit_122 : decode cX5_ifHit 122 = .ok (.ireturn, 1) := by decide +kernel
theorem dX5_ifHit_123 : decode cX5_ifHit 123 = .ok (.aload_n 0, 1) := by decide +kernel
theorem dX5_ifHit_124 : decode cX5_ifHit 124 = .ok (.getfield 16, 3) := by decide +kernel
theorem dX5_ifHit_127 : decode cX5_ifHit 127 = .ok (.getfield 168, 3) := by decide +kernel
theorem dX5_ifHit_130 : decode cX5_ifHit 130 = .ok (.invokevirtual 51, 3) := by decide +kernel
theorem dX5_ifHit_133 : decode cX5_ifHit 133 = .ok (.ireturn, 1) := by decide +kernel
set_option maxRecDepth 20000 in
theorem ggX5_silentIn_X4_rows : GoodIn wsX5_silentIn wsX4_rows := goodIn_r _ [10, 11, 50, 51, 52] (by decide +kernel) (by decide +kernel)
set_option maxRecDepth 20000 in
theorem gX5_silentIn_X4_rows : GoodIn wsX5_silentIn (wsV RX5 51 RX4 yX4_rows wsX4_rows) := goodIn_app (goodIn_of _ (by decide +kernel)) ggX5_silentIn_X4_rows
set_option maxRecDepth 20000 in
theorem ggX5_silentIn_X2_ticksLeft : GoodIn wsX5_silentIn wsX2_ticksLeft := goodIn_r _ [16, 17, 3, 4, 5, 18, 19, 20, 21, 22, 23, 24, 25, 15, 26, 27, 28, 29, 9, 30, 11, 31, 32, 33, 34, 35, 36, 37, 45, 46, 47, 48, 49, 50, 51, 52] (by decide +kernel) (by decide +kernel)
set_option maxRecDepth 20000 in
theorem gX5_silentIn_X2_ticksLeft : GoodIn wsX5_silentIn (wsV RX5 208 RX2 yX2_ticksLeft wsX2_ticksLeft) := goodIn_app (goodIn_of _ (by decide +kernel)) ggX5_silentIn_X2_ticksLeft
theorem dX5_silentIn_0 : decode cX5_silentIn 0 = .ok (.iconst 0, 1) := by decide +kernel
theorem dX5_silentIn_1 : decode cX5_silentIn 1 = .ok (.istore_n 1, 1) := by decide +kernel
theorem dX5_silentIn_2 : decode cX5_silentIn 2 = .ok (.iconst 0, 1) := by decide +kernel
theorem dX5_silentIn_3 : decode cX5_silentIn 3 = .ok (.istore_n 2, 1) := by decide +kernel
theorem dX5_silentIn_4 : decode cX5_silentIn 4 = .ok (.iload_n 2, 1) := by decide +kernel
theorem dX5_silentIn_5 : decode cX5_silentIn 5 = .ok (.aload_n 0, 1) := by decide +kernel
theorem dX5_silentIn_6 : decode cX5_silentIn 6 = .ok (.getfield 10, 3) := by decide +kernel
theorem dX5_silentIn_9 : decode cX5_silentIn 9 = .ok (.getfield 168, 3) := by decide +kernel
theorem dX5_silentIn_12 : decode cX5_silentIn 12 = .ok (.invokevirtual 51, 3) := by decide +kernel
theorem dX5_silentIn_15 : decode cX5_silentIn 15 = .ok (.if_icmp .ge 22, 3) := by decide +kernel
theorem dX5_silentIn_18 : decode cX5_silentIn 18 = .ok (.iload_n 1, 1) := by decide +kernel
theorem dX5_silentIn_19 : decode cX5_silentIn 19 = .ok (.aload_n 0, 1) := by decide +kernel
theorem dX5_silentIn_20 : decode cX5_silentIn 20 = .ok (.getfield 10, 3) := by decide +kernel
theorem dX5_silentIn_23 : decode cX5_silentIn 23 = .ok (.iload_n 2, 1) := by decide +kernel
theorem dX5_silentIn_24 : decode cX5_silentIn 24 = .ok (.invokevirtual 208, 3) := by decide +kernel
theorem dX5_silentIn_27 : decode cX5_silentIn 27 = .ok (.invokestatic 211, 3) := by decide +kernel
theorem dX5_silentIn_30 : decode cX5_silentIn 30 = .ok (.istore_n 1, 1) := by decide +kernel
theorem dX5_silentIn_31 : decode cX5_silentIn 31 = .ok (.iinc 2 1, 3) := by decide +kernel
theorem dX5_silentIn_34 : decode cX5_silentIn 34 = .ok (.goto (-30), 3) := by decide +kernel
theorem dX5_silentIn_37 : decode cX5_silentIn 37 = .ok (.iload_n 1, 1) := by decide +kernel
theorem dX5_silentIn_38 : decode cX5_silentIn 38 = .ok (.ireturn, 1) := by decide +kernel
set_option maxRecDepth 20000 in
theorem ggX5_chord_X5_within : GoodIn wsX5_chord wsX5_within := goodIn_r _ [5] (by decide +kernel) (by decide +kernel)
set_option maxRecDepth 20000 in
theorem gX5_chord_X5_within : GoodIn wsX5_chord (va_wsS RX5 43 yX5_within wsX5_within) := goodIn_app (goodIn_of _ (by decide +kernel)) ggX5_chord_X5_within
set_option maxRecDepth 20000 in
theorem ggX5_chord_X2_sounding : GoodIn wsX5_chord wsX2_sounding := goodIn_r _ [10, 11, 12, 13, 14, 15, 16, 17, 18, 19, 20, 9, 21, 22, 23, 24, 25, 26, 27, 28, 29, 30, 31, 32, 33, 34, 35, 36, 44, 45, 46, 47, 48, 49, 50, 51] (by decide +kernel) (by decide +kernel)
set_option maxRecDepth 20000 in
theorem gX5_chord_X2_sounding : GoodIn wsX5_chord (wsV RX5 216 RX2 yX2_sounding wsX2_sounding) := goodIn_app (goodIn_of _ (by decide +kernel)) ggX5_chord_X2_sounding
theorem dX5_chord_0 : decode cX5_chord 0 = .ok (.iload_n 1, 1) := by decide +kernel
theorem dX5_chord_1 : decode cX5_chord 1 = .ok (.iconst 1, 1) := by decide +kernel
theorem dX5_chord_2 : decode cX5_chord 2 = .ok (.bipush 63, 2) := by decide +kernel
theorem dX5_chord_4 : decode cX5_chord 4 = .ok (.invokestatic 43, 3) := by decide +kernel
theorem dX5_chord_7 : decode cX5_chord 7 = .ok (.ifCond .eq 22, 3) := by decide +kernel
theorem dX5_chord_10 : decode cX5_chord 10 = .ok (.iload_n 2, 1) := by decide +kernel
theorem dX5_chord_11 : decode cX5_chord 11 = .ok (.iconst 0, 1) := by decide +kernel
theorem dX5_chord_12 : decode cX5_chord 12 = .ok (.iconst 5, 1) := by decide +kernel
theorem dX5_chord_13 : decode cX5_chord 13 = .ok (.invokestatic 43, 3) := by decide +kernel
theorem dX5_chord_16 : decode cX5_chord 16 = .ok (.ifCond .eq 13, 3) := by decide +kernel
theorem dX5_chord_19 : decode cX5_chord 19 = .ok (.iload_n 3, 1) := by decide +kernel
theorem dX5_chord_20 : decode cX5_chord 20 = .ok (.iconst 1, 1) := by decide +kernel
theorem dX5_chord_21 : decode cX5_chord 21 = .ok (.bipush 9, 2) := by decide +kernel
theorem dX5_chord_23 : decode cX5_chord 23 = .ok (.invokestatic 43, 3) := by decide +kernel
theorem dX5_chord_26 : decode cX5_chord 26 = .ok (.ifCond .ne 5, 3) := by decide +kernel
theorem dX5_chord_29 : decode cX5_chord 29 = .ok (.iconst (-1), 1) := by decide +kernel
theorem dX5_chord_30 : decode cX5_chord 30 = .ok (.ireturn, 1) := by decide +kernel
theorem dX5_chord_31 : decode cX5_chord 31 = .ok (.iconst 0, 1) := by decide +kernel
theorem dX5_chord_32 : decode cX5_chord 32 = .ok (.istore 4, 2) := by decide +kernel
theorem dX5_chord_34 : decode cX5_chord 34 = .ok (.iconst 0, 1) := by decide +kernel
theorem dX5_chord_35 : decode cX5_chord 35 = .ok (.istore 5, 2) := by decide +kernel
theorem dX5_chord_37 : decode cX5_chord 37 = .ok (.iload 5, 2) := by decide +kernel
theorem dX5_chord_39 : decode cX5_chord 39 = .ok (.bipush 6, 2) := by decide +kernel
theorem dX5_chord_41 : decode cX5_chord 41 = .ok (.if_icmp .ge 39, 3) := by decide +kernel
theorem dX5_chord_44 : decode cX5_chord 44 = .ok (.iload_n 1, 1) := by decide +kernel
theorem dX5_chord_45 : decode cX5_chord 45 = .ok (.iload 5, 2) := by decide +kernel
theorem dX5_chord_47 : decode cX5_chord 47 = .ok (.ishr, 1) := by decide +kernel
theorem dX5_chord_48 : decode cX5_chord 48 = .ok (.iconst 1, 1) := by decide +kernel
theorem dX5_chord_49 : decode cX5_chord 49 = .ok (.iand, 1) := by decide +kernel
theorem dX5_chord_50 : decode cX5_chord 50 = .ok (.iconst 1, 1) := by decide +kernel
theorem dX5_chord_51 : decode cX5_chord 51 = .ok (.if_icmp .ne 23, 3) := by decide +kernel
theorem dX5_chord_54 : decode cX5_chord 54 = .ok (.iload 4, 2) := by decide +kernel
theorem dX5_chord_56 : decode cX5_chord 56 = .ok (.aload_n 0, 1) := by decide +kernel
theorem dX5_chord_57 : decode cX5_chord 57 = .ok (.getfield 10, 3) := by decide +kernel
theorem dX5_chord_60 : decode cX5_chord 60 = .ok (.bipush 6, 2) := by decide +kernel
theorem dX5_chord_62 : decode cX5_chord 62 = .ok (.iload_n 2, 1) := by decide +kernel
theorem dX5_chord_63 : decode cX5_chord 63 = .ok (.imul, 1) := by decide +kernel
theorem dX5_chord_64 : decode cX5_chord 64 = .ok (.iload 5, 2) := by decide +kernel
theorem dX5_chord_66 : decode cX5_chord 66 = .ok (.iadd, 1) := by decide +kernel
theorem dX5_chord_67 : decode cX5_chord 67 = .ok (.iload_n 3, 1) := by decide +kernel
theorem dX5_chord_68 : decode cX5_chord 68 = .ok (.invokevirtual 216, 3) := by decide +kernel
theorem dX5_chord_71 : decode cX5_chord 71 = .ok (.iadd, 1) := by decide +kernel
theorem dX5_chord_72 : decode cX5_chord 72 = .ok (.istore 4, 2) := by decide +kernel
theorem dX5_chord_74 : decode cX5_chord 74 = .ok (.iinc 5 1, 3) := by decide +kernel
theorem dX5_chord_77 : decode cX5_chord 77 = .ok (.goto (-40), 3) := by decide +kernel
theorem dX5_chord_80 : decode cX5_chord 80 = .ok (.iload 4, 2) := by decide +kernel
theorem dX5_chord_82 : decode cX5_chord 82 = .ok (.ireturn, 1) := by decide +kernel
set_option maxRecDepth 20000 in
theorem ggX5_undo_X0_size : GoodIn wsX5_undo wsX0_size := goodIn_r _ [7, 8, 54, 55, 56, 57, 58] (by decide +kernel) (by decide +kernel)
set_option maxRecDepth 20000 in
theorem gX5_undo_X0_size : GoodIn wsX5_undo (wsV RX5 199 RX0 yX0_size wsX0_size) := goodIn_app (goodIn_of _ (by decide +kernel)) ggX5_undo_X0_size
set_option maxRecDepth 20000 in
theorem ggX5_undo_X0_goBack : GoodIn wsX5_undo wsX0_goBack := goodIn_r _ [12, 8, 13, 14, 15, 6, 16, 17, 18, 19, 20, 21, 22, 23, 24, 25, 26, 27, 28, 29, 30, 31, 32, 33, 34, 35, 36, 37, 38, 39, 40, 41, 42, 43, 44, 45, 46, 54, 55, 56, 57, 58, 59, 60, 61, 62, 63, 64, 65, 66] (by decide +kernel) (by decide +kernel)
set_option maxRecDepth 20000 in
theorem gX5_undo_X0_goBack : GoodIn wsX5_undo (wsV RX5 219 RX0 yX0_goBack wsX0_goBack) := goodIn_app (goodIn_of _ (by decide +kernel)) ggX5_undo_X0_goBack
theorem dX5_undo_0 : decode cX5_undo 0 = .ok (.aload_n 0, 1) := by decide +kernel
theorem dX5_undo_1 : decode cX5_undo 1 = .ok (.getfield 25, 3) := by decide +kernel
theorem dX5_undo_4 : decode cX5_undo 4 = .ok (.invokevirtual 199, 3) := by decide +kernel
theorem dX5_undo_7 : decode cX5_undo 7 = .ok (.ifCond .ne 6, 3) := by decide +kernel
theorem dX5_undo_10 : decode cX5_undo 10 = .ok (.bipush (-2), 2) := by decide +kernel
theorem dX5_undo_12 : decode cX5_undo 12 = .ok (.ireturn, 1) := by decide +kernel
theorem dX5_undo_13 : decode cX5_undo 13 = .ok (.aload_n 0, 1) := by decide +kernel
theorem dX5_undo_14 : decode cX5_undo 14 = .ok (.getfield 25, 3) := by decide +kernel
theorem dX5_undo_17 : decode cX5_undo 17 = .ok (.aload_n 0, 1) := by decide +kernel
theorem dX5_undo_18 : decode cX5_undo 18 = .ok (.getfield 10, 3) := by decide +kernel
theorem dX5_undo_21 : decode cX5_undo 21 = .ok (.invokevirtual 219, 3) := by decide +kernel
theorem dX5_undo_24 : decode cX5_undo 24 = .ok (.aload_n 0, 1) := by decide +kernel
theorem dX5_undo_25 : decode cX5_undo 25 = .ok (.getfield 25, 3) := by decide +kernel
theorem dX5_undo_28 : decode cX5_undo 28 = .ok (.invokevirtual 199, 3) := by decide +kernel
theorem dX5_undo_31 : decode cX5_undo 31 = .ok (.ireturn, 1) := by decide +kernel
set_option maxRecDepth 20000 in
theorem ggX5_save_X2_copyFrom : GoodIn wsX5_save wsX2_copyFrom := goodIn_r _ [8, 9, 10, 11, 12, 13, 14, 15, 16, 17, 18, 19, 20, 21, 22, 23, 24, 25, 26, 27, 28, 29, 41, 42, 43, 44, 45, 46, 47, 48] (by decide +kernel) (by decide +kernel)
set_option maxRecDepth 20000 in
theorem gX5_save_X2_copyFrom : GoodIn wsX5_save (wsV RX5 205 RX2 yX2_copyFrom wsX2_copyFrom) := goodIn_app (goodIn_of _ (by decide +kernel)) ggX5_save_X2_copyFrom
set_option maxRecDepth 20000 in
theorem ggX5_save_X4_rows : GoodIn wsX5_save wsX4_rows := goodIn_r _ [33, 29, 46, 47, 48] (by decide +kernel) (by decide +kernel)
set_option maxRecDepth 20000 in
theorem gX5_save_X4_rows : GoodIn wsX5_save (wsV RX5 51 RX4 yX4_rows wsX4_rows) := goodIn_app (goodIn_of _ (by decide +kernel)) ggX5_save_X4_rows
theorem dX5_save_0 : decode cX5_save 0 = .ok (.aload_n 0, 1) := by decide +kernel
theorem dX5_save_1 : decode cX5_save 1 = .ok (.getfield 19, 3) := by decide +kernel
theorem dX5_save_4 : decode cX5_save 4 = .ok (.aload_n 0, 1) := by decide +kernel
theorem dX5_save_5 : decode cX5_save 5 = .ok (.getfield 10, 3) := by decide +kernel
theorem dX5_save_8 : decode cX5_save 8 = .ok (.invokevirtual 205, 3) := by decide +kernel
theorem dX5_save_11 : decode cX5_save 11 = .ok (.aload_n 0, 1) := by decide +kernel
theorem dX5_save_12 : decode cX5_save 12 = .ok (.iconst 1, 1) := by decide +kernel
theorem dX5_save_13 : decode cX5_save 13 = .ok (.putfield 222, 3) := by decide +kernel
theorem dX5_save_16 : decode cX5_save 16 = .ok (.aload_n 0, 1) := by decide +kernel
theorem dX5_save_17 : decode cX5_save 17 = .ok (.getfield 10, 3) := by decide +kernel
theorem dX5_save_20 : decode cX5_save 20 = .ok (.getfield 168, 3) := by decide +kernel
theorem dX5_save_23 : decode cX5_save 23 = .ok (.invokevirtual 51, 3) := by decide +kernel
theorem dX5_save_26 : decode cX5_save 26 = .ok (.ireturn, 1) := by decide +kernel
set_option maxRecDepth 20000 in
theorem ggX5_restore_X0_record : GoodIn wsX5_restore wsX0_record := goodIn_r _ [9, 10, 11, 12, 13, 14, 15, 16, 17, 8, 18, 19, 20, 21, 22, 23, 24, 25, 26, 27, 28, 29, 30, 31, 32, 33, 34, 35, 36, 37, 38, 39, 40, 41, 42, 43, 44, 62, 63, 64, 65, 66, 57, 58, 59, 60, 61, 67, 68, 69] (by decide +kernel) (by decide +kernel)
set_option maxRecDepth 20000 in
theorem gX5_restore_X0_record : GoodIn wsX5_restore (wsV RX5 57 RX0 yX0_record wsX0_record) := goodIn_app (goodIn_of _ (by decide +kernel)) ggX5_restore_X0_record
set_option maxRecDepth 20000 in
theorem ggX5_restore_X2_copyFrom : GoodIn wsX5_restore wsX2_copyFrom := goodIn_r _ [23, 24, 25, 26, 27, 28, 29, 30, 31, 32, 33, 34, 35, 36, 37, 38, 39, 40, 41, 42, 43, 44, 57, 58, 59, 60, 61, 67, 68, 69] (by decide +kernel) (by decide +kernel)
set_option maxRecDepth 20000 in
theorem gX5_restore_X2_copyFrom : GoodIn wsX5_restore (wsV RX5 205 RX2 yX2_copyFrom wsX2_copyFrom) := goodIn_app (goodIn_of _ (by decide +kernel)) ggX5_restore_X2_copyFrom
set_option maxRecDepth 20000 in
theorem ggX5_restore_X4_rows : GoodIn wsX5_restore wsX4_rows := goodIn_r _ [49, 44, 67, 68, 69] (by decide +kernel) (by decide +kernel)
set_option maxRecDepth 20000 in
theorem gX5_restore_X4_rows : GoodIn wsX5_restore (wsV RX5 51 RX4 yX4_rows wsX4_rows) := goodIn_app (goodIn_of _ (by decide +kernel)) ggX5_restore_X4_rows
theorem dX5_restore_0 : decode cX5_restore 0 = .ok (.aload_n 0, 1) := by decide +kernel
theorem dX5_restore_1 : decode cX5_restore 1 = .ok (.getfield 222, 3) := by decide +kernel
theorem dX5_restore_4 : decode cX5_restore 4 = .ok (.ifCond .ne 6, 3) := by decide +kernel
theorem dX5_restore_7 : decode cX5_restore 7 = .ok (.bipush (-2), 2) := by decide +kernel
theorem dX5_restore_9 : decode cX5_restore 9 = .ok (.ireturn, 1) := by decide +kernel
theorem dX5_restore_10 : decode cX5_restore 10 = .ok (.aload_n 0, 1) := by decide +kernel
theorem dX5_restore_11 : decode cX5_restore 11 = .ok (.getfield 25, 3) := by decide +kernel
theorem dX5_restore_14 : decode cX5_restore 14 = .ok (.aload_n 0, 1) := by decide +kernel
theorem dX5_restore_15 : decode cX5_restore 15 = .ok (.getfield 10, 3) := by decide +kernel
theorem dX5_restore_18 : decode cX5_restore 18 = .ok (.invokevirtual 57, 3) := by decide +kernel
theorem dX5_restore_21 : decode cX5_restore 21 = .ok (.aload_n 0, 1) := by decide +kernel
theorem dX5_restore_22 : decode cX5_restore 22 = .ok (.getfield 10, 3) := by decide +kernel
theorem dX5_restore_25 : decode cX5_restore 25 = .ok (.aload_n 0, 1) := by decide +kernel
theorem dX5_restore_26 : decode cX5_restore 26 = .ok (.getfield 19, 3) := by decide +kernel
theorem dX5_restore_29 : decode cX5_restore 29 = .ok (.invokevirtual 205, 3) := by decide +kernel
theorem dX5_restore_32 : decode cX5_restore 32 = .ok (.aload_n 0, 1) := by decide +kernel
theorem dX5_restore_33 : decode cX5_restore 33 = .ok (.getfield 10, 3) := by decide +kernel
theorem dX5_restore_36 : decode cX5_restore 36 = .ok (.getfield 168, 3) := by decide +kernel
theorem dX5_restore_39 : decode cX5_restore 39 = .ok (.invokevirtual 51, 3) := by decide +kernel
theorem dX5_restore_42 : decode cX5_restore 42 = .ok (.ireturn, 1) := by decide +kernel
set_option maxRecDepth 20000 in
theorem ggX5_doDeed_X2_strike : GoodIn wsX5_doDeed wsX2_strike := goodIn_r _ [7, 8, 9, 10, 11, 12, 6, 13, 14, 15, 16, 17, 18, 19, 20, 21, 22, 23, 24, 25, 26, 27, 28, 29, 30, 31, 32, 33, 34, 35, 36, 37, 38, 39, 40, 41, 42, 43, 44, 45, 46, 47, 48, 49, 50, 51, 52, 53, 54, 55, 56, 57, 58, 59, 60, 61, 62, 63, 64, 65, 66, 67, 68, 69, 70, 71, 72, 73, 74, 75, 76, 77, 78, 79, 80, 81, 82, 83, 126, 127, 128, 129, 130, 131, 132, 133] (by decide +kernel) (by decide +kernel)
set_option maxRecDepth 20000 in
theorem gX5_doDeed_X2_strike : GoodIn wsX5_doDeed (wsV RX5 85 RX2 yX2_strike wsX2_strike) := goodIn_app (goodIn_of _ (by decide +kernel)) ggX5_doDeed_X2_strike
set_option maxRecDepth 20000 in
theorem ggX5_doDeed_X2_release : GoodIn wsX5_doDeed wsX2_release := goodIn_r _ [87, 88, 10, 11, 12, 6, 13, 14, 15, 16, 17, 18, 19, 20, 21, 22, 23, 24, 25, 26, 27, 28, 29, 30, 126, 127, 128, 129, 130, 131, 132, 133] (by decide +kernel) (by decide +kernel)
set_option maxRecDepth 20000 in
theorem gX5_doDeed_X2_release : GoodIn wsX5_doDeed (wsV RX5 88 RX2 yX2_release wsX2_release) := goodIn_app (goodIn_of _ (by decide +kernel)) ggX5_doDeed_X2_release
set_option maxRecDepth 20000 in
theorem ggX5_doDeed_X2_tread : GoodIn wsX5_doDeed wsX2_tread := goodIn_r _ [92, 88, 14, 15, 16, 17, 18, 19, 20, 21, 22, 23, 24, 25, 26, 27, 28, 29, 30, 126, 127, 128, 129, 130, 131, 132, 133] (by decide +kernel) (by decide +kernel)
set_option maxRecDepth 20000 in
theorem gX5_doDeed_X2_tread : GoodIn wsX5_doDeed (wsV RX5 91 RX2 yX2_tread wsX2_tread) := goodIn_app (goodIn_of _ (by decide +kernel)) ggX5_doDeed_X2_tread
set_option maxRecDepth 20000 in
theorem ggX5_doDeed_X2_runTicks : GoodIn wsX5_doDeed wsX2_runTicks := goodIn_r _ [96, 14, 39, 40, 41, 6, 42, 43, 15, 16, 17, 18, 19, 20, 97, 98, 99, 100, 9, 21, 22, 23, 24, 25, 26, 101, 102, 103, 104, 27, 28, 29, 30, 52, 53, 54, 55, 56, 57, 58, 59, 60, 61, 62, 63, 64, 65, 66, 67, 126, 127, 128, 129, 130, 131, 132, 133] (by decide +kernel) (by decide +kernel)
set_option maxRecDepth 20000 in
theorem gX5_doDeed_X2_runTicks : GoodIn wsX5_doDeed (wsV RX5 94 RX2 yX2_runTicks wsX2_runTicks) := goodIn_app (goodIn_of _ (by decide +kernel)) ggX5_doDeed_X2_runTicks
theorem dX5_doDeed_0 : decode cX5_doDeed 0 = .ok (.aload_n 0, 1) := by decide +kernel
theorem dX5_doDeed_1 : decode cX5_doDeed 1 = .ok (.getfield 32, 3) := by decide +kernel
theorem dX5_doDeed_4 : decode cX5_doDeed 4 = .ok (.getfield 225, 3) := by decide +kernel
theorem dX5_doDeed_7 : decode cX5_doDeed 7 = .ok (.tableswitch 79 110 112 #[25, 50, 68], 25) := by decide +kernel
theorem dX5_doDeed_32 : decode cX5_doDeed 32 = .ok (.aload_n 0, 1) := by decide +kernel
theorem dX5_doDeed_33 : decode cX5_doDeed 33 = .ok (.getfield 10, 3) := by decide +kernel
theorem dX5_doDeed_36 : decode cX5_doDeed 36 = .ok (.aload_n 0, 1) := by decide +kernel
theorem dX5_doDeed_37 : decode cX5_doDeed 37 = .ok (.getfield 32, 3) := by decide +kernel
theorem dX5_doDeed_40 : decode cX5_doDeed 40 = .ok (.getfield 228, 3) := by decide +kernel
theorem dX5_doDeed_43 : decode cX5_doDeed 43 = .ok (.aload_n 0, 1) := by decide +kernel
theorem dX5_doDeed_44 : decode cX5_doDeed 44 = .ok (.getfield 32, 3) := by decide +kernel
theorem dX5_doDeed_47 : decode cX5_doDeed 47 = .ok (.getfield 231, 3) := by decide +kernel
theorem dX5_doDeed_50 : decode cX5_doDeed 50 = .ok (.invokevirtual 85, 3) := by decide +kernel
theorem dX5_doDeed_53 : decode cX5_doDeed 53 = .ok (.pop, 1) := by decide +kernel
theorem dX5_doDeed_54 : decode cX5_doDeed 54 = .ok (.goto 47, 3) := by decide +kernel
theorem dX5_doDeed_57 : decode cX5_doDeed 57 = .ok (.aload_n 0, 1) := by decide +kernel
theorem dX5_doDeed_58 : decode cX5_doDeed 58 = .ok (.getfield 10, 3) := by decide +kernel
theorem dX5_doDeed_61 : decode cX5_doDeed 61 = .ok (.aload_n 0, 1) := by decide +kernel
theorem dX5_doDeed_62 : decode cX5_doDeed 62 = .ok (.getfield 32, 3) := by decide +kernel
theorem dX5_doDeed_65 : decode cX5_doDeed 65 = .ok (.getfield 228, 3) := by decide +kernel
theorem dX5_doDeed_68 : decode cX5_doDeed 68 = .ok (.invokevirtual 88, 3) := by decide +kernel
theorem dX5_doDeed_71 : decode cX5_doDeed 71 = .ok (.pop, 1) := by decide +kernel
theorem dX5_doDeed_72 : decode cX5_doDeed 72 = .ok (.goto 29, 3) := by decide +kernel
theorem dX5_doDeed_75 : decode cX5_doDeed 75 = .ok (.aload_n 0, 1) := by decide +kernel
theorem dX5_doDeed_76 : decode cX5_doDeed 76 = .ok (.getfield 10, 3) := by decide +kernel
theorem dX5_doDeed_79 : decode cX5_doDeed 79 = .ok (.invokevirtual 91, 3) := by decide +kernel
theorem dX5_doDeed_82 : decode cX5_doDeed 82 = .ok (.pop, 1) := by decide +kernel
theorem dX5_doDeed_83 : decode cX5_doDeed 83 = .ok (.goto 18, 3) := by decide +kernel
theorem dX5_doDeed_86 : decode cX5_doDeed 86 = .ok (.aload_n 0, 1) := by decide +kernel
theorem dX5_doDeed_87 : decode cX5_doDeed 87 = .ok (.getfield 10, 3) := by decide +kernel
theorem dX5_doDeed_90 : decode cX5_doDeed 90 = .ok (.aload_n 0, 1) := by decide +kernel
theorem dX5_doDeed_91 : decode cX5_doDeed 91 = .ok (.getfield 32, 3) := by decide +kernel
theorem dX5_doDeed_94 : decode cX5_doDeed 94 = .ok (.getfield 231, 3) := by decide +kernel
theorem dX5_doDeed_97 : decode cX5_doDeed 97 = .ok (.invokevirtual 94, 3) := by decide +kernel
theorem dX5_doDeed_100 : decode cX5_doDeed 100 = .ok (.pop, 1) := by decide +kernel
theorem dX5_doDeed_101 : decode cX5_doDeed 101 = .ok (.return_, 1) := by decide +kernel
theorem dX5_within_0 : decode cX5_within 0 = .ok (.iload_n 0, 1) := by decide +kernel
theorem dX5_within_1 : decode cX5_within 1 = .ok (.iload_n 1, 1) := by decide +kernel
theorem dX5_within_2 : decode cX5_within 2 = .ok (.if_icmp .lt 12, 3) := by decide +kernel
theorem dX5_within_5 : decode cX5_within 5 = .ok (.iload_n 0, 1) := by decide +kernel
theorem dX5_within_6 : decode cX5_within 6 = .ok (.iload_n 2, 1) := by decide +kernel
theorem dX5_within_7 : decode cX5_within 7 = .ok (.if_icmp .gt 7, 3) := by decide +kernel
theorem dX5_within_10 : decode cX5_within 10 = .ok (.iconst 1, 1) := by decide +kernel
theorem dX5_within_11 : decode cX5_within 11 = .ok (.goto 4, 3) := by decide +kernel
theorem dX5_within_14 : decode cX5_within 14 = .ok (.iconst 0, 1) := by decide +kernel
theorem dX5_within_15 : decode cX5_within 15 = .ok (.ireturn, 1) := by decide +kernel
set_option maxRecDepth 20000 in
theorem ggX5_isNote_X5_within : GoodIn wsX5_isNote wsX5_within := goodIn_r _ [4] (by decide +kernel) (by decide +kernel)
set_option maxRecDepth 20000 in
theorem gX5_isNote_X5_within : GoodIn wsX5_isNote (va_wsS RX5 43 yX5_within wsX5_within) := goodIn_app (goodIn_of _ (by decide +kernel)) ggX5_isNote_X5_within
theorem dX5_isNote_0 : decode cX5_isNote 0 = .ok (.iload_n 0, 1) := by decide +kernel
theorem dX5_isNote_1 : decode cX5_isNote 1 = .ok (.iconst 0, 1) := by decide +kernel
theorem dX5_isNote_2 : decode cX5_isNote 2 = .ok (.bipush 35, 2) := by decide +kernel
theorem dX5_isNote_4 : decode cX5_isNote 4 = .ok (.invokestatic 43, 3) := by decide +kernel
theorem dX5_isNote_7 : decode cX5_isNote 7 = .ok (.ifCond .eq 17, 3) := by decide +kernel
theorem dX5_isNote_10 : decode cX5_isNote 10 = .ok (.iload_n 1, 1) := by decide +kernel
theorem dX5_isNote_11 : decode cX5_isNote 11 = .ok (.iconst 1, 1) := by decide +kernel
theorem dX5_isNote_12 : decode cX5_isNote 12 = .ok (.bipush 9, 2) := by decide +kernel
theorem dX5_isNote_14 : decode cX5_isNote 14 = .ok (.invokestatic 43, 3) := by decide +kernel
theorem dX5_isNote_17 : decode cX5_isNote 17 = .ok (.ifCond .eq 7, 3) := by decide +kernel
theorem dX5_isNote_20 : decode cX5_isNote 20 = .ok (.iconst 1, 1) := by decide +kernel
theorem dX5_isNote_21 : decode cX5_isNote 21 = .ok (.goto 4, 3) := by decide +kernel
theorem dX5_isNote_24 : decode cX5_isNote 24 = .ok (.iconst 0, 1) := by decide +kernel
theorem dX5_isNote_25 : decode cX5_isNote 25 = .ok (.ireturn, 1) := by decide +kernel
set_option maxRecDepth 20000 in
theorem ggX5_isSetting_X5_within : GoodIn wsX5_isSetting wsX5_within := goodIn_r _ [4] (by decide +kernel) (by decide +kernel)
set_option maxRecDepth 20000 in
theorem gX5_isSetting_X5_within : GoodIn wsX5_isSetting (va_wsS RX5 43 yX5_within wsX5_within) := goodIn_app (goodIn_of _ (by decide +kernel)) ggX5_isSetting_X5_within
theorem dX5_isSetting_0 : decode cX5_isSetting 0 = .ok (.iload_n 0, 1) := by decide +kernel
theorem dX5_isSetting_1 : decode cX5_isSetting 1 = .ok (.tableswitch 50 0 2 #[27, 35, 42], 27) := by decide +kernel
theorem dX5_isSetting_28 : decode cX5_isSetting 28 = .ok (.iload_n 1, 1) := by decide +kernel
theorem dX5_isSetting_29 : decode cX5_isSetting 29 = .ok (.iconst 1, 1) := by decide +kernel
theorem dX5_isSetting_30 : decode cX5_isSetting 30 = .ok (.bipush 8, 2) := by decide +kernel
theorem dX5_isSetting_32 : decode cX5_isSetting 32 = .ok (.invokestatic 43, 3) := by decide +kernel
theorem dX5_isSetting_35 : decode cX5_isSetting 35 = .ok (.ireturn, 1) := by decide +kernel
theorem dX5_isSetting_36 : decode cX5_isSetting 36 = .ok (.iload_n 1, 1) := by decide +kernel
theorem dX5_isSetting_37 : decode cX5_isSetting 37 = .ok (.iconst 0, 1) := by decide +kernel
theorem dX5_isSetting_38 : decode cX5_isSetting 38 = .ok (.iconst 2, 1) := by decide +kernel
theorem dX5_isSetting_39 : decode cX5_isSetting 39 = .ok (.invokestatic 43, 3) := by decide +kernel
theorem dX5_isSetting_42 : decode cX5_isSetting 42 = .ok (.ireturn, 1) := by decide +kernel
theorem dX5_isSetting_43 : decode cX5_isSetting 43 = .ok (.iload_n 1, 1) := by decide +kernel
theorem dX5_isSetting_44 : decode cX5_isSetting 44 = .ok (.iconst 1, 1) := by decide +kernel
theorem dX5_isSetting_45 : decode cX5_isSetting 45 = .ok (.bipush 50, 2) := by decide +kernel
theorem dX5_isSetting_47 : decode cX5_isSetting 47 = .ok (.invokestatic 43, 3) := by decide +kernel
theorem dX5_isSetting_50 : decode cX5_isSetting 50 = .ok (.ireturn, 1) := by decide +kernel
theorem dX5_isSetting_51 : decode cX5_isSetting 51 = .ok (.iconst 0, 1) := by decide +kernel
theorem dX5_isSetting_52 : decode cX5_isSetting 52 = .ok (.ireturn, 1) := by decide +kernel
theorem dX6_init_0 : decode cX6_init 0 = .ok (.aload_n 0, 1) := by decide +kernel
theorem dX6_init_1 : decode cX6_init 1 = .ok (.invokespecial 1, 3) := by decide +kernel
theorem dX6_init_4 : decode cX6_init 4 = .ok (.aload_n 0, 1) := by decide +kernel
theorem dX6_init_5 : decode cX6_init 5 = .ok (.sipush 150, 3) := by decide +kernel
theorem dX6_init_8 : decode cX6_init 8 = .ok (.newarray .int, 2) := by decide +kernel
theorem dX6_init_10 : decode cX6_init 10 = .ok (.putfield 7, 3) := by decide +kernel
theorem dX6_init_13 : decode cX6_init 13 = .ok (.aload_n 0, 1) := by decide +kernel
theorem dX6_init_14 : decode cX6_init 14 = .ok (.sipush 150, 3) := by decide +kernel
theorem dX6_init_17 : decode cX6_init 17 = .ok (.newarray .int, 2) := by decide +kernel
theorem dX6_init_19 : decode cX6_init 19 = .ok (.putfield 13, 3) := by decide +kernel
theorem dX6_init_22 : decode cX6_init 22 = .ok (.aload_n 0, 1) := by decide +kernel
theorem dX6_init_23 : decode cX6_init 23 = .ok (.sipush 600, 3) := by decide +kernel
theorem dX6_init_26 : decode cX6_init 26 = .ok (.newarray .int, 2) := by decide +kernel
theorem dX6_init_28 : decode cX6_init 28 = .ok (.putfield 16, 3) := by decide +kernel
theorem dX6_init_31 : decode cX6_init 31 = .ok (.aload_n 0, 1) := by decide +kernel
theorem dX6_init_32 : decode cX6_init 32 = .ok (.sipush 150, 3) := by decide +kernel
theorem dX6_init_35 : decode cX6_init 35 = .ok (.newarray .int, 2) := by decide +kernel
theorem dX6_init_37 : decode cX6_init 37 = .ok (.putfield 19, 3) := by decide +kernel
theorem dX6_init_40 : decode cX6_init 40 = .ok (.aload_n 0, 1) := by decide +kernel
theorem dX6_init_41 : decode cX6_init 41 = .ok (.bipush 60, 2) := by decide +kernel
theorem dX6_init_43 : decode cX6_init 43 = .ok (.newarray .int, 2) := by decide +kernel
theorem dX6_init_45 : decode cX6_init 45 = .ok (.putfield 22, 3) := by decide +kernel
theorem dX6_init_48 : decode cX6_init 48 = .ok (.aload_n 0, 1) := by decide +kernel
theorem dX6_init_49 : decode cX6_init 49 = .ok (.bipush 10, 2) := by decide +kernel
theorem dX6_init_51 : decode cX6_init 51 = .ok (.newarray .boolean, 2) := by decide +kernel
theorem dX6_init_53 : decode cX6_init 53 = .ok (.putfield 25, 3) := by decide +kernel
theorem dX6_init_56 : decode cX6_init 56 = .ok (.aload_n 0, 1) := by decide +kernel
theorem dX6_init_57 : decode cX6_init 57 = .ok (.bipush 84, 2) := by decide +kernel
theorem dX6_init_59 : decode cX6_init 59 = .ok (.newarray .int, 2) := by decide +kernel
theorem dX6_init_61 : decode cX6_init 61 = .ok (.putfield 29, 3) := by decide +kernel
theorem dX6_init_64 : decode cX6_init 64 = .ok (.aload_n 0, 1) := by decide +kernel
theorem dX6_init_65 : decode cX6_init 65 = .ok (.getfield 7, 3) := by decide +kernel
theorem dX6_init_68 : decode cX6_init 68 = .ok (.bipush 9, 2) := by decide +kernel
theorem dX6_init_70 : decode cX6_init 70 = .ok (.bipush 6, 2) := by decide +kernel
theorem dX6_init_72 : decode cX6_init 72 = .ok (.iastore, 1) := by decide +kernel
theorem dX6_init_73 : decode cX6_init 73 = .ok (.aload_n 0, 1) := by decide +kernel
theorem dX6_init_74 : decode cX6_init 74 = .ok (.getfield 7, 3) := by decide +kernel
theorem dX6_init_77 : decode cX6_init 77 = .ok (.bipush 11, 2) := by decide +kernel
theorem dX6_init_79 : decode cX6_init 79 = .ok (.bipush 10, 2) := by decide +kernel
theorem dX6_init_81 : decode cX6_init 81 = .ok (.iastore, 1) := by decide +kernel
theorem dX6_init_82 : decode cX6_init 82 = .ok (.return_, 1) := by decide +kernel
theorem dX6_in_0 : decode cX6_in 0 = .ok (.iload_n 0, 1) := by decide +kernel
theorem dX6_in_1 : decode cX6_in 1 = .ok (.iload_n 1, 1) := by decide +kernel
theorem dX6_in_2 : decode cX6_in 2 = .ok (.if_icmp .lt 12, 3) := by decide +kernel
theorem dX6_in_5 : decode cX6_in 5 = .ok (.iload_n 0, 1) := by decide +kernel
theorem dX6_in_6 : decode cX6_in 6 = .ok (.iload_n 2, 1) := by decide +kernel
theorem dX6_in_7 : decode cX6_in 7 = .ok (.if_icmp .gt 7, 3) := by decide +kernel
theorem dX6_in_10 : decode cX6_in 10 = .ok (.iconst 1, 1) := by decide +kernel
theorem dX6_in_11 : decode cX6_in 11 = .ok (.goto 4, 3) := by decide +kernel
theorem dX6_in_14 : decode cX6_in 14 = .ok (.iconst 0, 1) := by decide +kernel
theorem dX6_in_15 : decode cX6_in 15 = .ok (.ireturn, 1) := by decide +kernel
theorem dX6_copies_0 : decode cX6_copies 0 = .ok (.iconst 0, 1) := by decide +kernel
theorem dX6_copies_1 : decode cX6_copies 1 = .ok (.istore 4, 2) := by decide +kernel
theorem dX6_copies_3 : decode cX6_copies 3 = .ok (.iload 4, 2) := by decide +kernel
theorem dX6_copies_5 : decode cX6_copies 5 = .ok (.sipush 150, 3) := by decide +kernel
theorem dX6_copies_8 : decode cX6_copies 8 = .ok (.if_icmp .ge 21, 3) := by decide +kernel
theorem dX6_copies_11 : decode cX6_copies 11 = .ok (.aload_n 2, 1) := by decide +kernel
theorem dX6_copies_12 : decode cX6_copies 12 = .ok (.iload_n 3, 1) := by decide +kernel
theorem dX6_copies_13 : decode cX6_copies 13 = .ok (.iload 4, 2) := by decide +kernel
theorem dX6_copies_15 : decode cX6_copies 15 = .ok (.iadd, 1) := by decide +kernel
theorem dX6_copies_16 : decode cX6_copies 16 = .ok (.aload_n 0, 1) := by decide +kernel
theorem dX6_copies_17 : decode cX6_copies 17 = .ok (.iload_n 1, 1) := by decide +kernel
theorem dX6_copies_18 : decode cX6_copies 18 = .ok (.iload 4, 2) := by decide +kernel
theorem dX6_copies_20 : decode cX6_copies 20 = .ok (.iadd, 1) := by decide +kernel
theorem dX6_copies_21 : decode cX6_copies 21 = .ok (.iaload, 1) := by decide +kernel
theorem dX6_copies_22 : decode cX6_copies 22 = .ok (.iastore, 1) := by decide +kernel
theorem dX6_copies_23 : decode cX6_copies 23 = .ok (.iinc 4 1, 3) := by decide +kernel
theorem dX6_copies_26 : decode cX6_copies 26 = .ok (.goto (-23), 3) := by decide +kernel
theorem dX6_copies_29 : decode cX6_copies 29 = .ok (.return_, 1) := by decide +kernel
set_option maxRecDepth 20000 in
theorem ggX6_records_X6_copies : GoodIn wsX6_records wsX6_copies := goodIn_r _ [7] (by decide +kernel) (by decide +kernel)
set_option maxRecDepth 20000 in
theorem gX6_records_X6_copies : GoodIn wsX6_records (va_wsS RX6 36 yX6_copies wsX6_copies) := goodIn_app (goodIn_of _ (by decide +kernel)) ggX6_records_X6_copies
theorem dX6_records_0 : decode cX6_records 0 = .ok (.aload_n 0, 1) := by decide +kernel
theorem dX6_records_1 : decode cX6_records 1 = .ok (.getfield 32, 3) := by decide +kernel
theorem dX6_records_4 : decode cX6_records 4 = .ok (.iconst 4, 1) := by decide +kernel
theorem dX6_records_5 : decode cX6_records 5 = .ok (.if_icmp .ne 44, 3) := by decide +kernel
theorem dX6_records_8 : decode cX6_records 8 = .ok (.iconst 0, 1) := by decide +kernel
theorem dX6_records_9 : decode cX6_records 9 = .ok (.istore_n 1, 1) := by decide +kernel
theorem dX6_records_10 : decode cX6_records 10 = .ok (.iload_n 1, 1) := by decide +kernel
theorem dX6_records_11 : decode cX6_records 11 = .ok (.sipush 450, 3) := by decide +kernel
theorem dX6_records_14 : decode cX6_records 14 = .ok (.if_icmp .ge 25, 3) := by decide +kernel
theorem dX6_records_17 : decode cX6_records 17 = .ok (.aload_n 0, 1) := by decide +kernel
theorem dX6_records_18 : decode cX6_records 18 = .ok (.getfield 16, 3) := by decide +kernel
theorem dX6_records_21 : decode cX6_records 21 = .ok (.iload_n 1, 1) := by decide +kernel
theorem dX6_records_22 : decode cX6_records 22 = .ok (.aload_n 0, 1) := by decide +kernel
theorem dX6_records_23 : decode cX6_records 23 = .ok (.getfield 16, 3) := by decide +kernel
theorem dX6_records_26 : decode cX6_records 26 = .ok (.iload_n 1, 1) := by decide +kernel
theorem dX6_records_27 : decode cX6_records 27 = .ok (.sipush 150, 3) := by decide +kernel
theorem dX6_records_30 : decode cX6_records 30 = .ok (.iadd, 1) := by decide +kernel
theorem dX6_records_31 : decode cX6_records 31 = .ok (.iaload, 1) := by decide +kernel
theorem dX6_records_32 : decode cX6_records 32 = .ok (.iastore, 1) := by decide +kernel
theorem dX6_records_33 : decode cX6_records 33 = .ok (.iinc 1 1, 3) := by decide +kernel
theorem dX6_records_36 : decode cX6_records 36 = .ok (.goto (-26), 3) := by decide +kernel
theorem dX6_records_39 : decode cX6_records 39 = .ok (.aload_n 0, 1) := by decide +kernel
theorem dX6_records_40 : decode cX6_records 40 = .ok (.dup, 1) := by decide +kernel
theorem dX6_records_41 : decode cX6_records 41 = .ok (.getfield 32, 3) := by decide +kernel
theorem dX6_records_44 : decode cX6_records 44 = .ok (.iconst 1, 1) := by decide +kernel
theorem dX6_records_45 : decode cX6_records 45 = .ok (.isub, 1) := by decide +kernel
theorem dX6_records_46 : decode cX6_records 46 = .ok (.putfield 32, 3) := by decide +kernel
theorem dX6_records_49 : decode cX6_records 49 = .ok (.aload_n 0, 1) := by decide +kernel
theorem dX6_records_50 : decode cX6_records 50 = .ok (.getfield 7, 3) := by decide +kernel
theorem dX6_records_53 : decode cX6_records 53 = .ok (.iconst 0, 1) := by decide +kernel
theorem dX6_records_54 : decode cX6_records 54 = .ok (.aload_n 0, 1) := by decide +kernel
theorem dX6_records_55 : decode cX6_records 55 = .ok (.getfield 16, 3) := by decide +kernel
theorem dX6_records_58 : decode cX6_records 58 = .ok (.sipush 150, 3) := by decide +kernel
theorem dX6_records_61 : decode cX6_records 61 = .ok (.aload_n 0, 1) := by decide +kernel
theorem dX6_records_62 : decode cX6_records 62 = .ok (.getfield 32, 3) := by decide +kernel
theorem dX6_records_65 : decode cX6_records 65 = .ok (.imul, 1) := by decide +kernel
theorem dX6_records_66 : decode cX6_records 66 = .ok (.invokestatic 36, 3) := by decide +kernel
theorem dX6_records_69 : decode cX6_records 69 = .ok (.aload_n 0, 1) := by decide +kernel
theorem dX6_records_70 : decode cX6_records 70 = .ok (.dup, 1) := by decide +kernel
theorem dX6_records_71 : decode cX6_records 71 = .ok (.getfield 32, 3) := by decide +kernel
theorem dX6_records_74 : decode cX6_records 74 = .ok (.iconst 1, 1) := by decide +kernel
theorem dX6_records_75 : decode cX6_records 75 = .ok (.iadd, 1) := by decide +kernel
theorem dX6_records_76 : decode cX6_records 76 = .ok (.putfield 32, 3) := by decide +kernel
theorem dX6_records_79 : decode cX6_records 79 = .ok (.return_, 1) := by decide +kernel
set_option maxRecDepth 20000 in
theorem ggX6_isZone_X6_in : GoodIn wsX6_isZone wsX6_in := goodIn_r _ [5] (by decide +kernel) (by decide +kernel)
set_option maxRecDepth 20000 in
theorem gX6_isZone_X6_in : GoodIn wsX6_isZone (va_wsS RX6 40 yX6_in wsX6_in) := goodIn_app (goodIn_of _ (by decide +kernel)) ggX6_isZone_X6_in
theorem dX6_isZone_0 : decode cX6_isZone 0 = .ok (.iload_n 1, 1) := by decide +kernel
theorem dX6_isZone_1 : decode cX6_isZone 1 = .ok (.iconst 0, 1) := by decide +kernel
theorem dX6_isZone_2 : decode cX6_isZone 2 = .ok (.aload_n 0, 1) := by decide +kernel
theorem dX6_isZone_3 : decode cX6_isZone 3 = .ok (.getfield 7, 3) := by decide +kernel
theorem dX6_isZone_6 : decode cX6_isZone 6 = .ok (.iconst 0, 1) := by decide +kernel
theorem dX6_isZone_7 : decode cX6_isZone 7 = .ok (.iaload, 1) := by decide +kernel
theorem dX6_isZone_8 : decode cX6_isZone 8 = .ok (.iconst 1, 1) := by decide +kernel
theorem dX6_isZone_9 : decode cX6_isZone 9 = .ok (.isub, 1) := by decide +kernel
theorem dX6_isZone_10 : decode cX6_isZone 10 = .ok (.invokestatic 40, 3) := by decide +kernel
theorem dX6_isZone_13 : decode cX6_isZone 13 = .ok (.ireturn, 1) := by decide +kernel
theorem dX6_ofZone_0 : decode cX6_ofZone 0 = .ok (.aload_n 0, 1) := by decide +kernel
theorem dX6_ofZone_1 : decode cX6_ofZone 1 = .ok (.getfield 7, 3) := by decide +kernel
theorem dX6_ofZone_4 : decode cX6_ofZone 4 = .ok (.bipush 16, 2) := by decide +kernel
theorem dX6_ofZone_6 : decode cX6_ofZone 6 = .ok (.bipush 7, 2) := by decide +kernel
theorem dX6_ofZone_8 : decode cX6_ofZone 8 = .ok (.iload_n 1, 1) := by decide +kernel
theorem dX6_ofZone_9 : decode cX6_ofZone 9 = .ok (.imul, 1) := by decide +kernel
theorem dX6_ofZone_10 : decode cX6_ofZone 10 = .ok (.iadd, 1) := by decide +kernel
theorem dX6_ofZone_11 : decode cX6_ofZone 11 = .ok (.iload_n 2, 1) := by decide +kernel
theorem dX6_ofZone_12 : decode cX6_ofZone 12 = .ok (.iadd, 1) := by decide +kernel
theorem dX6_ofZone_13 : decode cX6_ofZone 13 = .ok (.iaload, 1) := by decide +kernel
theorem dX6_ofZone_14 : decode cX6_ofZone 14 = .ok (.ireturn, 1) := by decide +kernel
theorem dX6_laysZone_0 : decode cX6_laysZone 0 = .ok (.aload_n 0, 1) := by decide +kernel
theorem dX6_laysZone_1 : decode cX6_laysZone 1 = .ok (.getfield 7, 3) := by decide +kernel
theorem dX6_laysZone_4 : decode cX6_laysZone 4 = .ok (.bipush 16, 2) := by decide +kernel
theorem dX6_laysZone_6 : decode cX6_laysZone 6 = .ok (.bipush 7, 2) := by decide +kernel
theorem dX6_laysZone_8 : decode cX6_laysZone 8 = .ok (.iload_n 1, 1) := by decide +kernel
theorem dX6_laysZone_9 : decode cX6_laysZone 9 = .ok (.imul, 1) := by decide +kernel
theorem dX6_laysZone_10 : decode cX6_laysZone 10 = .ok (.iadd, 1) := by decide +kernel
theorem dX6_laysZone_11 : decode cX6_laysZone 11 = .ok (.iload_n 2, 1) := by decide +kernel
theorem dX6_laysZone_12 : decode cX6_laysZone 12 = .ok (.iadd, 1) := by decide +kernel
theorem dX6_laysZone_13 : decode cX6_laysZone 13 = .ok (.iload_n 3, 1) := by decide +kernel
theorem dX6_laysZone_14 : decode cX6_laysZone 14 = .ok (.iastore, 1) := by decide +kernel
theorem dX6_laysZone_15 : decode cX6_laysZone 15 = .ok (.return_, 1) := by decide +kernel
theorem dX6_of_0 : decode cX6_of 0 = .ok (.aload_n 0, 1) := by decide +kernel
theorem dX6_of_1 : decode cX6_of 1 = .ok (.getfield 7, 3) := by decide +kernel
theorem dX6_of_4 : decode cX6_of 4 = .ok (.bipush 86, 2) := by decide +kernel
theorem dX6_of_6 : decode cX6_of 6 = .ok (.bipush 8, 2) := by decide +kernel
theorem dX6_of_8 : decode cX6_of 8 = .ok (.iload_n 1, 1) := by decide +kernel
theorem dX6_of_9 : decode cX6_of 9 = .ok (.imul, 1) := by decide +kernel
theorem dX6_of_10 : decode cX6_of 10 = .ok (.iadd, 1) := by decide +kernel
theorem dX6_of_11 : decode cX6_of 11 = .ok (.iload_n 2, 1) := by decide +kernel
theorem dX6_of_12 : decode cX6_of 12 = .ok (.iadd, 1) := by decide +kernel
theorem dX6_of_13 : decode cX6_of 13 = .ok (.iaload, 1) := by decide +kernel
theorem dX6_of_14 : decode cX6_of 14 = .ok (.ireturn, 1) := by decide +kernel
theorem dX6_lays_0 : decode cX6_lays 0 = .ok (.aload_n 0, 1) := by decide +kernel
theorem dX6_lays_1 : decode cX6_lays 1 = .ok (.getfield 7, 3) := by decide +kernel
theorem dX6_lays_4 : decode cX6_lays 4 = .ok (.bipush 86, 2) := by decide +kernel
theorem dX6_lays_6 : decode cX6_lays 6 = .ok (.bipush 8, 2) := by decide +kernel
theorem dX6_lays_8 : decode cX6_lays 8 = .ok (.iload_n 1, 1) := by decide +kernel
theorem dX6_lays_9 : decode cX6_lays 9 = .ok (.imul, 1) := by decide +kernel
theorem dX6_lays_10 : decode cX6_lays 10 = .ok (.iadd, 1) := by decide +kernel
theorem dX6_lays_11 : decode cX6_lays 11 = .ok (.iload_n 2, 1) := by decide +kernel
theorem dX6_lays_12 : decode cX6_lays 12 = .ok (.iadd, 1) := by decide +kernel
theorem dX6_lays_13 : decode cX6_lays 13 = .ok (.iload_n 3, 1) := by decide +kernel
theorem dX6_lays_14 : decode cX6_lays 14 = .ok (.iastore, 1) := by decide +kernel
theorem dX6_lays_15 : decode cX6_lays 15 = .ok (.return_, 1) := by decide +kernel
set_option maxRecDepth 20000 in
theorem ggX6_isAnswer_X6_ofZone : GoodIn wsX6_isAnswer wsX6_ofZone := goodIn_r _ [5, 6, 10, 11, 12, 13, 14, 15, 16, 17, 18, 19, 20, 21, 22, 23, 24, 25, 26] (by decide +kernel) (by decide +kernel)
set_option maxRecDepth 20000 in
theorem gX6_isAnswer_X6_ofZone : GoodIn wsX6_isAnswer (wsV RX6 44 RX6 yX6_ofZone wsX6_ofZone) := goodIn_app (goodIn_of _ (by decide +kernel)) ggX6_isAnswer_X6_ofZone
set_option maxRecDepth 20000 in
theorem ggX6_isAnswer_X6_in : GoodIn wsX6_isAnswer wsX6_in := goodIn_r _ [9] (by decide +kernel) (by decide +kernel)
set_option maxRecDepth 20000 in
theorem gX6_isAnswer_X6_in : GoodIn wsX6_isAnswer (va_wsS RX6 40 yX6_in wsX6_in) := goodIn_app (goodIn_of _ (by decide +kernel)) ggX6_isAnswer_X6_in
theorem dX6_isAnswer_0 : decode cX6_isAnswer 0 = .ok (.iload_n 2, 1) := by decide +kernel
theorem dX6_isAnswer_1 : decode cX6_isAnswer 1 = .ok (.aload_n 0, 1) := by decide +kernel
theorem dX6_isAnswer_2 : decode cX6_isAnswer 2 = .ok (.iload_n 1, 1) := by decide +kernel
theorem dX6_isAnswer_3 : decode cX6_isAnswer 3 = .ok (.iconst 0, 1) := by decide +kernel
theorem dX6_isAnswer_4 : decode cX6_isAnswer 4 = .ok (.invokevirtual 44, 3) := by decide +kernel
theorem dX6_isAnswer_7 : decode cX6_isAnswer 7 = .ok (.aload_n 0, 1) := by decide +kernel
theorem dX6_isAnswer_8 : decode cX6_isAnswer 8 = .ok (.iload_n 1, 1) := by decide +kernel
theorem dX6_isAnswer_9 : decode cX6_isAnswer 9 = .ok (.iconst 1, 1) := by decide +kernel
theorem dX6_isAnswer_10 : decode cX6_isAnswer 10 = .ok (.invokevirtual 44, 3) := by decide +kernel
theorem dX6_isAnswer_13 : decode cX6_isAnswer 13 = .ok (.invokestatic 40, 3) := by decide +kernel
theorem dX6_isAnswer_16 : decode cX6_isAnswer 16 = .ok (.ifCond .eq 26, 3) := by decide +kernel
theorem dX6_isAnswer_19 : decode cX6_isAnswer 19 = .ok (.iload_n 3, 1) := by decide +kernel
theorem dX6_isAnswer_20 : decode cX6_isAnswer 20 = .ok (.aload_n 0, 1) := by decide +kernel
theorem dX6_isAnswer_21 : decode cX6_isAnswer 21 = .ok (.iload_n 1, 1) := by decide +kernel
theorem dX6_isAnswer_22 : decode cX6_isAnswer 22 = .ok (.iconst 2, 1) := by decide +kernel
theorem dX6_isAnswer_23 : decode cX6_isAnswer 23 = .ok (.invokevirtual 44, 3) := by decide +kernel
theorem dX6_isAnswer_26 : decode cX6_isAnswer 26 = .ok (.aload_n 0, 1) := by decide +kernel
theorem dX6_isAnswer_27 : decode cX6_isAnswer 27 = .ok (.iload_n 1, 1) := by decide +kernel
theorem dX6_isAnswer_28 : decode cX6_isAnswer 28 = .ok (.iconst 3, 1) := by decide +kernel
theorem dX6_isAnswer_29 : decode cX6_isAnswer 29 = .ok (.invokevirtual 44, 3) := by decide +kernel
theorem dX6_isAnswer_32 : decode cX6_isAnswer 32 = .ok (.invokestatic 40, 3) := by decide +kernel
theorem dX6_isAnswer_35 : decode cX6_isAnswer 35 = .ok (.ifCond .eq 7, 3) := by decide +kernel
theorem dX6_isAnswer_38 : decode cX6_isAnswer 38 = .ok (.iconst 1, 1) := by decide +kernel
theorem dX6_isAnswer_39 : decode cX6_isAnswer 39 = .ok (.goto 4, 3) := by decide +kernel
theorem dX6_isAnswer_42 : decode cX6_isAnswer 42 = .ok (.iconst 0, 1) := by decide +kernel
theorem dX6_isAnswer_43 : decode cX6_isAnswer 43 = .ok (.ireturn, 1) := by decide +kernel
set_option maxRecDepth 20000 in
theorem ggX6_answering_X6_isAnswer : GoodIn wsX6_answering wsX6_isAnswer := goodIn_r _ [6, 7, 8, 9, 5, 10, 1, 11, 12, 13, 14, 15, 16, 17, 18, 19, 20, 21, 22, 23, 24, 25, 26, 27, 28, 29, 30] (by decide +kernel) (by decide +kernel)
set_option maxRecDepth 20000 in
theorem gX6_answering_X6_isAnswer : GoodIn wsX6_answering (wsV RX6 48 RX6 yX6_isAnswer wsX6_isAnswer) := goodIn_app (goodIn_of _ (by decide +kernel)) ggX6_answering_X6_isAnswer
theorem dX6_answering_0 : decode cX6_answering 0 = .ok (.iconst 0, 1) := by decide +kernel
theorem dX6_answering_1 : decode cX6_answering 1 = .ok (.istore_n 3, 1) := by decide +kernel
theorem dX6_answering_2 : decode cX6_answering 2 = .ok (.iconst 0, 1) := by decide +kernel
theorem dX6_answering_3 : decode cX6_answering 3 = .ok (.istore 4, 2) := by decide +kernel
theorem dX6_answering_5 : decode cX6_answering 5 = .ok (.iload 4, 2) := by decide +kernel
theorem dX6_answering_7 : decode cX6_answering 7 = .ok (.aload_n 0, 1) := by decide +kernel
theorem dX6_answering_8 : decode cX6_answering 8 = .ok (.getfield 7, 3) := by decide +kernel
theorem dX6_answering_11 : decode cX6_answering 11 = .ok (.iconst 0, 1) := by decide +kernel
theorem dX6_answering_12 : decode cX6_answering 12 = .ok (.iaload, 1) := by decide +kernel
theorem dX6_answering_13 : decode cX6_answering 13 = .ok (.if_icmp .ge 28, 3) := by decide +kernel
theorem dX6_answering_16 : decode cX6_answering 16 = .ok (.iload_n 3, 1) := by decide +kernel
theorem dX6_answering_17 : decode cX6_answering 17 = .ok (.aload_n 0, 1) := by decide +kernel
theorem dX6_answering_18 : decode cX6_answering 18 = .ok (.iload 4, 2) := by decide +kernel
theorem dX6_answering_20 : decode cX6_answering 20 = .ok (.iload_n 1, 1) := by decide +kernel
theorem dX6_answering_21 : decode cX6_answering 21 = .ok (.iload_n 2, 1) := by decide +kernel
theorem dX6_answering_22 : decode cX6_answering 22 = .ok (.invokevirtual 48, 3) := by decide +kernel
theorem dX6_answering_25 : decode cX6_answering 25 = .ok (.ifCond .eq 7, 3) := by decide +kernel
theorem dX6_answering_28 : decode cX6_answering 28 = .ok (.iconst 1, 1) := by decide +kernel
theorem dX6_answering_29 : decode cX6_answering 29 = .ok (.goto 4, 3) := by decide +kernel
theorem dX6_answering_32 : decode cX6_answering 32 = .ok (.iconst 0, 1) := by decide +kernel
theorem dX6_answering_33 : decode cX6_answering 33 = .ok (.iadd, 1) := by decide +kernel
theorem dX6_answering_34 : decode cX6_answering 34 = .ok (.istore_n 3, 1) := by decide +kernel
theorem dX6_answering_35 : decode cX6_answering 35 = .ok (.iinc 4 1, 3) := by decide +kernel
theorem dX6_answering_38 : decode cX6_answering 38 = .ok (.goto (-33), 3) := by decide +kernel
theorem dX6_answering_41 : decode cX6_answering 41 = .ok (.iload_n 3, 1) := by decide +kernel
theorem dX6_answering_42 : decode cX6_answering 42 = .ok (.ireturn, 1) := by decide +kernel
set_option maxRecDepth 20000 in
theorem ggX6_ofRobin_X6_ofZone : GoodIn wsX6_ofRobin wsX6_ofZone := goodIn_r _ [5, 6, 14, 15, 16, 17, 18, 19, 20, 21, 22, 23, 24, 25, 26, 27, 28, 29, 30] (by decide +kernel) (by decide +kernel)
set_option maxRecDepth 20000 in
theorem gX6_ofRobin_X6_ofZone : GoodIn wsX6_ofRobin (wsV RX6 44 RX6 yX6_ofZone wsX6_ofZone) := goodIn_app (goodIn_of _ (by decide +kernel)) ggX6_ofRobin_X6_ofZone
set_option maxRecDepth 20000 in
theorem ggX6_ofRobin_X6_isAnswer : GoodIn wsX6_ofRobin wsX6_isAnswer := goodIn_r _ [10, 1, 2, 3, 4, 5, 6, 11, 12, 13, 14, 15, 16, 17, 18, 19, 20, 21, 22, 23, 24, 25, 26, 27, 28, 29, 30] (by decide +kernel) (by decide +kernel)
set_option maxRecDepth 20000 in
theorem gX6_ofRobin_X6_isAnswer : GoodIn wsX6_ofRobin (wsV RX6 48 RX6 yX6_isAnswer wsX6_isAnswer) := goodIn_app (goodIn_of _ (by decide +kernel)) ggX6_ofRobin_X6_isAnswer
theorem dX6_ofRobin_0 : decode cX6_ofRobin 0 = .ok (.iconst 0, 1) := by decide +kernel
theorem dX6_ofRobin_1 : decode cX6_ofRobin 1 = .ok (.istore 5, 2) := by decide +kernel
theorem dX6_ofRobin_3 : decode cX6_ofRobin 3 = .ok (.iconst 0, 1) := by decide +kernel
theorem dX6_ofRobin_4 : decode cX6_ofRobin 4 = .ok (.istore 6, 2) := by decide +kernel
theorem dX6_ofRobin_6 : decode cX6_ofRobin 6 = .ok (.iload 6, 2) := by decide +kernel
theorem dX6_ofRobin_8 : decode cX6_ofRobin 8 = .ok (.iload_n 2, 1) := by decide +kernel
theorem dX6_ofRobin_9 : decode cX6_ofRobin 9 = .ok (.if_icmp .ge 42, 3) := by decide +kernel
theorem dX6_ofRobin_12 : decode cX6_ofRobin 12 = .ok (.iload 5, 2) := by decide +kernel
theorem dX6_ofRobin_14 : decode cX6_ofRobin 14 = .ok (.aload_n 0, 1) := by decide +kernel
theorem dX6_ofRobin_15 : decode cX6_ofRobin 15 = .ok (.iload 6, 2) := by decide +kernel
theorem dX6_ofRobin_17 : decode cX6_ofRobin 17 = .ok (.iconst 5, 1) := by decide +kernel
theorem dX6_ofRobin_18 : decode cX6_ofRobin 18 = .ok (.invokevirtual 44, 3) := by decide +kernel
theorem dX6_ofRobin_21 : decode cX6_ofRobin 21 = .ok (.iload_n 1, 1) := by decide +kernel
theorem dX6_ofRobin_22 : decode cX6_ofRobin 22 = .ok (.if_icmp .ne 19, 3) := by decide +kernel
theorem dX6_ofRobin_25 : decode cX6_ofRobin 25 = .ok (.aload_n 0, 1) := by decide +kernel
theorem dX6_ofRobin_26 : decode cX6_ofRobin 26 = .ok (.iload 6, 2) := by decide +kernel
theorem dX6_ofRobin_28 : decode cX6_ofRobin 28 = .ok (.iload_n 3, 1) := by decide +kernel
theorem dX6_ofRobin_29 : decode cX6_ofRobin 29 = .ok (.iload 4, 2) := by decide +kernel
theorem dX6_ofRobin_31 : decode cX6_ofRobin 31 = .ok (.invokevirtual 48, 3) := by decide +kernel
theorem dX6_ofRobin_34 : decode cX6_ofRobin 34 = .ok (.ifCond .eq 7, 3) := by decide +kernel
theorem dX6_ofRobin_37 : decode cX6_ofRobin 37 = .ok (.iconst 1, 1) := by decide +kernel
theorem dX6_ofRobin_38 : decode cX6_ofRobin 38 = .ok (.goto 4, 3) := by decide +kernel
theorem dX6_ofRobin_41 : decode cX6_ofRobin 41 = .ok (.iconst 0, 1) := by decide +kernel
theorem dX6_ofRobin_42 : decode cX6_ofRobin 42 = .ok (.iadd, 1) := by decide +kernel
theorem dX6_ofRobin_43 : decode cX6_ofRobin 43 = .ok (.istore 5, 2) := by decide +kernel
theorem dX6_ofRobin_45 : decode cX6_ofRobin 45 = .ok (.iinc 6 1, 3) := by decide +kernel
theorem dX6_ofRobin_48 : decode cX6_ofRobin 48 = .ok (.goto (-42), 3) := by decide +kernel
theorem dX6_ofRobin_51 : decode cX6_ofRobin 51 = .ok (.iload 5, 2) := by decide +kernel
theorem dX6_ofRobin_53 : decode cX6_ofRobin 53 = .ok (.ireturn, 1) := by decide +kernel
set_option maxRecDepth 20000 in
theorem ggX6_isSounding_X6_ofZone : GoodIn wsX6_isSounding wsX6_ofZone := goodIn_r _ [6, 1, 18, 19, 20, 21, 22, 23, 24, 25, 26, 27, 28, 29, 30, 31, 32, 33, 34] (by decide +kernel) (by decide +kernel)
set_option maxRecDepth 20000 in
theorem gX6_isSounding_X6_ofZone : GoodIn wsX6_isSounding (wsV RX6 44 RX6 yX6_ofZone wsX6_ofZone) := goodIn_app (goodIn_of _ (by decide +kernel)) ggX6_isSounding_X6_ofZone
set_option maxRecDepth 20000 in
theorem ggX6_isSounding_X6_isAnswer : GoodIn wsX6_isSounding wsX6_isAnswer := goodIn_r _ [10, 2, 3, 4, 5, 6, 1, 11, 12, 13, 18, 19, 20, 21, 22, 23, 24, 25, 26, 27, 28, 29, 30, 31, 32, 33, 34] (by decide +kernel) (by decide +kernel)
set_option maxRecDepth 20000 in
theorem gX6_isSounding_X6_isAnswer : GoodIn wsX6_isSounding (wsV RX6 48 RX6 yX6_isAnswer wsX6_isAnswer) := goodIn_app (goodIn_of _ (by decide +kernel)) ggX6_isSounding_X6_isAnswer
set_option maxRecDepth 20000 in
theorem ggX6_isSounding_X6_ofRobin : GoodIn wsX6_isSounding wsX6_ofRobin := goodIn_r _ [17, 2, 3, 4, 5, 6, 1, 7, 8, 9, 10, 11, 12, 13, 18, 19, 20, 21, 22, 23, 24, 25, 26, 27, 28, 29, 30, 31, 32, 33, 34] (by decide +kernel) (by decide +kernel)
set_option maxRecDepth 20000 in
theorem gX6_isSounding_X6_ofRobin : GoodIn wsX6_isSounding (wsV RX6 51 RX6 yX6_ofRobin wsX6_ofRobin) := goodIn_app (goodIn_of _ (by decide +kernel)) ggX6_isSounding_X6_ofRobin
theorem dX6_isSounding_0 : decode cX6_isSounding 0 = .ok (.aload_n 0, 1) := by decide +kernel
theorem dX6_isSounding_1 : decode cX6_isSounding 1 = .ok (.iload_n 1, 1) := by decide +kernel
theorem dX6_isSounding_2 : decode cX6_isSounding 2 = .ok (.iconst 5, 1) := by decide +kernel
theorem dX6_isSounding_3 : decode cX6_isSounding 3 = .ok (.invokevirtual 44, 3) := by decide +kernel
theorem dX6_isSounding_6 : decode cX6_isSounding 6 = .ok (.istore 4, 2) := by decide +kernel
theorem dX6_isSounding_8 : decode cX6_isSounding 8 = .ok (.aload_n 0, 1) := by decide +kernel
theorem dX6_isSounding_9 : decode cX6_isSounding 9 = .ok (.iload_n 1, 1) := by decide +kernel
theorem dX6_isSounding_10 : decode cX6_isSounding 10 = .ok (.iload_n 2, 1) := by decide +kernel
theorem dX6_isSounding_11 : decode cX6_isSounding 11 = .ok (.iload_n 3, 1) := by decide +kernel
theorem dX6_isSounding_12 : decode cX6_isSounding 12 = .ok (.invokevirtual 48, 3) := by decide +kernel
theorem dX6_isSounding_15 : decode cX6_isSounding 15 = .ok (.ifCond .eq 8, 3) := by decide +kernel
theorem dX6_isSounding_18 : decode cX6_isSounding 18 = .ok (.iload 4, 2) := by decide +kernel
theorem dX6_isSounding_20 : decode cX6_isSounding 20 = .ok (.ifCond .ne 11, 3) := by decide +kernel
theorem dX6_isSounding_23 : decode cX6_isSounding 23 = .ok (.aload_n 0, 1) := by decide +kernel
theorem dX6_isSounding_24 : decode cX6_isSounding 24 = .ok (.iload_n 1, 1) := by decide +kernel
theorem dX6_isSounding_25 : decode cX6_isSounding 25 = .ok (.iload_n 2, 1) := by decide +kernel
theorem dX6_isSounding_26 : decode cX6_isSounding 26 = .ok (.iload_n 3, 1) := by decide +kernel
theorem dX6_isSounding_27 : decode cX6_isSounding 27 = .ok (.invokevirtual 48, 3) := by decide +kernel
theorem dX6_isSounding_30 : decode cX6_isSounding 30 = .ok (.ireturn, 1) := by decide +kernel
theorem dX6_isSounding_31 : decode cX6_isSounding 31 = .ok (.aload_n 0, 1) := by decide +kernel
theorem dX6_isSounding_32 : decode cX6_isSounding 32 = .ok (.iload 4, 2) := by decide +kernel
theorem dX6_isSounding_34 : decode cX6_isSounding 34 = .ok (.aload_n 0, 1) := by decide +kernel
theorem dX6_isSounding_35 : decode cX6_isSounding 35 = .ok (.getfield 7, 3) := by decide +kernel
theorem dX6_isSounding_38 : decode cX6_isSounding 38 = .ok (.iconst 0, 1) := by decide +kernel
theorem dX6_isSounding_39 : decode cX6_isSounding 39 = .ok (.iaload, 1) := by decide +kernel
theorem dX6_isSounding_40 : decode cX6_isSounding 40 = .ok (.iload_n 2, 1) := by decide +kernel
theorem dX6_isSounding_41 : decode cX6_isSounding 41 = .ok (.iload_n 3, 1) := by decide +kernel
theorem dX6_isSounding_42 : decode cX6_isSounding 42 = .ok (.invokevirtual 51, 3) := by decide +kernel
theorem dX6_isSounding_45 : decode cX6_isSounding 45 = .ok (.istore 5, 2) := by decide +kernel
theorem dX6_isSounding_47 : decode cX6_isSounding 47 = .ok (.aload_n 0, 1) := by decide +kernel
theorem dX6_isSounding_48 : decode cX6_isSounding 48 = .ok (.getfield 7, 3) := by decide +kernel
theorem dX6_isSounding_51 : decode cX6_isSounding 51 = .ok (.bipush 12, 2) := by decide +kernel
theorem dX6_isSounding_53 : decode cX6_isSounding 53 = .ok (.iload 4, 2) := by decide +kernel
theorem dX6_isSounding_55 : decode cX6_isSounding 55 = .ok (.iadd, 1) := by decide +kernel
theorem dX6_isSounding_56 : decode cX6_isSounding 56 = .ok (.iconst 1, 1) := by decide +kernel
theorem dX6_isSounding_57 : decode cX6_isSounding 57 = .ok (.isub, 1) := by decide +kernel
theorem dX6_isSounding_58 : decode cX6_isSounding 58 = .ok (.iaload, 1) := by decide +kernel
theorem dX6_isSounding_59 : decode cX6_isSounding 59 = .ok (.iload 5, 2) := by decide +kernel
theorem dX6_isSounding_61 : decode cX6_isSounding 61 = .ok (.irem, 1) := by decide +kernel
theorem dX6_isSounding_62 : decode cX6_isSounding 62 = .ok (.aload_n 0, 1) := by decide +kernel
theorem dX6_isSounding_63 : decode cX6_isSounding 63 = .ok (.iload 4, 2) := by decide +kernel
theorem dX6_isSounding_65 : decode cX6_isSounding 65 = .ok (.iload_n 1, 1) := by decide +kernel
theorem dX6_isSounding_66 : decode cX6_isSounding 66 = .ok (.iload_n 2, 1) := by decide +kernel
theorem dX6_isSounding_67 : decode cX6_isSounding 67 = .ok (.iload_n 3, 1) := by decide +kernel
theorem dX6_isSounding_68 : decode cX6_isSounding 68 = .ok (.invokevirtual 51, 3) := by decide +kernel
theorem dX6_isSounding_71 : decode cX6_isSounding 71 = .ok (.if_icmp .ne 7, 3) := by decide +kernel
theorem dX6_isSounding_74 : decode cX6_isSounding 74 = .ok (.iconst 1, 1) := by decide +kernel
theorem dX6_isSounding_75 : decode cX6_isSounding 75 = .ok (.goto 4, 3) := by decide +kernel
theorem dX6_isSounding_78 : decode cX6_isSounding 78 = .ok (.iconst 0, 1) := by decide +kernel
theorem dX6_isSounding_79 : decode cX6_isSounding 79 = .ok (.ireturn, 1) := by decide +kernel
theorem dX6_dropsVoice_0 : decode cX6_dropsVoice 0 = .ok (.aload_n 0, 1) := by decide +kernel
theorem dX6_dropsVoice_1 : decode cX6_dropsVoice 1 = .ok (.getfield 7, 3) := by decide +kernel
theorem dX6_dropsVoice_4 : decode cX6_dropsVoice 4 = .ok (.iconst 1, 1) := by decide +kernel
theorem dX6_dropsVoice_5 : decode cX6_dropsVoice 5 = .ok (.dup2, 1) := by decide +kernel
theorem dX6_dropsVoice_6 : decode cX6_dropsVoice 6 = .ok (.iaload, 1) := by decide +kernel
theorem dX6_dropsVoice_7 : decode cX6_dropsVoice 7 = .ok (.iconst 1, 1) := by decide +kernel
theorem dX6_dropsVoice_8 : decode cX6_dropsVoice 8 = .ok (.isub, 1) := by decide +kernel
theorem dX6_dropsVoice_9 : decode cX6_dropsVoice 9 = .ok (.iastore, 1) := by decide +kernel
theorem dX6_dropsVoice_10 : decode cX6_dropsVoice 10 = .ok (.bipush 86, 2) := by decide +kernel
theorem dX6_dropsVoice_12 : decode cX6_dropsVoice 12 = .ok (.bipush 8, 2) := by decide +kernel
theorem dX6_dropsVoice_14 : decode cX6_dropsVoice 14 = .ok (.iload_n 1, 1) := by decide +kernel
theorem dX6_dropsVoice_15 : decode cX6_dropsVoice 15 = .ok (.imul, 1) := by decide +kernel
theorem dX6_dropsVoice_16 : decode cX6_dropsVoice 16 = .ok (.iadd, 1) := by decide +kernel
theorem dX6_dropsVoice_17 : decode cX6_dropsVoice 17 = .ok (.istore_n 2, 1) := by decide +kernel
theorem dX6_dropsVoice_18 : decode cX6_dropsVoice 18 = .ok (.iload_n 2, 1) := by decide +kernel
theorem dX6_dropsVoice_19 : decode cX6_dropsVoice 19 = .ok (.sipush 150, 3) := by decide +kernel
theorem dX6_dropsVoice_22 : decode cX6_dropsVoice 22 = .ok (.if_icmp .ge 38, 3) := by decide +kernel
theorem dX6_dropsVoice_25 : decode cX6_dropsVoice 25 = .ok (.aload_n 0, 1) := by decide +kernel
theorem dX6_dropsVoice_26 : decode cX6_dropsVoice 26 = .ok (.getfield 7, 3) := by decide +kernel
theorem dX6_dropsVoice_29 : decode cX6_dropsVoice 29 = .ok (.iload_n 2, 1) := by decide +kernel
theorem dX6_dropsVoice_30 : decode cX6_dropsVoice 30 = .ok (.iload_n 2, 1) := by decide +kernel
theorem dX6_dropsVoice_31 : decode cX6_dropsVoice 31 = .ok (.bipush 8, 2) := by decide +kernel
theorem dX6_dropsVoice_33 : decode cX6_dropsVoice 33 = .ok (.iadd, 1) := by decide +kernel
theorem dX6_dropsVoice_34 : decode cX6_dropsVoice 34 = .ok (.sipush 150, 3) := by decide +kernel
theorem dX6_dropsVoice_37 : decode cX6_dropsVoice 37 = .ok (.if_icmp .ge 15, 3) := by decide +kernel
theorem dX6_dropsVoice_40 : decode cX6_dropsVoice 40 = .ok (.aload_n 0, 1) := by decide +kernel
theorem dX6_dropsVoice_41 : decode cX6_dropsVoice 41 = .ok (.getfield 7, 3) := by decide +kernel
theorem dX6_dropsVoice_44 : decode cX6_dropsVoice 44 = .ok (.iload_n 2, 1) := by decide +kernel
theorem dX6_dropsVoice_45 : decode cX6_dropsVoice 45 = .ok (.bipush 8, 2) := by decide +kernel
theorem dX6_dropsVoice_47 : decode cX6_dropsVoice 47 = .ok (.iadd, 1) := by decide +kernel
theorem dX6_dropsVoice_48 : decode cX6_dropsVoice 48 = .ok (.iaload, 1) := by decide +kernel
theorem dX6_dropsVoice_49 : decode cX6_dropsVoice 49 = .ok (.goto 4, 3) := by decide +kernel
theorem dX6_dropsVoice_52 : decode cX6_dropsVoice 52 = .ok (.iconst 0, 1) := by decide +kernel
theorem dX6_dropsVoice_53 : decode cX6_dropsVoice 53 = .ok (.iastore, 1) := by decide +kernel
theorem dX6_dropsVoice_54 : decode cX6_dropsVoice 54 = .ok (.iinc 2 1, 3) := by decide +kernel
theorem dX6_dropsVoice_57 : decode cX6_dropsVoice 57 = .ok (.goto (-39), 3) := by decide +kernel
theorem dX6_dropsVoice_60 : decode cX6_dropsVoice 60 = .ok (.return_, 1) := by decide +kernel
set_option maxRecDepth 20000 in
theorem ggX6_soon_X6_of : GoodIn wsX6_soon wsX6_of := goodIn_r _ [6, 1, 7, 8, 9, 10, 11, 12, 13, 14, 15, 16, 17, 18, 19, 20, 21, 22, 23] (by decide +kernel) (by decide +kernel)
set_option maxRecDepth 20000 in
theorem gX6_soon_X6_of : GoodIn wsX6_soon (wsV RX6 55 RX6 yX6_of wsX6_of) := goodIn_app (goodIn_of _ (by decide +kernel)) ggX6_soon_X6_of
theorem dX6_soon_0 : decode cX6_soon 0 = .ok (.aload_n 0, 1) := by decide +kernel
theorem dX6_soon_1 : decode cX6_soon 1 = .ok (.getfield 7, 3) := by decide +kernel
theorem dX6_soon_4 : decode cX6_soon 4 = .ok (.bipush 10, 2) := by decide +kernel
theorem dX6_soon_6 : decode cX6_soon 6 = .ok (.iaload, 1) := by decide +kernel
theorem dX6_soon_7 : decode cX6_soon 7 = .ok (.ifCond .ne 12, 3) := by decide +kernel
theorem dX6_soon_10 : decode cX6_soon 10 = .ok (.aload_n 0, 1) := by decide +kernel
theorem dX6_soon_11 : decode cX6_soon 11 = .ok (.iload_n 1, 1) := by decide +kernel
theorem dX6_soon_12 : decode cX6_soon 12 = .ok (.iconst 4, 1) := by decide +kernel
theorem dX6_soon_13 : decode cX6_soon 13 = .ok (.invokevirtual 55, 3) := by decide +kernel
theorem dX6_soon_16 : decode cX6_soon 16 = .ok (.goto 30, 3) := by decide +kernel
theorem dX6_soon_19 : decode cX6_soon 19 = .ok (.aload_n 0, 1) := by decide +kernel
theorem dX6_soon_20 : decode cX6_soon 20 = .ok (.getfield 7, 3) := by decide +kernel
theorem dX6_soon_23 : decode cX6_soon 23 = .ok (.bipush 10, 2) := by decide +kernel
theorem dX6_soon_25 : decode cX6_soon 25 = .ok (.iaload, 1) := by decide +kernel
theorem dX6_soon_26 : decode cX6_soon 26 = .ok (.iconst 1, 1) := by decide +kernel
theorem dX6_soon_27 : decode cX6_soon 27 = .ok (.if_icmp .ne 13, 3) := by decide +kernel
theorem dX6_soon_30 : decode cX6_soon 30 = .ok (.aload_n 0, 1) := by decide +kernel
theorem dX6_soon_31 : decode cX6_soon 31 = .ok (.iload_n 1, 1) := by decide +kernel
theorem dX6_soon_32 : decode cX6_soon 32 = .ok (.iconst 3, 1) := by decide +kernel
theorem dX6_soon_33 : decode cX6_soon 33 = .ok (.invokevirtual 55, 3) := by decide +kernel
theorem dX6_soon_36 : decode cX6_soon 36 = .ok (.ineg, 1) := by decide +kernel
theorem dX6_soon_37 : decode cX6_soon 37 = .ok (.goto 9, 3) := by decide +kernel
theorem dX6_soon_40 : decode cX6_soon 40 = .ok (.aload_n 0, 1) := by decide +kernel
theorem dX6_soon_41 : decode cX6_soon 41 = .ok (.iload_n 1, 1) := by decide +kernel
theorem dX6_soon_42 : decode cX6_soon 42 = .ok (.iconst 5, 1) := by decide +kernel
theorem dX6_soon_43 : decode cX6_soon 43 = .ok (.invokevirtual 55, 3) := by decide +kernel
theorem dX6_soon_46 : decode cX6_soon 46 = .ok (.ireturn, 1) := by decide +kernel
set_option maxRecDepth 20000 in
theorem ggX6_steals_X6_soon : GoodIn wsX6_steals wsX6_soon := goodIn_r _ [6, 1, 7, 8, 9, 5, 10, 15, 16, 17, 18, 19, 20, 21, 22, 23, 24, 25, 26, 27, 28, 29, 30, 31] (by decide +kernel) (by decide +kernel)
set_option maxRecDepth 20000 in
theorem gX6_steals_X6_soon : GoodIn wsX6_steals (wsV RX6 58 RX6 yX6_soon wsX6_soon) := goodIn_app (goodIn_of _ (by decide +kernel)) ggX6_steals_X6_soon
set_option maxRecDepth 20000 in
theorem ggX6_steals_X6_dropsVoice : GoodIn wsX6_steals wsX6_dropsVoice := goodIn_r _ [14, 1, 15, 16, 17, 18, 19, 20, 21, 22, 23, 24, 25, 26, 27, 28, 29, 30, 31] (by decide +kernel) (by decide +kernel)
set_option maxRecDepth 20000 in
theorem gX6_steals_X6_dropsVoice : GoodIn wsX6_steals (wsV RX6 62 RX6 yX6_dropsVoice wsX6_dropsVoice) := goodIn_app (goodIn_of _ (by decide +kernel)) ggX6_steals_X6_dropsVoice
theorem dX6_steals_0 : decode cX6_steals 0 = .ok (.iconst 0, 1) := by decide +kernel
theorem dX6_steals_1 : decode cX6_steals 1 = .ok (.istore_n 1, 1) := by decide +kernel
theorem dX6_steals_2 : decode cX6_steals 2 = .ok (.iconst 1, 1) := by decide +kernel
theorem dX6_steals_3 : decode cX6_steals 3 = .ok (.istore_n 2, 1) := by decide +kernel
theorem dX6_steals_4 : decode cX6_steals 4 = .ok (.iload_n 2, 1) := by decide +kernel
theorem dX6_steals_5 : decode cX6_steals 5 = .ok (.aload_n 0, 1) := by decide +kernel
theorem dX6_steals_6 : decode cX6_steals 6 = .ok (.getfield 7, 3) := by decide +kernel
theorem dX6_steals_9 : decode cX6_steals 9 = .ok (.iconst 1, 1) := by decide +kernel
theorem dX6_steals_10 : decode cX6_steals 10 = .ok (.iaload, 1) := by decide +kernel
theorem dX6_steals_11 : decode cX6_steals 11 = .ok (.if_icmp .ge 28, 3) := by decide +kernel
theorem dX6_steals_14 : decode cX6_steals 14 = .ok (.aload_n 0, 1) := by decide +kernel
theorem dX6_steals_15 : decode cX6_steals 15 = .ok (.iload_n 2, 1) := by decide +kernel
theorem dX6_steals_16 : decode cX6_steals 16 = .ok (.invokevirtual 58, 3) := by decide +kernel
theorem dX6_steals_19 : decode cX6_steals 19 = .ok (.aload_n 0, 1) := by decide +kernel
theorem dX6_steals_20 : decode cX6_steals 20 = .ok (.iload_n 1, 1) := by decide +kernel
theorem dX6_steals_21 : decode cX6_steals 21 = .ok (.invokevirtual 58, 3) := by decide +kernel
theorem dX6_steals_24 : decode cX6_steals 24 = .ok (.if_icmp .le 7, 3) := by decide +kernel
theorem dX6_steals_27 : decode cX6_steals 27 = .ok (.iload_n 2, 1) := by decide +kernel
theorem dX6_steals_28 : decode cX6_steals 28 = .ok (.goto 4, 3) := by decide +kernel
theorem dX6_steals_31 : decode cX6_steals 31 = .ok (.iload_n 1, 1) := by decide +kernel
theorem dX6_steals_32 : decode cX6_steals 32 = .ok (.istore_n 1, 1) := by decide +kernel
theorem dX6_steals_33 : decode cX6_steals 33 = .ok (.iinc 2 1, 3) := by decide +kernel
theorem dX6_steals_36 : decode cX6_steals 36 = .ok (.goto (-32), 3) := by decide +kernel
theorem dX6_steals_39 : decode cX6_steals 39 = .ok (.aload_n 0, 1) := by decide +kernel
theorem dX6_steals_40 : decode cX6_steals 40 = .ok (.iload_n 1, 1) := by decide +kernel
theorem dX6_steals_41 : decode cX6_steals 41 = .ok (.invokevirtual 62, 3) := by decide +kernel
theorem dX6_steals_44 : decode cX6_steals 44 = .ok (.aload_n 0, 1) := by decide +kernel
theorem dX6_steals_45 : decode cX6_steals 45 = .ok (.getfield 7, 3) := by decide +kernel
theorem dX6_steals_48 : decode cX6_steals 48 = .ok (.bipush 7, 2) := by decide +kernel
theorem dX6_steals_50 : decode cX6_steals 50 = .ok (.dup2, 1) := by decide +kernel
theorem dX6_steals_51 : decode cX6_steals 51 = .ok (.iaload, 1) := by decide +kernel
theorem dX6_steals_52 : decode cX6_steals 52 = .ok (.iconst 1, 1) := by decide +kernel
theorem dX6_steals_53 : decode cX6_steals 53 = .ok (.iadd, 1) := by decide +kernel
theorem dX6_steals_54 : decode cX6_steals 54 = .ok (.iastore, 1) := by decide +kernel
theorem dX6_steals_55 : decode cX6_steals 55 = .ok (.return_, 1) := by decide +kernel
set_option maxRecDepth 20000 in
theorem ggX6_chokes_X6_of : GoodIn wsX6_chokes wsX6_of := goodIn_r _ [6, 1, 15, 16, 17, 18, 19, 20, 21, 22, 23, 24, 25, 26, 27, 28, 29, 30, 31] (by decide +kernel) (by decide +kernel)
set_option maxRecDepth 20000 in
theorem gX6_chokes_X6_of : GoodIn wsX6_chokes (wsV RX6 55 RX6 yX6_of wsX6_of) := goodIn_app (goodIn_of _ (by decide +kernel)) ggX6_chokes_X6_of
set_option maxRecDepth 20000 in
theorem ggX6_chokes_X6_ofZone : GoodIn wsX6_chokes wsX6_ofZone := goodIn_r _ [10, 1, 15, 16, 17, 18, 19, 20, 21, 22, 23, 24, 25, 26, 27, 28, 29, 30, 31] (by decide +kernel) (by decide +kernel)
set_option maxRecDepth 20000 in
theorem gX6_chokes_X6_ofZone : GoodIn wsX6_chokes (wsV RX6 44 RX6 yX6_ofZone wsX6_ofZone) := goodIn_app (goodIn_of _ (by decide +kernel)) ggX6_chokes_X6_ofZone
set_option maxRecDepth 20000 in
theorem ggX6_chokes_X6_dropsVoice : GoodIn wsX6_chokes wsX6_dropsVoice := goodIn_r _ [14, 1, 15, 16, 17, 18, 19, 20, 21, 22, 23, 24, 25, 26, 27, 28, 29, 30, 31] (by decide +kernel) (by decide +kernel)
set_option maxRecDepth 20000 in
theorem gX6_chokes_X6_dropsVoice : GoodIn wsX6_chokes (wsV RX6 62 RX6 yX6_dropsVoice wsX6_dropsVoice) := goodIn_app (goodIn_of _ (by decide +kernel)) ggX6_chokes_X6_dropsVoice
theorem dX6_chokes_0 : decode cX6_chokes 0 = .ok (.iconst 0, 1) := by decide +kernel
theorem dX6_chokes_1 : decode cX6_chokes 1 = .ok (.istore_n 2, 1) := by decide +kernel
theorem dX6_chokes_2 : decode cX6_chokes 2 = .ok (.iload_n 2, 1) := by decide +kernel
theorem dX6_chokes_3 : decode cX6_chokes 3 = .ok (.aload_n 0, 1) := by decide +kernel
theorem dX6_chokes_4 : decode cX6_chokes 4 = .ok (.getfield 7, 3) := by decide +kernel
theorem dX6_chokes_7 : decode cX6_chokes 7 = .ok (.iconst 1, 1) := by decide +kernel
theorem dX6_chokes_8 : decode cX6_chokes 8 = .ok (.iaload, 1) := by decide +kernel
theorem dX6_chokes_9 : decode cX6_chokes 9 = .ok (.if_icmp .ge 67, 3) := by decide +kernel
theorem dX6_chokes_12 : decode cX6_chokes 12 = .ok (.iload_n 1, 1) := by decide +kernel
theorem dX6_chokes_13 : decode cX6_chokes 13 = .ok (.ifCond .le 32, 3) := by decide +kernel
theorem dX6_chokes_16 : decode cX6_chokes 16 = .ok (.aload_n 0, 1) := by decide +kernel
theorem dX6_chokes_17 : decode cX6_chokes 17 = .ok (.aload_n 0, 1) := by decide +kernel
theorem dX6_chokes_18 : decode cX6_chokes 18 = .ok (.iload_n 2, 1) := by decide +kernel
theorem dX6_chokes_19 : decode cX6_chokes 19 = .ok (.iconst 0, 1) := by decide +kernel
theorem dX6_chokes_20 : decode cX6_chokes 20 = .ok (.invokevirtual 55, 3) := by decide +kernel
theorem dX6_chokes_23 : decode cX6_chokes 23 = .ok (.iconst 4, 1) := by decide +kernel
theorem dX6_chokes_24 : decode cX6_chokes 24 = .ok (.invokevirtual 44, 3) := by decide +kernel
theorem dX6_chokes_27 : decode cX6_chokes 27 = .ok (.iload_n 1, 1) := by decide +kernel
theorem dX6_chokes_28 : decode cX6_chokes 28 = .ok (.if_icmp .ne 17, 3) := by decide +kernel
theorem dX6_chokes_31 : decode cX6_chokes 31 = .ok (.aload_n 0, 1) := by decide +kernel
theorem dX6_chokes_32 : decode cX6_chokes 32 = .ok (.iload_n 2, 1) := by decide +kernel
theorem dX6_chokes_33 : decode cX6_chokes 33 = .ok (.bipush 6, 2) := by decide +kernel
theorem dX6_chokes_35 : decode cX6_chokes 35 = .ok (.invokevirtual 55, 3) := by decide +kernel
theorem dX6_chokes_38 : decode cX6_chokes 38 = .ok (.ifCond .ne 7, 3) := by decide +kernel
theorem dX6_chokes_41 : decode cX6_chokes 41 = .ok (.iconst 1, 1) := by decide +kernel
theorem dX6_chokes_42 : decode cX6_chokes 42 = .ok (.goto 4, 3) := by decide +kernel
theorem dX6_chokes_45 : decode cX6_chokes 45 = .ok (.iconst 0, 1) := by decide +kernel
theorem dX6_chokes_46 : decode cX6_chokes 46 = .ok (.istore_n 3, 1) := by decide +kernel
theorem dX6_chokes_47 : decode cX6_chokes 47 = .ok (.iload_n 3, 1) := by decide +kernel
theorem dX6_chokes_48 : decode cX6_chokes 48 = .ok (.ifCond .eq 22, 3) := by decide +kernel
theorem dX6_chokes_51 : decode cX6_chokes 51 = .ok (.aload_n 0, 1) := by decide +kernel
theorem dX6_chokes_52 : decode cX6_chokes 52 = .ok (.iload_n 2, 1) := by decide +kernel
theorem dX6_chokes_53 : decode cX6_chokes 53 = .ok (.invokevirtual 62, 3) := by decide +kernel
theorem dX6_chokes_56 : decode cX6_chokes 56 = .ok (.aload_n 0, 1) := by decide +kernel
theorem dX6_chokes_57 : decode cX6_chokes 57 = .ok (.getfield 7, 3) := by decide +kernel
theorem dX6_chokes_60 : decode cX6_chokes 60 = .ok (.bipush 6, 2) := by decide +kernel
theorem dX6_chokes_62 : decode cX6_chokes 62 = .ok (.dup2, 1) := by decide +kernel
theorem dX6_chokes_63 : decode cX6_chokes 63 = .ok (.iaload, 1) := by decide +kernel
theorem dX6_chokes_64 : decode cX6_chokes 64 = .ok (.iconst 1, 1) := by decide +kernel
theorem dX6_chokes_65 : decode cX6_chokes 65 = .ok (.iadd, 1) := by decide +kernel
theorem dX6_chokes_66 : decode cX6_chokes 66 = .ok (.iastore, 1) := by decide +kernel
theorem dX6_chokes_67 : decode cX6_chokes 67 = .ok (.goto 6, 3) := by decide +kernel
theorem dX6_chokes_70 : decode cX6_chokes 70 = .ok (.iinc 2 1, 3) := by decide +kernel
theorem dX6_chokes_73 : decode cX6_chokes 73 = .ok (.goto (-71), 3) := by decide +kernel
theorem dX6_chokes_76 : decode cX6_chokes 76 = .ok (.return_, 1) := by decide +kernel
set_option maxRecDepth 20000 in
theorem ggX6_begins_X6_ofZone : GoodIn wsX6_begins wsX6_ofZone := goodIn_r _ [6, 1, 31, 32, 33, 34, 35, 36, 37, 38, 39, 40, 41, 42, 43, 44, 45, 46, 47] (by decide +kernel) (by decide +kernel)
set_option maxRecDepth 20000 in
theorem gX6_begins_X6_ofZone : GoodIn wsX6_begins (wsV RX6 44 RX6 yX6_ofZone wsX6_ofZone) := goodIn_app (goodIn_of _ (by decide +kernel)) ggX6_begins_X6_ofZone
set_option maxRecDepth 20000 in
theorem ggX6_begins_X6_chokes : GoodIn wsX6_begins wsX6_chokes := goodIn_r _ [10, 1, 11, 12, 13, 5, 14, 2, 3, 4, 6, 15, 16, 17, 18, 31, 32, 33, 34, 35, 36, 37, 38, 39, 40, 41, 42, 43, 44, 45, 46, 47] (by decide +kernel) (by decide +kernel)
set_option maxRecDepth 20000 in
theorem gX6_begins_X6_chokes : GoodIn wsX6_begins (wsV RX6 66 RX6 yX6_chokes wsX6_chokes) := goodIn_app (goodIn_of _ (by decide +kernel)) ggX6_begins_X6_chokes
set_option maxRecDepth 20000 in
theorem ggX6_begins_X6_steals : GoodIn wsX6_begins wsX6_steals := goodIn_r _ [22, 1, 23, 24, 25, 5, 26, 11, 12, 13, 14, 15, 16, 17, 18, 31, 32, 33, 34, 35, 36, 37, 38, 39, 40, 41, 42, 43, 44, 45, 46, 47] (by decide +kernel) (by decide +kernel)
set_option maxRecDepth 20000 in
theorem gX6_begins_X6_steals : GoodIn wsX6_begins (wsV RX6 69 RX6 yX6_steals wsX6_steals) := goodIn_app (goodIn_of _ (by decide +kernel)) ggX6_begins_X6_steals
set_option maxRecDepth 20000 in
theorem ggX6_begins_X6_lays : GoodIn wsX6_begins wsX6_lays := goodIn_r _ [30, 1, 31, 32, 33, 34, 35, 36, 37, 38, 39, 40, 41, 42, 43, 44, 45, 46, 47] (by decide +kernel) (by decide +kernel)
set_option maxRecDepth 20000 in
theorem gX6_begins_X6_lays : GoodIn wsX6_begins (wsV RX6 72 RX6 yX6_lays wsX6_lays) := goodIn_app (goodIn_of _ (by decide +kernel)) ggX6_begins_X6_lays
theorem dX6_begins_0 : decode cX6_begins 0 = .ok (.aload_n 0, 1) := by decide +kernel
theorem dX6_begins_1 : decode cX6_begins 1 = .ok (.aload_n 0, 1) := by decide +kernel
theorem dX6_begins_2 : decode cX6_begins 2 = .ok (.iload_n 1, 1) := by decide +kernel
theorem dX6_begins_3 : decode cX6_begins 3 = .ok (.iconst 4, 1) := by decide +kernel
theorem dX6_begins_4 : decode cX6_begins 4 = .ok (.invokevirtual 44, 3) := by decide +kernel
theorem dX6_begins_7 : decode cX6_begins 7 = .ok (.invokevirtual 66, 3) := by decide +kernel
theorem dX6_begins_10 : decode cX6_begins 10 = .ok (.aload_n 0, 1) := by decide +kernel
theorem dX6_begins_11 : decode cX6_begins 11 = .ok (.getfield 7, 3) := by decide +kernel
theorem dX6_begins_14 : decode cX6_begins 14 = .ok (.iconst 1, 1) := by decide +kernel
theorem dX6_begins_15 : decode cX6_begins 15 = .ok (.iaload, 1) := by decide +kernel
theorem dX6_begins_16 : decode cX6_begins 16 = .ok (.aload_n 0, 1) := by decide +kernel
theorem dX6_begins_17 : decode cX6_begins 17 = .ok (.getfield 7, 3) := by decide +kernel
theorem dX6_begins_20 : decode cX6_begins 20 = .ok (.bipush 9, 2) := by decide +kernel
theorem dX6_begins_22 : decode cX6_begins 22 = .ok (.iaload, 1) := by decide +kernel
theorem dX6_begins_23 : decode cX6_begins 23 = .ok (.if_icmp .lt 7, 3) := by decide +kernel
theorem dX6_begins_26 : decode cX6_begins 26 = .ok (.aload_n 0, 1) := by decide +kernel
theorem dX6_begins_27 : decode cX6_begins 27 = .ok (.invokevirtual 69, 3) := by decide +kernel
theorem dX6_begins_30 : decode cX6_begins 30 = .ok (.aload_n 0, 1) := by decide +kernel
theorem dX6_begins_31 : decode cX6_begins 31 = .ok (.getfield 7, 3) := by decide +kernel
theorem dX6_begins_34 : decode cX6_begins 34 = .ok (.iconst 1, 1) := by decide +kernel
theorem dX6_begins_35 : decode cX6_begins 35 = .ok (.iaload, 1) := by decide +kernel
theorem dX6_begins_36 : decode cX6_begins 36 = .ok (.istore 4, 2) := by decide +kernel
theorem dX6_begins_38 : decode cX6_begins 38 = .ok (.aload_n 0, 1) := by decide +kernel
theorem dX6_begins_39 : decode cX6_begins 39 = .ok (.iload 4, 2) := by decide +kernel
theorem dX6_begins_41 : decode cX6_begins 41 = .ok (.iconst 0, 1) := by decide +kernel
theorem dX6_begins_42 : decode cX6_begins 42 = .ok (.iload_n 1, 1) := by decide +kernel
theorem dX6_begins_43 : decode cX6_begins 43 = .ok (.invokevirtual 72, 3) := by decide +kernel
theorem dX6_begins_46 : decode cX6_begins 46 = .ok (.aload_n 0, 1) := by decide +kernel
theorem dX6_begins_47 : decode cX6_begins 47 = .ok (.iload 4, 2) := by decide +kernel
theorem dX6_begins_49 : decode cX6_begins 49 = .ok (.iconst 1, 1) := by decide +kernel
theorem dX6_begins_50 : decode cX6_begins 50 = .ok (.iload_n 2, 1) := by decide +kernel
theorem dX6_begins_51 : decode cX6_begins 51 = .ok (.invokevirtual 72, 3) := by decide +kernel
theorem dX6_begins_54 : decode cX6_begins 54 = .ok (.aload_n 0, 1) := by decide +kernel
theorem dX6_begins_55 : decode cX6_begins 55 = .ok (.iload 4, 2) := by decide +kernel
theorem dX6_begins_57 : decode cX6_begins 57 = .ok (.iconst 2, 1) := by decide +kernel
theorem dX6_begins_58 : decode cX6_begins 58 = .ok (.iload_n 3, 1) := by decide +kernel
theorem dX6_begins_59 : decode cX6_begins 59 = .ok (.invokevirtual 72, 3) := by decide +kernel
theorem dX6_begins_62 : decode cX6_begins 62 = .ok (.aload_n 0, 1) := by decide +kernel
theorem dX6_begins_63 : decode cX6_begins 63 = .ok (.iload 4, 2) := by decide +kernel
theorem dX6_begins_65 : decode cX6_begins 65 = .ok (.iconst 3, 1) := by decide +kernel
theorem dX6_begins_66 : decode cX6_begins 66 = .ok (.bipush 10, 2) := by decide +kernel
theorem dX6_begins_68 : decode cX6_begins 68 = .ok (.iload_n 3, 1) := by decide +kernel
theorem dX6_begins_69 : decode cX6_begins 69 = .ok (.imul, 1) := by decide +kernel
theorem dX6_begins_70 : decode cX6_begins 70 = .ok (.invokevirtual 72, 3) := by decide +kernel
theorem dX6_begins_73 : decode cX6_begins 73 = .ok (.aload_n 0, 1) := by decide +kernel
theorem dX6_begins_74 : decode cX6_begins 74 = .ok (.iload 4, 2) := by decide +kernel
theorem dX6_begins_76 : decode cX6_begins 76 = .ok (.iconst 4, 1) := by decide +kernel
theorem dX6_begins_77 : decode cX6_begins 77 = .ok (.iconst 0, 1) := by decide +kernel
theorem dX6_begins_78 : decode cX6_begins 78 = .ok (.invokevirtual 72, 3) := by decide +kernel
theorem dX6_begins_81 : decode cX6_begins 81 = .ok (.aload_n 0, 1) := by decide +kernel
theorem dX6_begins_82 : decode cX6_begins 82 = .ok (.iload 4, 2) := by decide +kernel
theorem dX6_begins_84 : decode cX6_begins 84 = .ok (.iconst 5, 1) := by decide +kernel
theorem dX6_begins_85 : decode cX6_begins 85 = .ok (.iconst 0, 1) := by decide +kernel
theorem dX6_begins_86 : decode cX6_begins 86 = .ok (.invokevirtual 72, 3) := by decide +kernel
theorem dX6_begins_89 : decode cX6_begins 89 = .ok (.aload_n 0, 1) := by decide +kernel
theorem dX6_begins_90 : decode cX6_begins 90 = .ok (.iload 4, 2) := by decide +kernel
theorem dX6_begins_92 : decode cX6_begins 92 = .ok (.bipush 6, 2) := by decide +kernel
theorem dX6_begins_94 : decode cX6_begins 94 = .ok (.iconst 1, 1) := by decide +kernel
theorem dX6_begins_95 : decode cX6_begins 95 = .ok (.invokevirtual 72, 3) := by decide +kernel
theorem dX6_begins_98 : decode cX6_begins 98 = .ok (.aload_n 0, 1) := by decide +kernel
theorem dX6_begins_99 : decode cX6_begins 99 = .ok (.getfield 7, 3) := by decide +kernel
theorem dX6_begins_102 : decode cX6_begins 102 = .ok (.iconst 1, 1) := by decide +kernel
theorem dX6_begins_103 : decode cX6_begins 103 = .ok (.dup2, 1) := by decide +kernel
theorem dX6_begins_104 : decode cX6_begins 104 = .ok (.iaload, 1) := by decide +kernel
theorem dX6_begins_105 : decode cX6_begins 105 = .ok (.iconst 1, 1) := by decide +kernel
theorem dX6_begins_106 : decode cX6_begins 106 = .ok (.iadd, 1) := by decide +kernel
theorem dX6_begins_107 : decode cX6_begins 107 = .ok (.iastore, 1) := by decide +kernel
theorem dX6_begins_108 : decode cX6_begins 108 = .ok (.aload_n 0, 1) := by decide +kernel
theorem dX6_begins_109 : decode cX6_begins 109 = .ok (.getfield 7, 3) := by decide +kernel
theorem dX6_begins_112 : decode cX6_begins 112 = .ok (.iconst 4, 1) := by decide +kernel
theorem dX6_begins_113 : decode cX6_begins 113 = .ok (.dup2, 1) := by decide +kernel
theorem dX6_begins_114 : decode cX6_begins 114 = .ok (.iaload, 1) := by decide +kernel
theorem dX6_begins_115 : decode cX6_begins 115 = .ok (.iconst 1, 1) := by decide +kernel
theorem dX6_begins_116 : decode cX6_begins 116 = .ok (.iadd, 1) := by decide +kernel
theorem dX6_begins_117 : decode cX6_begins 117 = .ok (.iastore, 1) := by decide +kernel
theorem dX6_begins_118 : decode cX6_begins 118 = .ok (.return_, 1) := by decide +kernel
set_option maxRecDepth 20000 in
theorem ggX6_goHit_X6_of : GoodIn wsX6_goHit wsX6_of := goodIn_r _ [8, 1, 52, 53, 54, 55, 56, 57, 58, 59, 60, 61, 62, 63, 64, 65, 66, 67, 68] (by decide +kernel) (by decide +kernel)
set_option maxRecDepth 20000 in
theorem gX6_goHit_X6_of : GoodIn wsX6_goHit (wsV RX6 55 RX6 yX6_of wsX6_of) := goodIn_app (goodIn_of _ (by decide +kernel)) ggX6_goHit_X6_of
set_option maxRecDepth 20000 in
theorem ggX6_goHit_X6_lays : GoodIn wsX6_goHit wsX6_lays := goodIn_r _ [12, 1, 52, 53, 54, 55, 56, 57, 58, 59, 60, 61, 62, 63, 64, 65, 66, 67, 68] (by decide +kernel) (by decide +kernel)
set_option maxRecDepth 20000 in
theorem gX6_goHit_X6_lays : GoodIn wsX6_goHit (wsV RX6 72 RX6 yX6_lays wsX6_lays) := goodIn_app (goodIn_of _ (by decide +kernel)) ggX6_goHit_X6_lays
set_option maxRecDepth 20000 in
theorem ggX6_goHit_X6_isSounding : GoodIn wsX6_goHit wsX6_isSounding := goodIn_r _ [16, 1, 17, 18, 19, 7, 20, 21, 22, 23, 24, 25, 26, 27, 28, 29, 30, 31, 52, 53, 54, 55, 56, 57, 58, 59, 60, 61, 62, 63, 64, 65, 66, 67, 68] (by decide +kernel) (by decide +kernel)
set_option maxRecDepth 20000 in
theorem gX6_goHit_X6_isSounding : GoodIn wsX6_goHit (wsV RX6 79 RX6 yX6_isSounding wsX6_isSounding) := goodIn_app (goodIn_of _ (by decide +kernel)) ggX6_goHit_X6_isSounding
set_option maxRecDepth 20000 in
theorem ggX6_goHit_X6_ofRobin : GoodIn wsX6_goHit wsX6_ofRobin := goodIn_r _ [31, 17, 18, 19, 7, 20, 1, 21, 22, 23, 24, 25, 26, 27, 52, 53, 54, 55, 56, 57, 58, 59, 60, 61, 62, 63, 64, 65, 66, 67, 68] (by decide +kernel) (by decide +kernel)
set_option maxRecDepth 20000 in
theorem gX6_goHit_X6_ofRobin : GoodIn wsX6_goHit (wsV RX6 51 RX6 yX6_ofRobin wsX6_ofRobin) := goodIn_app (goodIn_of _ (by decide +kernel)) ggX6_goHit_X6_ofRobin
set_option maxRecDepth 20000 in
theorem ggX6_goHit_X6_begins : GoodIn wsX6_goHit wsX6_begins := goodIn_r _ [35, 1, 17, 18, 19, 7, 20, 36, 37, 38, 39, 4, 5, 6, 8, 40, 41, 42, 43, 44, 45, 46, 47, 48, 49, 50, 51, 9, 10, 11, 12, 52, 53, 54, 55, 56, 57, 58, 59, 60, 61, 62, 63, 64, 65, 66, 67, 68] (by decide +kernel) (by decide +kernel)
set_option maxRecDepth 20000 in
theorem gX6_goHit_X6_begins : GoodIn wsX6_goHit (wsV RX6 82 RX6 yX6_begins wsX6_begins) := goodIn_app (goodIn_of _ (by decide +kernel)) ggX6_goHit_X6_begins
theorem dX6_goHit_0 : decode cX6_goHit 0 = .ok (.iconst 0, 1) := by decide +kernel
theorem dX6_goHit_1 : decode cX6_goHit 1 = .ok (.istore_n 3, 1) := by decide +kernel
theorem dX6_goHit_2 : decode cX6_goHit 2 = .ok (.iload_n 3, 1) := by decide +kernel
theorem dX6_goHit_3 : decode cX6_goHit 3 = .ok (.aload_n 0, 1) := by decide +kernel
theorem dX6_goHit_4 : decode cX6_goHit 4 = .ok (.getfield 7, 3) := by decide +kernel
theorem dX6_goHit_7 : decode cX6_goHit 7 = .ok (.iconst 1, 1) := by decide +kernel
theorem dX6_goHit_8 : decode cX6_goHit 8 = .ok (.iaload, 1) := by decide +kernel
theorem dX6_goHit_9 : decode cX6_goHit 9 = .ok (.if_icmp .ge 56, 3) := by decide +kernel
theorem dX6_goHit_12 : decode cX6_goHit 12 = .ok (.aload_n 0, 1) := by decide +kernel
theorem dX6_goHit_13 : decode cX6_goHit 13 = .ok (.iload_n 3, 1) := by decide +kernel
theorem dX6_goHit_14 : decode cX6_goHit 14 = .ok (.iconst 1, 1) := by decide +kernel
theorem dX6_goHit_15 : decode cX6_goHit 15 = .ok (.invokevirtual 55, 3) := by decide +kernel
theorem dX6_goHit_18 : decode cX6_goHit 18 = .ok (.iload_n 1, 1) := by decide +kernel
theorem dX6_goHit_19 : decode cX6_goHit 19 = .ok (.if_icmp .ne 16, 3) := by decide +kernel
theorem dX6_goHit_22 : decode cX6_goHit 22 = .ok (.aload_n 0, 1) := by decide +kernel
theorem dX6_goHit_23 : decode cX6_goHit 23 = .ok (.iload_n 3, 1) := by decide +kernel
theorem dX6_goHit_24 : decode cX6_goHit 24 = .ok (.iconst 5, 1) := by decide +kernel
theorem dX6_goHit_25 : decode cX6_goHit 25 = .ok (.invokevirtual 55, 3) := by decide +kernel
theorem dX6_goHit_28 : decode cX6_goHit 28 = .ok (.ifCond .ne 7, 3) := by decide +kernel
theorem dX6_goHit_31 : decode cX6_goHit 31 = .ok (.iconst 1, 1) := by decide +kernel
theorem dX6_goHit_32 : decode cX6_goHit 32 = .ok (.goto 4, 3) := by decide +kernel
theorem dX6_goHit_35 : decode cX6_goHit 35 = .ok (.iconst 0, 1) := by decide +kernel
theorem dX6_goHit_36 : decode cX6_goHit 36 = .ok (.istore 4, 2) := by decide +kernel
theorem dX6_goHit_38 : decode cX6_goHit 38 = .ok (.aload_n 0, 1) := by decide +kernel
theorem dX6_goHit_39 : decode cX6_goHit 39 = .ok (.iload_n 3, 1) := by decide +kernel
theorem dX6_goHit_40 : decode cX6_goHit 40 = .ok (.iconst 5, 1) := by decide +kernel
theorem dX6_goHit_41 : decode cX6_goHit 41 = .ok (.iload 4, 2) := by decide +kernel
theorem dX6_goHit_43 : decode cX6_goHit 43 = .ok (.ifCond .eq 7, 3) := by decide +kernel
theorem dX6_goHit_46 : decode cX6_goHit 46 = .ok (.iconst 2, 1) := by decide +kernel
theorem dX6_goHit_47 : decode cX6_goHit 47 = .ok (.goto 9, 3) := by decide +kernel
theorem dX6_goHit_50 : decode cX6_goHit 50 = .ok (.aload_n 0, 1) := by decide +kernel
theorem dX6_goHit_51 : decode cX6_goHit 51 = .ok (.iload_n 3, 1) := by decide +kernel
theorem dX6_goHit_52 : decode cX6_goHit 52 = .ok (.iconst 5, 1) := by decide +kernel
theorem dX6_goHit_53 : decode cX6_goHit 53 = .ok (.invokevirtual 55, 3) := by decide +kernel
theorem dX6_goHit_56 : decode cX6_goHit 56 = .ok (.invokevirtual 72, 3) := by decide +kernel
theorem dX6_goHit_59 : decode cX6_goHit 59 = .ok (.iinc 3 1, 3) := by decide +kernel
theorem dX6_goHit_62 : decode cX6_goHit 62 = .ok (.goto (-60), 3) := by decide +kernel
theorem dX6_goHit_65 : decode cX6_goHit 65 = .ok (.aload_n 0, 1) := by decide +kernel
theorem dX6_goHit_66 : decode cX6_goHit 66 = .ok (.bipush (-4), 2) := by decide +kernel
theorem dX6_goHit_68 : decode cX6_goHit 68 = .ok (.putfield 76, 3) := by decide +kernel
theorem dX6_goHit_71 : decode cX6_goHit 71 = .ok (.aload_n 0, 1) := by decide +kernel
theorem dX6_goHit_72 : decode cX6_goHit 72 = .ok (.getfield 7, 3) := by decide +kernel
theorem dX6_goHit_75 : decode cX6_goHit 75 = .ok (.iconst 0, 1) := by decide +kernel
theorem dX6_goHit_76 : decode cX6_goHit 76 = .ok (.iaload, 1) := by decide +kernel
theorem dX6_goHit_77 : decode cX6_goHit 77 = .ok (.iconst 1, 1) := by decide +kernel
theorem dX6_goHit_78 : decode cX6_goHit 78 = .ok (.isub, 1) := by decide +kernel
theorem dX6_goHit_79 : decode cX6_goHit 79 = .ok (.istore_n 3, 1) := by decide +kernel
theorem dX6_goHit_80 : decode cX6_goHit 80 = .ok (.iload_n 3, 1) := by decide +kernel
theorem dX6_goHit_81 : decode cX6_goHit 81 = .ok (.ifCond .lt 43, 3) := by decide +kernel
theorem dX6_goHit_84 : decode cX6_goHit 84 = .ok (.aload_n 0, 1) := by decide +kernel
theorem dX6_goHit_85 : decode cX6_goHit 85 = .ok (.getfield 25, 3) := by decide +kernel
theorem dX6_goHit_88 : decode cX6_goHit 88 = .ok (.iload_n 3, 1) := by decide +kernel
theorem dX6_goHit_89 : decode cX6_goHit 89 = .ok (.aload_n 0, 1) := by decide +kernel
theorem dX6_goHit_90 : decode cX6_goHit 90 = .ok (.iload_n 3, 1) := by decide +kernel
theorem dX6_goHit_91 : decode cX6_goHit 91 = .ok (.iload_n 1, 1) := by decide +kernel
theorem dX6_goHit_92 : decode cX6_goHit 92 = .ok (.iload_n 2, 1) := by decide +kernel
theorem dX6_goHit_93 : decode cX6_goHit 93 = .ok (.invokevirtual 79, 3) := by decide +kernel
theorem dX6_goHit_96 : decode cX6_goHit 96 = .ok (.bastore, 1) := by decide +kernel
theorem dX6_goHit_97 : decode cX6_goHit 97 = .ok (.aload_n 0, 1) := by decide +kernel
theorem dX6_goHit_98 : decode cX6_goHit 98 = .ok (.aload_n 0, 1) := by decide +kernel
theorem dX6_goHit_99 : decode cX6_goHit 99 = .ok (.getfield 25, 3) := by decide +kernel
theorem dX6_goHit_102 : decode cX6_goHit 102 = .ok (.iload_n 3, 1) := by decide +kernel
theorem dX6_goHit_103 : decode cX6_goHit 103 = .ok (.baload, 1) := by decide +kernel
theorem dX6_goHit_104 : decode cX6_goHit 104 = .ok (.ifCond .eq 7, 3) := by decide +kernel
theorem dX6_goHit_107 : decode cX6_goHit 107 = .ok (.iload_n 3, 1) := by decide +kernel
theorem dX6_goHit_108 : decode cX6_goHit 108 = .ok (.goto 7, 3) := by decide +kernel
theorem dX6_goHit_111 : decode cX6_goHit 111 = .ok (.aload_n 0, 1) := by decide +kernel
theorem dX6_goHit_112 : decode cX6_goHit 112 = .ok (.getfield 76, 3) := by decide +kernel
theorem dX6_goHit_115 : decode cX6_goHit 115 = .ok (.putfield 76, 3) := by decide +kernel
theorem dX6_goHit_118 : decode cX6_goHit 118 = .ok (.iinc 3 (-1), 3) := by decide +kernel
theorem dX6_goHit_121 : decode cX6_goHit 121 = .ok (.goto (-41), 3) := by decide +kernel
theorem dX6_goHit_124 : decode cX6_goHit 124 = .ok (.iconst 1, 1) := by decide +kernel
theorem dX6_goHit_125 : decode cX6_goHit 125 = .ok (.istore_n 3, 1) := by decide +kernel
theorem dX6_goHit_126 : decode cX6_goHit 126 = .ok (.iload_n 3, 1) := by decide +kernel
theorem dX6_goHit_127 : decode cX6_goHit 127 = .ok (.iconst 5, 1) := by decide +kernel
theorem dX6_goHit_128 : decode cX6_goHit 128 = .ok (.if_icmp .ge 44, 3) := by decide +kernel
theorem dX6_goHit_131 : decode cX6_goHit 131 = .ok (.aload_n 0, 1) := by decide +kernel
theorem dX6_goHit_132 : decode cX6_goHit 132 = .ok (.getfield 7, 3) := by decide +kernel
theorem dX6_goHit_135 : decode cX6_goHit 135 = .ok (.bipush 12, 2) := by decide +kernel
theorem dX6_goHit_137 : decode cX6_goHit 137 = .ok (.iload_n 3, 1) := by decide +kernel
theorem dX6_goHit_138 : decode cX6_goHit 138 = .ok (.iadd, 1) := by decide +kernel
theorem dX6_goHit_139 : decode cX6_goHit 139 = .ok (.iconst 1, 1) := by decide +kernel
theorem dX6_goHit_140 : decode cX6_goHit 140 = .ok (.isub, 1) := by decide +kernel
theorem dX6_goHit_141 : decode cX6_goHit 141 = .ok (.dup2, 1) := by decide +kernel
theorem dX6_goHit_142 : decode cX6_goHit 142 = .ok (.iaload, 1) := by decide +kernel
theorem dX6_goHit_143 : decode cX6_goHit 143 = .ok (.aload_n 0, 1) := by decide +kernel
theorem dX6_goHit_144 : decode cX6_goHit 144 = .ok (.iload_n 3, 1) := by decide +kernel
theorem dX6_goHit_145 : decode cX6_goHit 145 = .ok (.aload_n 0, 1) := by decide +kernel
theorem dX6_goHit_146 : decode cX6_goHit 146 = .ok (.getfield 7, 3) := by decide +kernel
theorem dX6_goHit_149 : decode cX6_goHit 149 = .ok (.iconst 0, 1) := by decide +kernel
theorem dX6_goHit_150 : decode cX6_goHit 150 = .ok (.iaload, 1) := by decide +kernel
theorem dX6_goHit_151 : decode cX6_goHit 151 = .ok (.iload_n 1, 1) := by decide +kernel
theorem dX6_goHit_152 : decode cX6_goHit 152 = .ok (.iload_n 2, 1) := by decide +kernel
theorem dX6_goHit_153 : decode cX6_goHit 153 = .ok (.invokevirtual 51, 3) := by decide +kernel
theorem dX6_goHit_156 : decode cX6_goHit 156 = .ok (.ifCond .le 7, 3) := by decide +kernel
theorem dX6_goHit_159 : decode cX6_goHit 159 = .ok (.iconst 1, 1) := by decide +kernel
theorem dX6_goHit_160 : decode cX6_goHit 160 = .ok (.goto 4, 3) := by decide +kernel
theorem dX6_goHit_163 : decode cX6_goHit 163 = .ok (.iconst 0, 1) := by decide +kernel
theorem dX6_goHit_164 : decode cX6_goHit 164 = .ok (.iadd, 1) := by decide +kernel
theorem dX6_goHit_165 : decode cX6_goHit 165 = .ok (.iastore, 1) := by decide +kernel
theorem dX6_goHit_166 : decode cX6_goHit 166 = .ok (.iinc 3 1, 3) := by decide +kernel
theorem dX6_goHit_169 : decode cX6_goHit 169 = .ok (.goto (-43), 3) := by decide +kernel
theorem dX6_goHit_172 : decode cX6_goHit 172 = .ok (.iconst 0, 1) := by decide +kernel
theorem dX6_goHit_173 : decode cX6_goHit 173 = .ok (.istore_n 3, 1) := by decide +kernel
theorem dX6_goHit_174 : decode cX6_goHit 174 = .ok (.iconst 0, 1) := by decide +kernel
theorem dX6_goHit_175 : decode cX6_goHit 175 = .ok (.istore 4, 2) := by decide +kernel
theorem dX6_goHit_177 : decode cX6_goHit 177 = .ok (.iload 4, 2) := by decide +kernel
theorem dX6_goHit_179 : decode cX6_goHit 179 = .ok (.aload_n 0, 1) := by decide +kernel
theorem dX6_goHit_180 : decode cX6_goHit 180 = .ok (.getfield 7, 3) := by decide +kernel
theorem dX6_goHit_183 : decode cX6_goHit 183 = .ok (.iconst 0, 1) := by decide +kernel
theorem dX6_goHit_184 : decode cX6_goHit 184 = .ok (.iaload, 1) := by decide +kernel
theorem dX6_goHit_185 : decode cX6_goHit 185 = .ok (.if_icmp .ge 30, 3) := by decide +kernel
theorem dX6_goHit_188 : decode cX6_goHit 188 = .ok (.aload_n 0, 1) := by decide +kernel
theorem dX6_goHit_189 : decode cX6_goHit 189 = .ok (.getfield 25, 3) := by decide +kernel
theorem dX6_goHit_192 : decode cX6_goHit 192 = .ok (.iload 4, 2) := by decide +kernel
theorem dX6_goHit_194 : decode cX6_goHit 194 = .ok (.baload, 1) := by decide +kernel
theorem dX6_goHit_195 : decode cX6_goHit 195 = .ok (.ifCond .eq 14, 3) := by decide +kernel
theorem dX6_goHit_198 : decode cX6_goHit 198 = .ok (.aload_n 0, 1) := by decide +kernel
theorem dX6_goHit_199 : decode cX6_goHit 199 = .ok (.iload 4, 2) := by decide +kernel
theorem dX6_goHit_201 : decode cX6_goHit 201 = .ok (.iload_n 1, 1) := by decide +kernel
theorem dX6_goHit_202 : decode cX6_goHit 202 = .ok (.iload_n 2, 1) := by decide +kernel
theorem dX6_goHit_203 : decode cX6_goHit 203 = .ok (.invokevirtual 82, 3) := by decide +kernel
theorem dX6_goHit_206 : decode cX6_goHit 206 = .ok (.iinc 3 1, 3) := by decide +kernel
theorem dX6_goHit_209 : decode cX6_goHit 209 = .ok (.iinc 4 1, 3) := by decide +kernel
theorem dX6_goHit_212 : decode cX6_goHit 212 = .ok (.goto (-35), 3) := by decide +kernel
theorem dX6_goHit_215 : decode cX6_goHit 215 = .ok (.iconst 0, 1) := by decide +kernel
theorem dX6_goHit_216 : decode cX6_goHit 216 = .ok (.istore 4, 2) := by decide +kernel
theorem dX6_goHit_218 : decode cX6_goHit 218 = .ok (.iload 4, 2) := by decide +kernel
theorem dX6_goHit_220 : decode cX6_goHit 220 = .ok (.aload_n 0, 1) := by decide +kernel
theorem dX6_goHit_221 : decode cX6_goHit 221 = .ok (.getfield 7, 3) := by decide +kernel
theorem dX6_goHit_224 : decode cX6_goHit 224 = .ok (.iconst 1, 1) := by decide +kernel
theorem dX6_goHit_225 : decode cX6_goHit 225 = .ok (.iaload, 1) := by decide +kernel
theorem dX6_goHit_226 : decode cX6_goHit 226 = .ok (.if_icmp .ge 18, 3) := by decide +kernel
theorem dX6_goHit_229 : decode cX6_goHit 229 = .ok (.aload_n 0, 1) := by decide +kernel
theorem dX6_goHit_230 : decode cX6_goHit 230 = .ok (.iload 4, 2) := by decide +kernel
theorem dX6_goHit_232 : decode cX6_goHit 232 = .ok (.bipush 6, 2) := by decide +kernel
theorem dX6_goHit_234 : decode cX6_goHit 234 = .ok (.iconst 0, 1) := by decide +kernel
theorem dX6_goHit_235 : decode cX6_goHit 235 = .ok (.invokevirtual 72, 3) := by decide +kernel
theorem dX6_goHit_238 : decode cX6_goHit 238 = .ok (.iinc 4 1, 3) := by decide +kernel
theorem dX6_goHit_241 : decode cX6_goHit 241 = .ok (.goto (-23), 3) := by decide +kernel
theorem dX6_goHit_244 : decode cX6_goHit 244 = .ok (.iload_n 3, 1) := by decide +kernel
theorem dX6_goHit_245 : decode cX6_goHit 245 = .ok (.ireturn, 1) := by decide +kernel
set_option maxRecDepth 20000 in
theorem ggX6_goLet_X6_of : GoodIn wsX6_goLet wsX6_of := goodIn_r _ [6, 1, 11, 12, 13, 14, 15, 16, 17, 18, 19, 20, 21, 22, 23, 24, 25, 26, 27] (by decide +kernel) (by decide +kernel)
set_option maxRecDepth 20000 in
theorem gX6_goLet_X6_of : GoodIn wsX6_goLet (wsV RX6 55 RX6 yX6_of wsX6_of) := goodIn_app (goodIn_of _ (by decide +kernel)) ggX6_goLet_X6_of
set_option maxRecDepth 20000 in
theorem ggX6_goLet_X6_lays : GoodIn wsX6_goLet wsX6_lays := goodIn_r _ [10, 1, 11, 12, 13, 14, 15, 16, 17, 18, 19, 20, 21, 22, 23, 24, 25, 26, 27] (by decide +kernel) (by decide +kernel)
set_option maxRecDepth 20000 in
theorem gX6_goLet_X6_lays : GoodIn wsX6_goLet (wsV RX6 72 RX6 yX6_lays wsX6_lays) := goodIn_app (goodIn_of _ (by decide +kernel)) ggX6_goLet_X6_lays
theorem dX6_goLet_0 : decode cX6_goLet 0 = .ok (.iconst 0, 1) := by decide +kernel
theorem dX6_goLet_1 : decode cX6_goLet 1 = .ok (.istore_n 2, 1) := by decide +kernel
theorem dX6_goLet_2 : decode cX6_goLet 2 = .ok (.iconst 0, 1) := by decide +kernel
theorem dX6_goLet_3 : decode cX6_goLet 3 = .ok (.istore_n 3, 1) := by decide +kernel
theorem dX6_goLet_4 : decode cX6_goLet 4 = .ok (.iload_n 3, 1) := by decide +kernel
theorem dX6_goLet_5 : decode cX6_goLet 5 = .ok (.aload_n 0, 1) := by decide +kernel
theorem dX6_goLet_6 : decode cX6_goLet 6 = .ok (.getfield 7, 3) := by decide +kernel
theorem dX6_goLet_9 : decode cX6_goLet 9 = .ok (.iconst 1, 1) := by decide +kernel
theorem dX6_goLet_10 : decode cX6_goLet 10 = .ok (.iaload, 1) := by decide +kernel
theorem dX6_goLet_11 : decode cX6_goLet 11 = .ok (.if_icmp .ge 83, 3) := by decide +kernel
theorem dX6_goLet_14 : decode cX6_goLet 14 = .ok (.aload_n 0, 1) := by decide +kernel
theorem dX6_goLet_15 : decode cX6_goLet 15 = .ok (.iload_n 3, 1) := by decide +kernel
theorem dX6_goLet_16 : decode cX6_goLet 16 = .ok (.iconst 1, 1) := by decide +kernel
theorem dX6_goLet_17 : decode cX6_goLet 17 = .ok (.invokevirtual 55, 3) := by decide +kernel
theorem dX6_goLet_20 : decode cX6_goLet 20 = .ok (.iload_n 1, 1) := by decide +kernel
theorem dX6_goLet_21 : decode cX6_goLet 21 = .ok (.if_icmp .ne 16, 3) := by decide +kernel
theorem dX6_goLet_24 : decode cX6_goLet 24 = .ok (.aload_n 0, 1) := by decide +kernel
theorem dX6_goLet_25 : decode cX6_goLet 25 = .ok (.iload_n 3, 1) := by decide +kernel
theorem dX6_goLet_26 : decode cX6_goLet 26 = .ok (.iconst 5, 1) := by decide +kernel
theorem dX6_goLet_27 : decode cX6_goLet 27 = .ok (.invokevirtual 55, 3) := by decide +kernel
theorem dX6_goLet_30 : decode cX6_goLet 30 = .ok (.ifCond .ne 7, 3) := by decide +kernel
theorem dX6_goLet_33 : decode cX6_goLet 33 = .ok (.iconst 1, 1) := by decide +kernel
theorem dX6_goLet_34 : decode cX6_goLet 34 = .ok (.goto 4, 3) := by decide +kernel
theorem dX6_goLet_37 : decode cX6_goLet 37 = .ok (.iconst 0, 1) := by decide +kernel
theorem dX6_goLet_38 : decode cX6_goLet 38 = .ok (.istore 4, 2) := by decide +kernel
theorem dX6_goLet_40 : decode cX6_goLet 40 = .ok (.aload_n 0, 1) := by decide +kernel
theorem dX6_goLet_41 : decode cX6_goLet 41 = .ok (.iload_n 3, 1) := by decide +kernel
theorem dX6_goLet_42 : decode cX6_goLet 42 = .ok (.iconst 5, 1) := by decide +kernel
theorem dX6_goLet_43 : decode cX6_goLet 43 = .ok (.iload 4, 2) := by decide +kernel
theorem dX6_goLet_45 : decode cX6_goLet 45 = .ok (.ifCond .ne 12, 3) := by decide +kernel
theorem dX6_goLet_48 : decode cX6_goLet 48 = .ok (.aload_n 0, 1) := by decide +kernel
theorem dX6_goLet_49 : decode cX6_goLet 49 = .ok (.iload_n 3, 1) := by decide +kernel
theorem dX6_goLet_50 : decode cX6_goLet 50 = .ok (.iconst 5, 1) := by decide +kernel
theorem dX6_goLet_51 : decode cX6_goLet 51 = .ok (.invokevirtual 55, 3) := by decide +kernel
theorem dX6_goLet_54 : decode cX6_goLet 54 = .ok (.goto 18, 3) := by decide +kernel
theorem dX6_goLet_57 : decode cX6_goLet 57 = .ok (.aload_n 0, 1) := by decide +kernel
theorem dX6_goLet_58 : decode cX6_goLet 58 = .ok (.getfield 7, 3) := by decide +kernel
theorem dX6_goLet_61 : decode cX6_goLet 61 = .ok (.iconst 2, 1) := by decide +kernel
theorem dX6_goLet_62 : decode cX6_goLet 62 = .ok (.iaload, 1) := by decide +kernel
theorem dX6_goLet_63 : decode cX6_goLet 63 = .ok (.iconst 1, 1) := by decide +kernel
theorem dX6_goLet_64 : decode cX6_goLet 64 = .ok (.if_icmp .ne 7, 3) := by decide +kernel
theorem dX6_goLet_67 : decode cX6_goLet 67 = .ok (.iconst 1, 1) := by decide +kernel
theorem dX6_goLet_68 : decode cX6_goLet 68 = .ok (.goto 4, 3) := by decide +kernel
theorem dX6_goLet_71 : decode cX6_goLet 71 = .ok (.iconst 2, 1) := by decide +kernel
theorem dX6_goLet_72 : decode cX6_goLet 72 = .ok (.invokevirtual 72, 3) := by decide +kernel
theorem dX6_goLet_75 : decode cX6_goLet 75 = .ok (.iload_n 2, 1) := by decide +kernel
theorem dX6_goLet_76 : decode cX6_goLet 76 = .ok (.iload 4, 2) := by decide +kernel
theorem dX6_goLet_78 : decode cX6_goLet 78 = .ok (.ifCond .eq 7, 3) := by decide +kernel
theorem dX6_goLet_81 : decode cX6_goLet 81 = .ok (.iconst 1, 1) := by decide +kernel
theorem dX6_goLet_82 : decode cX6_goLet 82 = .ok (.goto 4, 3) := by decide +kernel
theorem dX6_goLet_85 : decode cX6_goLet 85 = .ok (.iconst 0, 1) := by decide +kernel
theorem dX6_goLet_86 : decode cX6_goLet 86 = .ok (.iadd, 1) := by decide +kernel
theorem dX6_goLet_87 : decode cX6_goLet 87 = .ok (.istore_n 2, 1) := by decide +kernel
theorem dX6_goLet_88 : decode cX6_goLet 88 = .ok (.iinc 3 1, 3) := by decide +kernel
theorem dX6_goLet_91 : decode cX6_goLet 91 = .ok (.goto (-87), 3) := by decide +kernel
theorem dX6_goLet_94 : decode cX6_goLet 94 = .ok (.iload_n 2, 1) := by decide +kernel
theorem dX6_goLet_95 : decode cX6_goLet 95 = .ok (.ireturn, 1) := by decide +kernel
set_option maxRecDepth 20000 in
theorem ggX6_goPedal_X6_of : GoodIn wsX6_goPedal wsX6_of := goodIn_r _ [6, 1, 11, 12, 13, 14, 15, 16, 17, 18, 19, 20, 21, 22, 23, 24, 25, 26, 27] (by decide +kernel) (by decide +kernel)
set_option maxRecDepth 20000 in
theorem gX6_goPedal_X6_of : GoodIn wsX6_goPedal (wsV RX6 55 RX6 yX6_of wsX6_of) := goodIn_app (goodIn_of _ (by decide +kernel)) ggX6_goPedal_X6_of
set_option maxRecDepth 20000 in
theorem ggX6_goPedal_X6_lays : GoodIn wsX6_goPedal wsX6_lays := goodIn_r _ [10, 1, 11, 12, 13, 14, 15, 16, 17, 18, 19, 20, 21, 22, 23, 24, 25, 26, 27] (by decide +kernel) (by decide +kernel)
set_option maxRecDepth 20000 in
theorem gX6_goPedal_X6_lays : GoodIn wsX6_goPedal (wsV RX6 72 RX6 yX6_lays wsX6_lays) := goodIn_app (goodIn_of _ (by decide +kernel)) ggX6_goPedal_X6_lays
theorem dX6_goPedal_0 : decode cX6_goPedal 0 = .ok (.iconst 0, 1) := by decide +kernel
theorem dX6_goPedal_1 : decode cX6_goPedal 1 = .ok (.istore_n 1, 1) := by decide +kernel
theorem dX6_goPedal_2 : decode cX6_goPedal 2 = .ok (.iconst 0, 1) := by decide +kernel
theorem dX6_goPedal_3 : decode cX6_goPedal 3 = .ok (.istore_n 2, 1) := by decide +kernel
theorem dX6_goPedal_4 : decode cX6_goPedal 4 = .ok (.iload_n 2, 1) := by decide +kernel
theorem dX6_goPedal_5 : decode cX6_goPedal 5 = .ok (.aload_n 0, 1) := by decide +kernel
theorem dX6_goPedal_6 : decode cX6_goPedal 6 = .ok (.getfield 7, 3) := by decide +kernel
theorem dX6_goPedal_9 : decode cX6_goPedal 9 = .ok (.iconst 1, 1) := by decide +kernel
theorem dX6_goPedal_10 : decode cX6_goPedal 10 = .ok (.iaload, 1) := by decide +kernel
theorem dX6_goPedal_11 : decode cX6_goPedal 11 = .ok (.if_icmp .ge 63, 3) := by decide +kernel
theorem dX6_goPedal_14 : decode cX6_goPedal 14 = .ok (.aload_n 0, 1) := by decide +kernel
theorem dX6_goPedal_15 : decode cX6_goPedal 15 = .ok (.getfield 7, 3) := by decide +kernel
theorem dX6_goPedal_18 : decode cX6_goPedal 18 = .ok (.iconst 2, 1) := by decide +kernel
theorem dX6_goPedal_19 : decode cX6_goPedal 19 = .ok (.iaload, 1) := by decide +kernel
theorem dX6_goPedal_20 : decode cX6_goPedal 20 = .ok (.iconst 1, 1) := by decide +kernel
theorem dX6_goPedal_21 : decode cX6_goPedal 21 = .ok (.if_icmp .ne 53, 3) := by decide +kernel
theorem dX6_goPedal_24 : decode cX6_goPedal 24 = .ok (.iload_n 1, 1) := by decide +kernel
theorem dX6_goPedal_25 : decode cX6_goPedal 25 = .ok (.aload_n 0, 1) := by decide +kernel
theorem dX6_goPedal_26 : decode cX6_goPedal 26 = .ok (.iload_n 2, 1) := by decide +kernel
theorem dX6_goPedal_27 : decode cX6_goPedal 27 = .ok (.iconst 5, 1) := by decide +kernel
theorem dX6_goPedal_28 : decode cX6_goPedal 28 = .ok (.invokevirtual 55, 3) := by decide +kernel
theorem dX6_goPedal_31 : decode cX6_goPedal 31 = .ok (.iconst 1, 1) := by decide +kernel
theorem dX6_goPedal_32 : decode cX6_goPedal 32 = .ok (.if_icmp .ne 7, 3) := by decide +kernel
theorem dX6_goPedal_35 : decode cX6_goPedal 35 = .ok (.iconst 1, 1) := by decide +kernel
theorem dX6_goPedal_36 : decode cX6_goPedal 36 = .ok (.goto 4, 3) := by decide +kernel
theorem dX6_goPedal_39 : decode cX6_goPedal 39 = .ok (.iconst 0, 1) := by decide +kernel
theorem dX6_goPedal_40 : decode cX6_goPedal 40 = .ok (.iadd, 1) := by decide +kernel
theorem dX6_goPedal_41 : decode cX6_goPedal 41 = .ok (.istore_n 1, 1) := by decide +kernel
theorem dX6_goPedal_42 : decode cX6_goPedal 42 = .ok (.aload_n 0, 1) := by decide +kernel
theorem dX6_goPedal_43 : decode cX6_goPedal 43 = .ok (.iload_n 2, 1) := by decide +kernel
theorem dX6_goPedal_44 : decode cX6_goPedal 44 = .ok (.iconst 5, 1) := by decide +kernel
theorem dX6_goPedal_45 : decode cX6_goPedal 45 = .ok (.aload_n 0, 1) := by decide +kernel
theorem dX6_goPedal_46 : decode cX6_goPedal 46 = .ok (.iload_n 2, 1) := by decide +kernel
theorem dX6_goPedal_47 : decode cX6_goPedal 47 = .ok (.iconst 5, 1) := by decide +kernel
theorem dX6_goPedal_48 : decode cX6_goPedal 48 = .ok (.invokevirtual 55, 3) := by decide +kernel
theorem dX6_goPedal_51 : decode cX6_goPedal 51 = .ok (.iconst 1, 1) := by decide +kernel
theorem dX6_goPedal_52 : decode cX6_goPedal 52 = .ok (.if_icmp .ne 7, 3) := by decide +kernel
theorem dX6_goPedal_55 : decode cX6_goPedal 55 = .ok (.iconst 2, 1) := by decide +kernel
theorem dX6_goPedal_56 : decode cX6_goPedal 56 = .ok (.goto 9, 3) := by decide +kernel
theorem dX6_goPedal_59 : decode cX6_goPedal 59 = .ok (.aload_n 0, 1) := by decide +kernel
theorem dX6_goPedal_60 : decode cX6_goPedal 60 = .ok (.iload_n 2, 1) := by decide +kernel
theorem dX6_goPedal_61 : decode cX6_goPedal 61 = .ok (.iconst 5, 1) := by decide +kernel
theorem dX6_goPedal_62 : decode cX6_goPedal 62 = .ok (.invokevirtual 55, 3) := by decide +kernel
theorem dX6_goPedal_65 : decode cX6_goPedal 65 = .ok (.invokevirtual 72, 3) := by decide +kernel
theorem dX6_goPedal_68 : decode cX6_goPedal 68 = .ok (.iinc 2 1, 3) := by decide +kernel
theorem dX6_goPedal_71 : decode cX6_goPedal 71 = .ok (.goto (-67), 3) := by decide +kernel
theorem dX6_goPedal_74 : decode cX6_goPedal 74 = .ok (.aload_n 0, 1) := by decide +kernel
theorem dX6_goPedal_75 : decode cX6_goPedal 75 = .ok (.getfield 7, 3) := by decide +kernel
theorem dX6_goPedal_78 : decode cX6_goPedal 78 = .ok (.iconst 2, 1) := by decide +kernel
theorem dX6_goPedal_79 : decode cX6_goPedal 79 = .ok (.iconst 1, 1) := by decide +kernel
theorem dX6_goPedal_80 : decode cX6_goPedal 80 = .ok (.aload_n 0, 1) := by decide +kernel
theorem dX6_goPedal_81 : decode cX6_goPedal 81 = .ok (.getfield 7, 3) := by decide +kernel
theorem dX6_goPedal_84 : decode cX6_goPedal 84 = .ok (.iconst 2, 1) := by decide +kernel
theorem dX6_goPedal_85 : decode cX6_goPedal 85 = .ok (.iaload, 1) := by decide +kernel
theorem dX6_goPedal_86 : decode cX6_goPedal 86 = .ok (.isub, 1) := by decide +kernel
theorem dX6_goPedal_87 : decode cX6_goPedal 87 = .ok (.iastore, 1) := by decide +kernel
theorem dX6_goPedal_88 : decode cX6_goPedal 88 = .ok (.iload_n 1, 1) := by decide +kernel
theorem dX6_goPedal_89 : decode cX6_goPedal 89 = .ok (.ireturn, 1) := by decide +kernel
set_option maxRecDepth 20000 in
theorem ggX6_tick_X6_of : GoodIn wsX6_tick wsX6_of := goodIn_r _ [6, 1, 19, 20, 21, 22, 23, 24, 25, 26, 27, 28, 29, 30, 31, 32, 33, 34, 35] (by decide +kernel) (by decide +kernel)
set_option maxRecDepth 20000 in
theorem gX6_tick_X6_of : GoodIn wsX6_tick (wsV RX6 55 RX6 yX6_of wsX6_of) := goodIn_app (goodIn_of _ (by decide +kernel)) ggX6_tick_X6_of
set_option maxRecDepth 20000 in
theorem ggX6_tick_X6_lays : GoodIn wsX6_tick wsX6_lays := goodIn_r _ [10, 1, 19, 20, 21, 22, 23, 24, 25, 26, 27, 28, 29, 30, 31, 32, 33, 34, 35] (by decide +kernel) (by decide +kernel)
set_option maxRecDepth 20000 in
theorem gX6_tick_X6_lays : GoodIn wsX6_tick (wsV RX6 72 RX6 yX6_lays wsX6_lays) := goodIn_app (goodIn_of _ (by decide +kernel)) ggX6_tick_X6_lays
set_option maxRecDepth 20000 in
theorem ggX6_tick_X6_ofZone : GoodIn wsX6_tick wsX6_ofZone := goodIn_r _ [14, 1, 19, 20, 21, 22, 23, 24, 25, 26, 27, 28, 29, 30, 31, 32, 33, 34, 35] (by decide +kernel) (by decide +kernel)
set_option maxRecDepth 20000 in
theorem gX6_tick_X6_ofZone : GoodIn wsX6_tick (wsV RX6 44 RX6 yX6_ofZone wsX6_ofZone) := goodIn_app (goodIn_of _ (by decide +kernel)) ggX6_tick_X6_ofZone
set_option maxRecDepth 20000 in
theorem ggX6_tick_X6_dropsVoice : GoodIn wsX6_tick wsX6_dropsVoice := goodIn_r _ [18, 1, 19, 20, 21, 22, 23, 24, 25, 26, 27, 28, 29, 30, 31, 32, 33, 34, 35] (by decide +kernel) (by decide +kernel)
set_option maxRecDepth 20000 in
theorem gX6_tick_X6_dropsVoice : GoodIn wsX6_tick (wsV RX6 62 RX6 yX6_dropsVoice wsX6_dropsVoice) := goodIn_app (goodIn_of _ (by decide +kernel)) ggX6_tick_X6_dropsVoice
theorem dX6_tick_0 : decode cX6_tick 0 = .ok (.aload_n 0, 1) := by decide +kernel
theorem dX6_tick_1 : decode cX6_tick 1 = .ok (.getfield 7, 3) := by decide +kernel
theorem dX6_tick_4 : decode cX6_tick 4 = .ok (.iconst 3, 1) := by decide +kernel
theorem dX6_tick_5 : decode cX6_tick 5 = .ok (.dup2, 1) := by decide +kernel
theorem dX6_tick_6 : decode cX6_tick 6 = .ok (.iaload, 1) := by decide +kernel
theorem dX6_tick_7 : decode cX6_tick 7 = .ok (.iconst 1, 1) := by decide +kernel
theorem dX6_tick_8 : decode cX6_tick 8 = .ok (.iadd, 1) := by decide +kernel
theorem dX6_tick_9 : decode cX6_tick 9 = .ok (.iastore, 1) := by decide +kernel
theorem dX6_tick_10 : decode cX6_tick 10 = .ok (.iconst 0, 1) := by decide +kernel
theorem dX6_tick_11 : decode cX6_tick 11 = .ok (.istore_n 1, 1) := by decide +kernel
theorem dX6_tick_12 : decode cX6_tick 12 = .ok (.iconst 0, 1) := by decide +kernel
theorem dX6_tick_13 : decode cX6_tick 13 = .ok (.istore_n 2, 1) := by decide +kernel
theorem dX6_tick_14 : decode cX6_tick 14 = .ok (.iload_n 2, 1) := by decide +kernel
theorem dX6_tick_15 : decode cX6_tick 15 = .ok (.aload_n 0, 1) := by decide +kernel
theorem dX6_tick_16 : decode cX6_tick 16 = .ok (.getfield 7, 3) := by decide +kernel
theorem dX6_tick_19 : decode cX6_tick 19 = .ok (.iconst 1, 1) := by decide +kernel
theorem dX6_tick_20 : decode cX6_tick 20 = .ok (.iaload, 1) := by decide +kernel
theorem dX6_tick_21 : decode cX6_tick 21 = .ok (.if_icmp .ge 98, 3) := by decide +kernel
theorem dX6_tick_24 : decode cX6_tick 24 = .ok (.aload_n 0, 1) := by decide +kernel
theorem dX6_tick_25 : decode cX6_tick 25 = .ok (.iload_n 2, 1) := by decide +kernel
theorem dX6_tick_26 : decode cX6_tick 26 = .ok (.iconst 4, 1) := by decide +kernel
theorem dX6_tick_27 : decode cX6_tick 27 = .ok (.aload_n 0, 1) := by decide +kernel
theorem dX6_tick_28 : decode cX6_tick 28 = .ok (.iload_n 2, 1) := by decide +kernel
theorem dX6_tick_29 : decode cX6_tick 29 = .ok (.iconst 4, 1) := by decide +kernel
theorem dX6_tick_30 : decode cX6_tick 30 = .ok (.invokevirtual 55, 3) := by decide +kernel
theorem dX6_tick_33 : decode cX6_tick 33 = .ok (.iconst 1, 1) := by decide +kernel
theorem dX6_tick_34 : decode cX6_tick 34 = .ok (.iadd, 1) := by decide +kernel
theorem dX6_tick_35 : decode cX6_tick 35 = .ok (.invokevirtual 72, 3) := by decide +kernel
theorem dX6_tick_38 : decode cX6_tick 38 = .ok (.aload_n 0, 1) := by decide +kernel
theorem dX6_tick_39 : decode cX6_tick 39 = .ok (.iload_n 2, 1) := by decide +kernel
theorem dX6_tick_40 : decode cX6_tick 40 = .ok (.iconst 3, 1) := by decide +kernel
theorem dX6_tick_41 : decode cX6_tick 41 = .ok (.aload_n 0, 1) := by decide +kernel
theorem dX6_tick_42 : decode cX6_tick 42 = .ok (.iload_n 2, 1) := by decide +kernel
theorem dX6_tick_43 : decode cX6_tick 43 = .ok (.iconst 3, 1) := by decide +kernel
theorem dX6_tick_44 : decode cX6_tick 44 = .ok (.invokevirtual 55, 3) := by decide +kernel
theorem dX6_tick_47 : decode cX6_tick 47 = .ok (.aload_n 0, 1) := by decide +kernel
theorem dX6_tick_48 : decode cX6_tick 48 = .ok (.iload_n 2, 1) := by decide +kernel
theorem dX6_tick_49 : decode cX6_tick 49 = .ok (.iconst 5, 1) := by decide +kernel
theorem dX6_tick_50 : decode cX6_tick 50 = .ok (.invokevirtual 55, 3) := by decide +kernel
theorem dX6_tick_53 : decode cX6_tick 53 = .ok (.iconst 2, 1) := by decide +kernel
theorem dX6_tick_54 : decode cX6_tick 54 = .ok (.if_icmp .ne 13, 3) := by decide +kernel
theorem dX6_tick_57 : decode cX6_tick 57 = .ok (.aload_n 0, 1) := by decide +kernel
theorem dX6_tick_58 : decode cX6_tick 58 = .ok (.getfield 7, 3) := by decide +kernel
theorem dX6_tick_61 : decode cX6_tick 61 = .ok (.bipush 11, 2) := by decide +kernel
theorem dX6_tick_63 : decode cX6_tick 63 = .ok (.iaload, 1) := by decide +kernel
theorem dX6_tick_64 : decode cX6_tick 64 = .ok (.goto 4, 3) := by decide +kernel
theorem dX6_tick_67 : decode cX6_tick 67 = .ok (.iconst 1, 1) := by decide +kernel
theorem dX6_tick_68 : decode cX6_tick 68 = .ok (.isub, 1) := by decide +kernel
theorem dX6_tick_69 : decode cX6_tick 69 = .ok (.invokevirtual 72, 3) := by decide +kernel
theorem dX6_tick_72 : decode cX6_tick 72 = .ok (.aload_n 0, 1) := by decide +kernel
theorem dX6_tick_73 : decode cX6_tick 73 = .ok (.iload_n 2, 1) := by decide +kernel
theorem dX6_tick_74 : decode cX6_tick 74 = .ok (.iconst 3, 1) := by decide +kernel
theorem dX6_tick_75 : decode cX6_tick 75 = .ok (.invokevirtual 55, 3) := by decide +kernel
theorem dX6_tick_78 : decode cX6_tick 78 = .ok (.ifCond .le 24, 3) := by decide +kernel
theorem dX6_tick_81 : decode cX6_tick 81 = .ok (.aload_n 0, 1) := by decide +kernel
theorem dX6_tick_82 : decode cX6_tick 82 = .ok (.iload_n 2, 1) := by decide +kernel
theorem dX6_tick_83 : decode cX6_tick 83 = .ok (.iconst 4, 1) := by decide +kernel
theorem dX6_tick_84 : decode cX6_tick 84 = .ok (.invokevirtual 55, 3) := by decide +kernel
theorem dX6_tick_87 : decode cX6_tick 87 = .ok (.aload_n 0, 1) := by decide +kernel
theorem dX6_tick_88 : decode cX6_tick 88 = .ok (.aload_n 0, 1) := by decide +kernel
theorem dX6_tick_89 : decode cX6_tick 89 = .ok (.iload_n 2, 1) := by decide +kernel
theorem dX6_tick_90 : decode cX6_tick 90 = .ok (.iconst 0, 1) := by decide +kernel
theorem dX6_tick_91 : decode cX6_tick 91 = .ok (.invokevirtual 55, 3) := by decide +kernel
theorem dX6_tick_94 : decode cX6_tick 94 = .ok (.bipush 6, 2) := by decide +kernel
theorem dX6_tick_96 : decode cX6_tick 96 = .ok (.invokevirtual 44, 3) := by decide +kernel
theorem dX6_tick_99 : decode cX6_tick 99 = .ok (.if_icmp .lt 14, 3) := by decide +kernel
theorem dX6_tick_102 : decode cX6_tick 102 = .ok (.aload_n 0, 1) := by decide +kernel
theorem dX6_tick_103 : decode cX6_tick 103 = .ok (.iload_n 2, 1) := by decide +kernel
theorem dX6_tick_104 : decode cX6_tick 104 = .ok (.invokevirtual 62, 3) := by decide +kernel
theorem dX6_tick_107 : decode cX6_tick 107 = .ok (.iinc 1 1, 3) := by decide +kernel
theorem dX6_tick_110 : decode cX6_tick 110 = .ok (.goto (-96), 3) := by decide +kernel
theorem dX6_tick_113 : decode cX6_tick 113 = .ok (.iinc 2 1, 3) := by decide +kernel
theorem dX6_tick_116 : decode cX6_tick 116 = .ok (.goto (-102), 3) := by decide +kernel
theorem dX6_tick_119 : decode cX6_tick 119 = .ok (.aload_n 0, 1) := by decide +kernel
theorem dX6_tick_120 : decode cX6_tick 120 = .ok (.getfield 7, 3) := by decide +kernel
theorem dX6_tick_123 : decode cX6_tick 123 = .ok (.iconst 5, 1) := by decide +kernel
theorem dX6_tick_124 : decode cX6_tick 124 = .ok (.dup2, 1) := by decide +kernel
theorem dX6_tick_125 : decode cX6_tick 125 = .ok (.iaload, 1) := by decide +kernel
theorem dX6_tick_126 : decode cX6_tick 126 = .ok (.iload_n 1, 1) := by decide +kernel
theorem dX6_tick_127 : decode cX6_tick 127 = .ok (.iadd, 1) := by decide +kernel
theorem dX6_tick_128 : decode cX6_tick 128 = .ok (.iastore, 1) := by decide +kernel
theorem dX6_tick_129 : decode cX6_tick 129 = .ok (.iload_n 1, 1) := by decide +kernel
theorem dX6_tick_130 : decode cX6_tick 130 = .ok (.ireturn, 1) := by decide +kernel
set_option maxRecDepth 20000 in
theorem ggX6_goPass_X6_tick : GoodIn wsX6_goPass wsX6_tick := goodIn_r _ [5, 6, 7, 8, 9, 4, 10, 11, 12, 13, 14, 15, 16, 17, 18, 19, 20, 21, 22, 23, 24, 25, 26, 27, 28, 29, 30, 31, 32, 33, 34, 35, 36, 37, 38, 39] (by decide +kernel) (by decide +kernel)
set_option maxRecDepth 20000 in
theorem gX6_goPass_X6_tick : GoodIn wsX6_goPass (wsV RX6 85 RX6 yX6_tick wsX6_tick) := goodIn_app (goodIn_of _ (by decide +kernel)) ggX6_goPass_X6_tick
theorem dX6_goPass_0 : decode cX6_goPass 0 = .ok (.iconst 0, 1) := by decide +kernel
theorem dX6_goPass_1 : decode cX6_goPass 1 = .ok (.istore_n 2, 1) := by decide +kernel
theorem dX6_goPass_2 : decode cX6_goPass 2 = .ok (.iconst 0, 1) := by decide +kernel
theorem dX6_goPass_3 : decode cX6_goPass 3 = .ok (.istore_n 3, 1) := by decide +kernel
theorem dX6_goPass_4 : decode cX6_goPass 4 = .ok (.iload_n 3, 1) := by decide +kernel
theorem dX6_goPass_5 : decode cX6_goPass 5 = .ok (.iload_n 1, 1) := by decide +kernel
theorem dX6_goPass_6 : decode cX6_goPass 6 = .ok (.if_icmp .ge 16, 3) := by decide +kernel
theorem dX6_goPass_9 : decode cX6_goPass 9 = .ok (.iload_n 2, 1) := by decide +kernel
theorem dX6_goPass_10 : decode cX6_goPass 10 = .ok (.aload_n 0, 1) := by decide +kernel
theorem dX6_goPass_11 : decode cX6_goPass 11 = .ok (.invokevirtual 85, 3) := by decide +kernel
theorem dX6_goPass_14 : decode cX6_goPass 14 = .ok (.iadd, 1) := by decide +kernel
theorem dX6_goPass_15 : decode cX6_goPass 15 = .ok (.istore_n 2, 1) := by decide +kernel
theorem dX6_goPass_16 : decode cX6_goPass 16 = .ok (.iinc 3 1, 3) := by decide +kernel
theorem dX6_goPass_19 : decode cX6_goPass 19 = .ok (.goto (-15), 3) := by decide +kernel
theorem dX6_goPass_22 : decode cX6_goPass 22 = .ok (.iload_n 2, 1) := by decide +kernel
theorem dX6_goPass_23 : decode cX6_goPass 23 = .ok (.ireturn, 1) := by decide +kernel
set_option maxRecDepth 20000 in
theorem ggX6_addsZone_X6_laysZone : GoodIn wsX6_addsZone wsX6_laysZone := goodIn_r _ [6, 1, 7, 8, 9, 10, 11, 12, 13, 14, 15, 16, 17, 18, 19, 20, 21, 22, 23] (by decide +kernel) (by decide +kernel)
set_option maxRecDepth 20000 in
theorem gX6_addsZone_X6_laysZone : GoodIn wsX6_addsZone (wsV RX6 89 RX6 yX6_laysZone wsX6_laysZone) := goodIn_app (goodIn_of _ (by decide +kernel)) ggX6_addsZone_X6_laysZone
end
section
theorem dX6_addsZone_0 : decode cX6_addsZone 0 = .ok (.aload_n 0, 1) := by decide +kernel
theorem dX6_addsZone_1 : decode cX6_addsZone 1 = .ok (.getfield 7, 3) := by decide +kernel
theorem dX6_addsZone_4 : decode cX6_addsZone 4 = .ok (.iconst 0, 1) := by decide +kernel
theorem dX6_addsZone_5 : decode cX6_addsZone 5 = .ok (.iaload, 1) := by decide +kernel
theorem dX6_addsZone_6 : decode cX6_addsZone 6 = .ok (.istore 5, 2) := by decide +kernel
theorem dX6_addsZone_8 : decode cX6_addsZone 8 = .ok (.aload_n 0, 1) := by decide +kernel
theorem dX6_addsZone_9 : decode cX6_addsZone 9 = .ok (.iload 5, 2) := by decide +kernel
theorem dX6_addsZone_11 : decode cX6_addsZone 11 = .ok (.iconst 0, 1) := by decide +kernel
theorem dX6_addsZone_12 : decode cX6_addsZone 12 = .ok (.iload_n 1, 1) := by decide +kernel
theorem dX6_addsZone_13 : decode cX6_addsZone 13 = .ok (.invokevirtual 89, 3) := by decide +kernel
theorem dX6_addsZone_16 : decode cX6_addsZone 16 = .ok (.aload_n 0, 1) := by decide +kernel
theorem dX6_addsZone_17 : decode cX6_addsZone 17 = .ok (.iload 5, 2) := by decide +kernel
theorem dX6_addsZone_19 : decode cX6_addsZone 19 = .ok (.iconst 1, 1) := by decide +kernel
theorem dX6_addsZone_20 : decode cX6_addsZone 20 = .ok (.iload_n 2, 1) := by decide +kernel
theorem dX6_addsZone_21 : decode cX6_addsZone 21 = .ok (.invokevirtual 89, 3) := by decide +kernel
theorem dX6_addsZone_24 : decode cX6_addsZone 24 = .ok (.aload_n 0, 1) := by decide +kernel
theorem dX6_addsZone_25 : decode cX6_addsZone 25 = .ok (.iload 5, 2) := by decide +kernel
theorem dX6_addsZone_27 : decode cX6_addsZone 27 = .ok (.iconst 2, 1) := by decide +kernel
theorem dX6_addsZone_28 : decode cX6_addsZone 28 = .ok (.iload_n 3, 1) := by decide +kernel
theorem dX6_addsZone_29 : decode cX6_addsZone 29 = .ok (.invokevirtual 89, 3) := by decide +kernel
theorem dX6_addsZone_32 : decode cX6_addsZone 32 = .ok (.aload_n 0, 1) := by decide +kernel
theorem dX6_addsZone_33 : decode cX6_addsZone 33 = .ok (.iload 5, 2) := by decide +kernel
theorem dX6_addsZone_35 : decode cX6_addsZone 35 = .ok (.iconst 3, 1) := by decide +kernel
theorem dX6_addsZone_36 : decode cX6_addsZone 36 = .ok (.iload 4, 2) := by decide +kernel
theorem dX6_addsZone_38 : decode cX6_addsZone 38 = .ok (.invokevirtual 89, 3) := by decide +kernel
theorem dX6_addsZone_41 : decode cX6_addsZone 41 = .ok (.aload_n 0, 1) := by decide +kernel
theorem dX6_addsZone_42 : decode cX6_addsZone 42 = .ok (.iload 5, 2) := by decide +kernel
theorem dX6_addsZone_44 : decode cX6_addsZone 44 = .ok (.iconst 4, 1) := by decide +kernel
theorem dX6_addsZone_45 : decode cX6_addsZone 45 = .ok (.iconst 0, 1) := by decide +kernel
theorem dX6_addsZone_46 : decode cX6_addsZone 46 = .ok (.invokevirtual 89, 3) := by decide +kernel
theorem dX6_addsZone_49 : decode cX6_addsZone 49 = .ok (.aload_n 0, 1) := by decide +kernel
theorem dX6_addsZone_50 : decode cX6_addsZone 50 = .ok (.iload 5, 2) := by decide +kernel
theorem dX6_addsZone_52 : decode cX6_addsZone 52 = .ok (.iconst 5, 1) := by decide +kernel
theorem dX6_addsZone_53 : decode cX6_addsZone 53 = .ok (.iconst 0, 1) := by decide +kernel
theorem dX6_addsZone_54 : decode cX6_addsZone 54 = .ok (.invokevirtual 89, 3) := by decide +kernel
theorem dX6_addsZone_57 : decode cX6_addsZone 57 = .ok (.aload_n 0, 1) := by decide +kernel
theorem dX6_addsZone_58 : decode cX6_addsZone 58 = .ok (.iload 5, 2) := by decide +kernel
theorem dX6_addsZone_60 : decode cX6_addsZone 60 = .ok (.bipush 6, 2) := by decide +kernel
theorem dX6_addsZone_62 : decode cX6_addsZone 62 = .ok (.bipush 60, 2) := by decide +kernel
theorem dX6_addsZone_64 : decode cX6_addsZone 64 = .ok (.invokevirtual 89, 3) := by decide +kernel
theorem dX6_addsZone_67 : decode cX6_addsZone 67 = .ok (.aload_n 0, 1) := by decide +kernel
theorem dX6_addsZone_68 : decode cX6_addsZone 68 = .ok (.getfield 7, 3) := by decide +kernel
theorem dX6_addsZone_71 : decode cX6_addsZone 71 = .ok (.iconst 0, 1) := by decide +kernel
theorem dX6_addsZone_72 : decode cX6_addsZone 72 = .ok (.dup2, 1) := by decide +kernel
theorem dX6_addsZone_73 : decode cX6_addsZone 73 = .ok (.iaload, 1) := by decide +kernel
theorem dX6_addsZone_74 : decode cX6_addsZone 74 = .ok (.iconst 1, 1) := by decide +kernel
theorem dX6_addsZone_75 : decode cX6_addsZone 75 = .ok (.iadd, 1) := by decide +kernel
theorem dX6_addsZone_76 : decode cX6_addsZone 76 = .ok (.iastore, 1) := by decide +kernel
theorem dX6_addsZone_77 : decode cX6_addsZone 77 = .ok (.return_, 1) := by decide +kernel
set_option maxRecDepth 20000 in
theorem ggX6_zone_X6_in : GoodIn wsX6_zone wsX6_in := goodIn_r _ [5] (by decide +kernel) (by decide +kernel)
set_option maxRecDepth 20000 in
theorem gX6_zone_X6_in : GoodIn wsX6_zone (va_wsS RX6 40 yX6_in wsX6_in) := goodIn_app (goodIn_of _ (by decide +kernel)) ggX6_zone_X6_in
set_option maxRecDepth 20000 in
theorem ggX6_zone_X6_records : GoodIn wsX6_zone wsX6_records := goodIn_r _ [9, 10, 11, 1, 12, 13, 4, 14, 23, 24, 25, 26, 27, 28, 29, 30, 31, 32, 33, 34, 35, 36, 37, 38, 39] (by decide +kernel) (by decide +kernel)
set_option maxRecDepth 20000 in
theorem gX6_zone_X6_records : GoodIn wsX6_zone (wsV RX6 92 RX6 yX6_records wsX6_records) := goodIn_app (goodIn_of _ (by decide +kernel)) ggX6_zone_X6_records
set_option maxRecDepth 20000 in
theorem ggX6_zone_X6_addsZone : GoodIn wsX6_zone wsX6_addsZone := goodIn_r _ [18, 1, 19, 20, 21, 4, 22, 23, 24, 25, 26, 27, 28, 29, 30, 31, 32, 33, 34, 35, 36, 37, 38, 39] (by decide +kernel) (by decide +kernel)
set_option maxRecDepth 20000 in
theorem gX6_zone_X6_addsZone : GoodIn wsX6_zone (wsV RX6 95 RX6 yX6_addsZone wsX6_addsZone) := goodIn_app (goodIn_of _ (by decide +kernel)) ggX6_zone_X6_addsZone
theorem dX6_zone_0 : decode cX6_zone 0 = .ok (.iload_n 1, 1) := by decide +kernel
theorem dX6_zone_1 : decode cX6_zone 1 = .ok (.iconst 0, 1) := by decide +kernel
theorem dX6_zone_2 : decode cX6_zone 2 = .ok (.bipush 35, 2) := by decide +kernel
theorem dX6_zone_4 : decode cX6_zone 4 = .ok (.invokestatic 40, 3) := by decide +kernel
theorem dX6_zone_7 : decode cX6_zone 7 = .ok (.ifCond .eq 34, 3) := by decide +kernel
theorem dX6_zone_10 : decode cX6_zone 10 = .ok (.iload_n 2, 1) := by decide +kernel
theorem dX6_zone_11 : decode cX6_zone 11 = .ok (.iload_n 1, 1) := by decide +kernel
theorem dX6_zone_12 : decode cX6_zone 12 = .ok (.bipush 35, 2) := by decide +kernel
theorem dX6_zone_14 : decode cX6_zone 14 = .ok (.invokestatic 40, 3) := by decide +kernel
theorem dX6_zone_17 : decode cX6_zone 17 = .ok (.ifCond .eq 24, 3) := by decide +kernel
theorem dX6_zone_20 : decode cX6_zone 20 = .ok (.iload_n 3, 1) := by decide +kernel
theorem dX6_zone_21 : decode cX6_zone 21 = .ok (.iconst 1, 1) := by decide +kernel
theorem dX6_zone_22 : decode cX6_zone 22 = .ok (.bipush 9, 2) := by decide +kernel
theorem dX6_zone_24 : decode cX6_zone 24 = .ok (.invokestatic 40, 3) := by decide +kernel
theorem dX6_zone_27 : decode cX6_zone 27 = .ok (.ifCond .eq 14, 3) := by decide +kernel
theorem dX6_zone_30 : decode cX6_zone 30 = .ok (.iload 4, 2) := by decide +kernel
theorem dX6_zone_32 : decode cX6_zone 32 = .ok (.iload_n 3, 1) := by decide +kernel
theorem dX6_zone_33 : decode cX6_zone 33 = .ok (.bipush 9, 2) := by decide +kernel
theorem dX6_zone_35 : decode cX6_zone 35 = .ok (.invokestatic 40, 3) := by decide +kernel
theorem dX6_zone_38 : decode cX6_zone 38 = .ok (.ifCond .ne 5, 3) := by decide +kernel
theorem dX6_zone_41 : decode cX6_zone 41 = .ok (.iconst (-1), 1) := by decide +kernel
theorem dX6_zone_42 : decode cX6_zone 42 = .ok (.ireturn, 1) := by decide +kernel
theorem dX6_zone_43 : decode cX6_zone 43 = .ok (.aload_n 0, 1) := by decide +kernel
theorem dX6_zone_44 : decode cX6_zone 44 = .ok (.getfield 7, 3) := by decide +kernel
theorem dX6_zone_47 : decode cX6_zone 47 = .ok (.iconst 0, 1) := by decide +kernel
theorem dX6_zone_48 : decode cX6_zone 48 = .ok (.iaload, 1) := by decide +kernel
theorem dX6_zone_49 : decode cX6_zone 49 = .ok (.bipush 10, 2) := by decide +kernel
theorem dX6_zone_51 : decode cX6_zone 51 = .ok (.if_icmp .ne 6, 3) := by decide +kernel
theorem dX6_zone_54 : decode cX6_zone 54 = .ok (.bipush (-3), 2) := by decide +kernel
theorem dX6_zone_56 : decode cX6_zone 56 = .ok (.ireturn, 1) := by decide +kernel
theorem dX6_zone_57 : decode cX6_zone 57 = .ok (.aload_n 0, 1) := by decide +kernel
theorem dX6_zone_58 : decode cX6_zone 58 = .ok (.invokevirtual 92, 3) := by decide +kernel
theorem dX6_zone_61 : decode cX6_zone 61 = .ok (.aload_n 0, 1) := by decide +kernel
theorem dX6_zone_62 : decode cX6_zone 62 = .ok (.iload_n 1, 1) := by decide +kernel
theorem dX6_zone_63 : decode cX6_zone 63 = .ok (.iload_n 2, 1) := by decide +kernel
theorem dX6_zone_64 : decode cX6_zone 64 = .ok (.iload_n 3, 1) := by decide +kernel
theorem dX6_zone_65 : decode cX6_zone 65 = .ok (.iload 4, 2) := by decide +kernel
theorem dX6_zone_67 : decode cX6_zone 67 = .ok (.invokevirtual 95, 3) := by decide +kernel
theorem dX6_zone_70 : decode cX6_zone 70 = .ok (.aload_n 0, 1) := by decide +kernel
theorem dX6_zone_71 : decode cX6_zone 71 = .ok (.getfield 7, 3) := by decide +kernel
theorem dX6_zone_74 : decode cX6_zone 74 = .ok (.iconst 0, 1) := by decide +kernel
theorem dX6_zone_75 : decode cX6_zone 75 = .ok (.iaload, 1) := by decide +kernel
theorem dX6_zone_76 : decode cX6_zone 76 = .ok (.iconst 1, 1) := by decide +kernel
theorem dX6_zone_77 : decode cX6_zone 77 = .ok (.isub, 1) := by decide +kernel
theorem dX6_zone_78 : decode cX6_zone 78 = .ok (.ireturn, 1) := by decide +kernel
set_option maxRecDepth 20000 in
theorem ggX6_like_X6_isZone : GoodIn wsX6_like wsX6_isZone := goodIn_r _ [6, 1, 7, 8, 5, 9, 27, 28, 29, 30, 31, 32, 33, 34, 35, 36, 37, 38, 39, 40, 41, 42, 43] (by decide +kernel) (by decide +kernel)
set_option maxRecDepth 20000 in
theorem gX6_like_X6_isZone : GoodIn wsX6_like (wsV RX6 99 RX6 yX6_isZone wsX6_isZone) := goodIn_app (goodIn_of _ (by decide +kernel)) ggX6_like_X6_isZone
set_option maxRecDepth 20000 in
theorem ggX6_like_X6_in : GoodIn wsX6_like wsX6_in := goodIn_r _ [9] (by decide +kernel) (by decide +kernel)
set_option maxRecDepth 20000 in
theorem gX6_like_X6_in : GoodIn wsX6_like (va_wsS RX6 40 yX6_in wsX6_in) := goodIn_app (goodIn_of _ (by decide +kernel)) ggX6_like_X6_in
set_option maxRecDepth 20000 in
theorem ggX6_like_X6_records : GoodIn wsX6_like wsX6_records := goodIn_r _ [13, 14, 15, 1, 16, 17, 5, 18, 27, 28, 29, 30, 31, 32, 33, 34, 35, 36, 37, 38, 39, 40, 41, 42, 43] (by decide +kernel) (by decide +kernel)
set_option maxRecDepth 20000 in
theorem gX6_like_X6_records : GoodIn wsX6_like (wsV RX6 92 RX6 yX6_records wsX6_records) := goodIn_app (goodIn_of _ (by decide +kernel)) ggX6_like_X6_records
set_option maxRecDepth 20000 in
theorem ggX6_like_X6_laysZone : GoodIn wsX6_like wsX6_laysZone := goodIn_r _ [22, 1, 27, 28, 29, 30, 31, 32, 33, 34, 35, 36, 37, 38, 39, 40, 41, 42, 43] (by decide +kernel) (by decide +kernel)
set_option maxRecDepth 20000 in
theorem gX6_like_X6_laysZone : GoodIn wsX6_like (wsV RX6 89 RX6 yX6_laysZone wsX6_laysZone) := goodIn_app (goodIn_of _ (by decide +kernel)) ggX6_like_X6_laysZone
set_option maxRecDepth 20000 in
theorem ggX6_like_X6_ofZone : GoodIn wsX6_like wsX6_ofZone := goodIn_r _ [26, 1, 27, 28, 29, 30, 31, 32, 33, 34, 35, 36, 37, 38, 39, 40, 41, 42, 43] (by decide +kernel) (by decide +kernel)
set_option maxRecDepth 20000 in
theorem gX6_like_X6_ofZone : GoodIn wsX6_like (wsV RX6 44 RX6 yX6_ofZone wsX6_ofZone) := goodIn_app (goodIn_of _ (by decide +kernel)) ggX6_like_X6_ofZone
theorem dX6_like_0 : decode cX6_like 0 = .ok (.aload_n 0, 1) := by decide +kernel
theorem dX6_like_1 : decode cX6_like 1 = .ok (.iload_n 1, 1) := by decide +kernel
theorem dX6_like_2 : decode cX6_like 2 = .ok (.invokevirtual 99, 3) := by decide +kernel
theorem dX6_like_5 : decode cX6_like 5 = .ok (.ifCond .eq 32, 3) := by decide +kernel
theorem dX6_like_8 : decode cX6_like 8 = .ok (.iload_n 2, 1) := by decide +kernel
theorem dX6_like_9 : decode cX6_like 9 = .ok (.iconst 0, 1) := by decide +kernel
theorem dX6_like_10 : decode cX6_like 10 = .ok (.iconst 3, 1) := by decide +kernel
theorem dX6_like_11 : decode cX6_like 11 = .ok (.invokestatic 40, 3) := by decide +kernel
theorem dX6_like_14 : decode cX6_like 14 = .ok (.ifCond .eq 23, 3) := by decide +kernel
theorem dX6_like_17 : decode cX6_like 17 = .ok (.iload_n 3, 1) := by decide +kernel
theorem dX6_like_18 : decode cX6_like 18 = .ok (.iconst 0, 1) := by decide +kernel
theorem dX6_like_19 : decode cX6_like 19 = .ok (.iconst 4, 1) := by decide +kernel
theorem dX6_like_20 : decode cX6_like 20 = .ok (.invokestatic 40, 3) := by decide +kernel
theorem dX6_like_23 : decode cX6_like 23 = .ok (.ifCond .eq 14, 3) := by decide +kernel
theorem dX6_like_26 : decode cX6_like 26 = .ok (.iload 4, 2) := by decide +kernel
theorem dX6_like_28 : decode cX6_like 28 = .ok (.iconst 1, 1) := by decide +kernel
theorem dX6_like_29 : decode cX6_like 29 = .ok (.bipush 60, 2) := by decide +kernel
theorem dX6_like_31 : decode cX6_like 31 = .ok (.invokestatic 40, 3) := by decide +kernel
theorem dX6_like_34 : decode cX6_like 34 = .ok (.ifCond .ne 5, 3) := by decide +kernel
theorem dX6_like_37 : decode cX6_like 37 = .ok (.iconst (-1), 1) := by decide +kernel
theorem dX6_like_38 : decode cX6_like 38 = .ok (.ireturn, 1) := by decide +kernel
theorem dX6_like_39 : decode cX6_like 39 = .ok (.aload_n 0, 1) := by decide +kernel
theorem dX6_like_40 : decode cX6_like 40 = .ok (.invokevirtual 92, 3) := by decide +kernel
theorem dX6_like_43 : decode cX6_like 43 = .ok (.aload_n 0, 1) := by decide +kernel
theorem dX6_like_44 : decode cX6_like 44 = .ok (.iload_n 1, 1) := by decide +kernel
theorem dX6_like_45 : decode cX6_like 45 = .ok (.iconst 4, 1) := by decide +kernel
theorem dX6_like_46 : decode cX6_like 46 = .ok (.iload_n 2, 1) := by decide +kernel
theorem dX6_like_47 : decode cX6_like 47 = .ok (.invokevirtual 89, 3) := by decide +kernel
theorem dX6_like_50 : decode cX6_like 50 = .ok (.aload_n 0, 1) := by decide +kernel
theorem dX6_like_51 : decode cX6_like 51 = .ok (.iload_n 1, 1) := by decide +kernel
theorem dX6_like_52 : decode cX6_like 52 = .ok (.iconst 5, 1) := by decide +kernel
theorem dX6_like_53 : decode cX6_like 53 = .ok (.iload_n 3, 1) := by decide +kernel
theorem dX6_like_54 : decode cX6_like 54 = .ok (.invokevirtual 89, 3) := by decide +kernel
theorem dX6_like_57 : decode cX6_like 57 = .ok (.aload_n 0, 1) := by decide +kernel
theorem dX6_like_58 : decode cX6_like 58 = .ok (.iload_n 1, 1) := by decide +kernel
theorem dX6_like_59 : decode cX6_like 59 = .ok (.bipush 6, 2) := by decide +kernel
theorem dX6_like_61 : decode cX6_like 61 = .ok (.iload 4, 2) := by decide +kernel
theorem dX6_like_63 : decode cX6_like 63 = .ok (.invokevirtual 89, 3) := by decide +kernel
theorem dX6_like_66 : decode cX6_like 66 = .ok (.iconst 0, 1) := by decide +kernel
theorem dX6_like_67 : decode cX6_like 67 = .ok (.istore 5, 2) := by decide +kernel
theorem dX6_like_69 : decode cX6_like 69 = .ok (.iconst 0, 1) := by decide +kernel
theorem dX6_like_70 : decode cX6_like 70 = .ok (.istore 6, 2) := by decide +kernel
theorem dX6_like_72 : decode cX6_like 72 = .ok (.iload 6, 2) := by decide +kernel
theorem dX6_like_74 : decode cX6_like 74 = .ok (.aload_n 0, 1) := by decide +kernel
theorem dX6_like_75 : decode cX6_like 75 = .ok (.getfield 7, 3) := by decide +kernel
theorem dX6_like_78 : decode cX6_like 78 = .ok (.iconst 0, 1) := by decide +kernel
theorem dX6_like_79 : decode cX6_like 79 = .ok (.iaload, 1) := by decide +kernel
theorem dX6_like_80 : decode cX6_like 80 = .ok (.if_icmp .ge 34, 3) := by decide +kernel
theorem dX6_like_83 : decode cX6_like 83 = .ok (.iload 5, 2) := by decide +kernel
theorem dX6_like_85 : decode cX6_like 85 = .ok (.iload_n 2, 1) := by decide +kernel
theorem dX6_like_86 : decode cX6_like 86 = .ok (.ifCond .le 18, 3) := by decide +kernel
theorem dX6_like_89 : decode cX6_like 89 = .ok (.aload_n 0, 1) := by decide +kernel
theorem dX6_like_90 : decode cX6_like 90 = .ok (.iload 6, 2) := by decide +kernel
theorem dX6_like_92 : decode cX6_like 92 = .ok (.iconst 4, 1) := by decide +kernel
theorem dX6_like_93 : decode cX6_like 93 = .ok (.invokevirtual 44, 3) := by decide +kernel
theorem dX6_like_96 : decode cX6_like 96 = .ok (.iload_n 2, 1) := by decide +kernel
theorem dX6_like_97 : decode cX6_like 97 = .ok (.if_icmp .ne 7, 3) := by decide +kernel
theorem dX6_like_100 : decode cX6_like 100 = .ok (.iconst 1, 1) := by decide +kernel
theorem dX6_like_101 : decode cX6_like 101 = .ok (.goto 4, 3) := by decide +kernel
theorem dX6_like_104 : decode cX6_like 104 = .ok (.iconst 0, 1) := by decide +kernel
theorem dX6_like_105 : decode cX6_like 105 = .ok (.iadd, 1) := by decide +kernel
theorem dX6_like_106 : decode cX6_like 106 = .ok (.istore 5, 2) := by decide +kernel
theorem dX6_like_108 : decode cX6_like 108 = .ok (.iinc 6 1, 3) := by decide +kernel
theorem dX6_like_111 : decode cX6_like 111 = .ok (.goto (-39), 3) := by decide +kernel
theorem dX6_like_114 : decode cX6_like 114 = .ok (.iload 5, 2) := by decide +kernel
theorem dX6_like_116 : decode cX6_like 116 = .ok (.ireturn, 1) := by decide +kernel
set_option maxRecDepth 20000 in
theorem ggX6_takeZone_X6_isZone : GoodIn wsX6_takeZone wsX6_isZone := goodIn_r _ [6, 1, 7, 8, 5, 9, 31, 32, 33, 34, 35, 36, 37, 38, 39, 40, 41, 42, 43, 44, 45, 46, 47] (by decide +kernel) (by decide +kernel)
set_option maxRecDepth 20000 in
theorem gX6_takeZone_X6_isZone : GoodIn wsX6_takeZone (wsV RX6 99 RX6 yX6_isZone wsX6_isZone) := goodIn_app (goodIn_of _ (by decide +kernel)) ggX6_takeZone_X6_isZone
set_option maxRecDepth 20000 in
theorem ggX6_takeZone_X6_records : GoodIn wsX6_takeZone wsX6_records := goodIn_r _ [13, 14, 15, 1, 16, 17, 5, 18, 31, 32, 33, 34, 35, 36, 37, 38, 39, 40, 41, 42, 43, 44, 45, 46, 47] (by decide +kernel) (by decide +kernel)
set_option maxRecDepth 20000 in
theorem gX6_takeZone_X6_records : GoodIn wsX6_takeZone (wsV RX6 92 RX6 yX6_records wsX6_records) := goodIn_app (goodIn_of _ (by decide +kernel)) ggX6_takeZone_X6_records
set_option maxRecDepth 20000 in
theorem ggX6_takeZone_X6_of : GoodIn wsX6_takeZone wsX6_of := goodIn_r _ [22, 1, 31, 32, 33, 34, 35, 36, 37, 38, 39, 40, 41, 42, 43, 44, 45, 46, 47] (by decide +kernel) (by decide +kernel)
set_option maxRecDepth 20000 in
theorem gX6_takeZone_X6_of : GoodIn wsX6_takeZone (wsV RX6 55 RX6 yX6_of wsX6_of) := goodIn_app (goodIn_of _ (by decide +kernel)) ggX6_takeZone_X6_of
set_option maxRecDepth 20000 in
theorem ggX6_takeZone_X6_dropsVoice : GoodIn wsX6_takeZone wsX6_dropsVoice := goodIn_r _ [26, 1, 31, 32, 33, 34, 35, 36, 37, 38, 39, 40, 41, 42, 43, 44, 45, 46, 47] (by decide +kernel) (by decide +kernel)
set_option maxRecDepth 20000 in
theorem gX6_takeZone_X6_dropsVoice : GoodIn wsX6_takeZone (wsV RX6 62 RX6 yX6_dropsVoice wsX6_dropsVoice) := goodIn_app (goodIn_of _ (by decide +kernel)) ggX6_takeZone_X6_dropsVoice
set_option maxRecDepth 20000 in
theorem ggX6_takeZone_X6_lays : GoodIn wsX6_takeZone wsX6_lays := goodIn_r _ [30, 1, 31, 32, 33, 34, 35, 36, 37, 38, 39, 40, 41, 42, 43, 44, 45, 46, 47] (by decide +kernel) (by decide +kernel)
set_option maxRecDepth 20000 in
theorem gX6_takeZone_X6_lays : GoodIn wsX6_takeZone (wsV RX6 72 RX6 yX6_lays wsX6_lays) := goodIn_app (goodIn_of _ (by decide +kernel)) ggX6_takeZone_X6_lays
theorem dX6_takeZone_0 : decode cX6_takeZone 0 = .ok (.aload_n 0, 1) := by decide +kernel
theorem dX6_takeZone_1 : decode cX6_takeZone 1 = .ok (.iload_n 1, 1) := by decide +kernel
theorem dX6_takeZone_2 : decode cX6_takeZone 2 = .ok (.invokevirtual 99, 3) := by decide +kernel
theorem dX6_takeZone_5 : decode cX6_takeZone 5 = .ok (.ifCond .ne 5, 3) := by decide +kernel
theorem dX6_takeZone_8 : decode cX6_takeZone 8 = .ok (.iconst (-1), 1) := by decide +kernel
theorem dX6_takeZone_9 : decode cX6_takeZone 9 = .ok (.ireturn, 1) := by decide +kernel
theorem dX6_takeZone_10 : decode cX6_takeZone 10 = .ok (.aload_n 0, 1) := by decide +kernel
theorem dX6_takeZone_11 : decode cX6_takeZone 11 = .ok (.invokevirtual 92, 3) := by decide +kernel
theorem dX6_takeZone_14 : decode cX6_takeZone 14 = .ok (.iconst 0, 1) := by decide +kernel
theorem dX6_takeZone_15 : decode cX6_takeZone 15 = .ok (.istore_n 2, 1) := by decide +kernel
theorem dX6_takeZone_16 : decode cX6_takeZone 16 = .ok (.iconst 0, 1) := by decide +kernel
theorem dX6_takeZone_17 : decode cX6_takeZone 17 = .ok (.istore_n 3, 1) := by decide +kernel
theorem dX6_takeZone_18 : decode cX6_takeZone 18 = .ok (.iload_n 3, 1) := by decide +kernel
theorem dX6_takeZone_19 : decode cX6_takeZone 19 = .ok (.aload_n 0, 1) := by decide +kernel
theorem dX6_takeZone_20 : decode cX6_takeZone 20 = .ok (.getfield 7, 3) := by decide +kernel
theorem dX6_takeZone_23 : decode cX6_takeZone 23 = .ok (.iconst 1, 1) := by decide +kernel
theorem dX6_takeZone_24 : decode cX6_takeZone 24 = .ok (.iaload, 1) := by decide +kernel
theorem dX6_takeZone_25 : decode cX6_takeZone 25 = .ok (.if_icmp .ge 63, 3) := by decide +kernel
theorem dX6_takeZone_28 : decode cX6_takeZone 28 = .ok (.aload_n 0, 1) := by decide +kernel
theorem dX6_takeZone_29 : decode cX6_takeZone 29 = .ok (.iload_n 3, 1) := by decide +kernel
theorem dX6_takeZone_30 : decode cX6_takeZone 30 = .ok (.iconst 0, 1) := by decide +kernel
theorem dX6_takeZone_31 : decode cX6_takeZone 31 = .ok (.invokevirtual 55, 3) := by decide +kernel
theorem dX6_takeZone_34 : decode cX6_takeZone 34 = .ok (.iload_n 1, 1) := by decide +kernel
theorem dX6_takeZone_35 : decode cX6_takeZone 35 = .ok (.if_icmp .ne 14, 3) := by decide +kernel
theorem dX6_takeZone_38 : decode cX6_takeZone 38 = .ok (.aload_n 0, 1) := by decide +kernel
theorem dX6_takeZone_39 : decode cX6_takeZone 39 = .ok (.iload_n 3, 1) := by decide +kernel
theorem dX6_takeZone_40 : decode cX6_takeZone 40 = .ok (.invokevirtual 62, 3) := by decide +kernel
theorem dX6_takeZone_43 : decode cX6_takeZone 43 = .ok (.iinc 2 1, 3) := by decide +kernel
theorem dX6_takeZone_46 : decode cX6_takeZone 46 = .ok (.goto (-28), 3) := by decide +kernel
theorem dX6_takeZone_49 : decode cX6_takeZone 49 = .ok (.aload_n 0, 1) := by decide +kernel
theorem dX6_takeZone_50 : decode cX6_takeZone 50 = .ok (.iload_n 3, 1) := by decide +kernel
theorem dX6_takeZone_51 : decode cX6_takeZone 51 = .ok (.iconst 0, 1) := by decide +kernel
theorem dX6_takeZone_52 : decode cX6_takeZone 52 = .ok (.aload_n 0, 1) := by decide +kernel
theorem dX6_takeZone_53 : decode cX6_takeZone 53 = .ok (.iload_n 3, 1) := by decide +kernel
theorem dX6_takeZone_54 : decode cX6_takeZone 54 = .ok (.iconst 0, 1) := by decide +kernel
theorem dX6_takeZone_55 : decode cX6_takeZone 55 = .ok (.invokevirtual 55, 3) := by decide +kernel
theorem dX6_takeZone_58 : decode cX6_takeZone 58 = .ok (.iload_n 1, 1) := by decide +kernel
theorem dX6_takeZone_59 : decode cX6_takeZone 59 = .ok (.if_icmp .le 14, 3) := by decide +kernel
theorem dX6_takeZone_62 : decode cX6_takeZone 62 = .ok (.aload_n 0, 1) := by decide +kernel
theorem dX6_takeZone_63 : decode cX6_takeZone 63 = .ok (.iload_n 3, 1) := by decide +kernel
theorem dX6_takeZone_64 : decode cX6_takeZone 64 = .ok (.iconst 0, 1) := by decide +kernel
theorem dX6_takeZone_65 : decode cX6_takeZone 65 = .ok (.invokevirtual 55, 3) := by decide +kernel
theorem dX6_takeZone_68 : decode cX6_takeZone 68 = .ok (.iconst 1, 1) := by decide +kernel
theorem dX6_takeZone_69 : decode cX6_takeZone 69 = .ok (.isub, 1) := by decide +kernel
theorem dX6_takeZone_70 : decode cX6_takeZone 70 = .ok (.goto 9, 3) := by decide +kernel
theorem dX6_takeZone_73 : decode cX6_takeZone 73 = .ok (.aload_n 0, 1) := by decide +kernel
theorem dX6_takeZone_74 : decode cX6_takeZone 74 = .ok (.iload_n 3, 1) := by decide +kernel
theorem dX6_takeZone_75 : decode cX6_takeZone 75 = .ok (.iconst 0, 1) := by decide +kernel
theorem dX6_takeZone_76 : decode cX6_takeZone 76 = .ok (.invokevirtual 55, 3) := by decide +kernel
theorem dX6_takeZone_79 : decode cX6_takeZone 79 = .ok (.invokevirtual 72, 3) := by decide +kernel
theorem dX6_takeZone_82 : decode cX6_takeZone 82 = .ok (.iinc 3 1, 3) := by decide +kernel
theorem dX6_takeZone_85 : decode cX6_takeZone 85 = .ok (.goto (-67), 3) := by decide +kernel
theorem dX6_takeZone_88 : decode cX6_takeZone 88 = .ok (.aload_n 0, 1) := by decide +kernel
theorem dX6_takeZone_89 : decode cX6_takeZone 89 = .ok (.getfield 7, 3) := by decide +kernel
theorem dX6_takeZone_92 : decode cX6_takeZone 92 = .ok (.bipush 8, 2) := by decide +kernel
theorem dX6_takeZone_94 : decode cX6_takeZone 94 = .ok (.dup2, 1) := by decide +kernel
theorem dX6_takeZone_95 : decode cX6_takeZone 95 = .ok (.iaload, 1) := by decide +kernel
theorem dX6_takeZone_96 : decode cX6_takeZone 96 = .ok (.iload_n 2, 1) := by decide +kernel
theorem dX6_takeZone_97 : decode cX6_takeZone 97 = .ok (.iadd, 1) := by decide +kernel
theorem dX6_takeZone_98 : decode cX6_takeZone 98 = .ok (.iastore, 1) := by decide +kernel
theorem dX6_takeZone_99 : decode cX6_takeZone 99 = .ok (.aload_n 0, 1) := by decide +kernel
theorem dX6_takeZone_100 : decode cX6_takeZone 100 = .ok (.getfield 7, 3) := by decide +kernel
theorem dX6_takeZone_103 : decode cX6_takeZone 103 = .ok (.iconst 0, 1) := by decide +kernel
theorem dX6_takeZone_104 : decode cX6_takeZone 104 = .ok (.dup2, 1) := by decide +kernel
theorem dX6_takeZone_105 : decode cX6_takeZone 105 = .ok (.iaload, 1) := by decide +kernel
theorem dX6_takeZone_106 : decode cX6_takeZone 106 = .ok (.iconst 1, 1) := by decide +kernel
theorem dX6_takeZone_107 : decode cX6_takeZone 107 = .ok (.isub, 1) := by decide +kernel
theorem dX6_takeZone_108 : decode cX6_takeZone 108 = .ok (.iastore, 1) := by decide +kernel
theorem dX6_takeZone_109 : decode cX6_takeZone 109 = .ok (.bipush 16, 2) := by decide +kernel
theorem dX6_takeZone_111 : decode cX6_takeZone 111 = .ok (.bipush 7, 2) := by decide +kernel
theorem dX6_takeZone_113 : decode cX6_takeZone 113 = .ok (.iload_n 1, 1) := by decide +kernel
theorem dX6_takeZone_114 : decode cX6_takeZone 114 = .ok (.imul, 1) := by decide +kernel
theorem dX6_takeZone_115 : decode cX6_takeZone 115 = .ok (.iadd, 1) := by decide +kernel
theorem dX6_takeZone_116 : decode cX6_takeZone 116 = .ok (.istore 4, 2) := by decide +kernel
theorem dX6_takeZone_118 : decode cX6_takeZone 118 = .ok (.iload 4, 2) := by decide +kernel
theorem dX6_takeZone_120 : decode cX6_takeZone 120 = .ok (.bipush 86, 2) := by decide +kernel
theorem dX6_takeZone_122 : decode cX6_takeZone 122 = .ok (.if_icmp .ge 40, 3) := by decide +kernel
theorem dX6_takeZone_125 : decode cX6_takeZone 125 = .ok (.aload_n 0, 1) := by decide +kernel
theorem dX6_takeZone_126 : decode cX6_takeZone 126 = .ok (.getfield 7, 3) := by decide +kernel
theorem dX6_takeZone_129 : decode cX6_takeZone 129 = .ok (.iload 4, 2) := by decide +kernel
theorem dX6_takeZone_131 : decode cX6_takeZone 131 = .ok (.iload 4, 2) := by decide +kernel
theorem dX6_takeZone_133 : decode cX6_takeZone 133 = .ok (.bipush 7, 2) := by decide +kernel
theorem dX6_takeZone_135 : decode cX6_takeZone 135 = .ok (.iadd, 1) := by decide +kernel
theorem dX6_takeZone_136 : decode cX6_takeZone 136 = .ok (.bipush 86, 2) := by decide +kernel
theorem dX6_takeZone_138 : decode cX6_takeZone 138 = .ok (.if_icmp .ge 16, 3) := by decide +kernel
theorem dX6_takeZone_141 : decode cX6_takeZone 141 = .ok (.aload_n 0, 1) := by decide +kernel
theorem dX6_takeZone_142 : decode cX6_takeZone 142 = .ok (.getfield 7, 3) := by decide +kernel
theorem dX6_takeZone_145 : decode cX6_takeZone 145 = .ok (.iload 4, 2) := by decide +kernel
theorem dX6_takeZone_147 : decode cX6_takeZone 147 = .ok (.bipush 7, 2) := by decide +kernel
theorem dX6_takeZone_149 : decode cX6_takeZone 149 = .ok (.iadd, 1) := by decide +kernel
theorem dX6_takeZone_150 : decode cX6_takeZone 150 = .ok (.iaload, 1) := by decide +kernel
theorem dX6_takeZone_151 : decode cX6_takeZone 151 = .ok (.goto 4, 3) := by decide +kernel
theorem dX6_takeZone_154 : decode cX6_takeZone 154 = .ok (.iconst 0, 1) := by decide +kernel
theorem dX6_takeZone_155 : decode cX6_takeZone 155 = .ok (.iastore, 1) := by decide +kernel
theorem dX6_takeZone_156 : decode cX6_takeZone 156 = .ok (.iinc 4 1, 3) := by decide +kernel
theorem dX6_takeZone_159 : decode cX6_takeZone 159 = .ok (.goto (-41), 3) := by decide +kernel
theorem dX6_takeZone_162 : decode cX6_takeZone 162 = .ok (.iload_n 2, 1) := by decide +kernel
theorem dX6_takeZone_163 : decode cX6_takeZone 163 = .ok (.ireturn, 1) := by decide +kernel
set_option maxRecDepth 20000 in
theorem ggX6_isNote_X6_in : GoodIn wsX6_isNote wsX6_in := goodIn_r _ [4] (by decide +kernel) (by decide +kernel)
set_option maxRecDepth 20000 in
theorem gX6_isNote_X6_in : GoodIn wsX6_isNote (va_wsS RX6 40 yX6_in wsX6_in) := goodIn_app (goodIn_of _ (by decide +kernel)) ggX6_isNote_X6_in
theorem dX6_isNote_0 : decode cX6_isNote 0 = .ok (.iload_n 0, 1) := by decide +kernel
theorem dX6_isNote_1 : decode cX6_isNote 1 = .ok (.iconst 0, 1) := by decide +kernel
theorem dX6_isNote_2 : decode cX6_isNote 2 = .ok (.bipush 35, 2) := by decide +kernel
theorem dX6_isNote_4 : decode cX6_isNote 4 = .ok (.invokestatic 40, 3) := by decide +kernel
theorem dX6_isNote_7 : decode cX6_isNote 7 = .ok (.ifCond .eq 17, 3) := by decide +kernel
theorem dX6_isNote_10 : decode cX6_isNote 10 = .ok (.iload_n 1, 1) := by decide +kernel
theorem dX6_isNote_11 : decode cX6_isNote 11 = .ok (.iconst 1, 1) := by decide +kernel
theorem dX6_isNote_12 : decode cX6_isNote 12 = .ok (.bipush 9, 2) := by decide +kernel
theorem dX6_isNote_14 : decode cX6_isNote 14 = .ok (.invokestatic 40, 3) := by decide +kernel
theorem dX6_isNote_17 : decode cX6_isNote 17 = .ok (.ifCond .eq 7, 3) := by decide +kernel
theorem dX6_isNote_20 : decode cX6_isNote 20 = .ok (.iconst 1, 1) := by decide +kernel
theorem dX6_isNote_21 : decode cX6_isNote 21 = .ok (.goto 4, 3) := by decide +kernel
theorem dX6_isNote_24 : decode cX6_isNote 24 = .ok (.iconst 0, 1) := by decide +kernel
theorem dX6_isNote_25 : decode cX6_isNote 25 = .ok (.ireturn, 1) := by decide +kernel
set_option maxRecDepth 20000 in
theorem ggX6_hit_X6_isNote : GoodIn wsX6_hit wsX6_isNote := goodIn_r _ [4, 5, 6, 3, 7] (by decide +kernel) (by decide +kernel)
set_option maxRecDepth 20000 in
theorem gX6_hit_X6_isNote : GoodIn wsX6_hit (va_wsS RX6 103 yX6_isNote wsX6_isNote) := goodIn_app (goodIn_of _ (by decide +kernel)) ggX6_hit_X6_isNote
set_option maxRecDepth 20000 in
theorem ggX6_hit_X6_records : GoodIn wsX6_hit wsX6_records := goodIn_r _ [11, 12, 13, 14, 15, 16, 3, 17, 68, 69, 70, 71, 72, 73, 74, 75, 76, 77, 78, 79, 80, 81, 82, 83, 84] (by decide +kernel) (by decide +kernel)
set_option maxRecDepth 20000 in
theorem gX6_hit_X6_records : GoodIn wsX6_hit (wsV RX6 92 RX6 yX6_records wsX6_records) := goodIn_app (goodIn_of _ (by decide +kernel)) ggX6_hit_X6_records
set_option maxRecDepth 20000 in
theorem ggX6_hit_X6_goHit : GoodIn wsX6_hit wsX6_goHit := goodIn_r _ [21, 14, 22, 23, 24, 25, 26, 3, 27, 28, 29, 30, 31, 32, 33, 34, 35, 36, 37, 38, 39, 40, 41, 42, 43, 5, 6, 7, 44, 45, 46, 47, 48, 49, 50, 51, 52, 53, 54, 55, 56, 57, 58, 59, 60, 61, 62, 63, 64, 65, 66, 67, 68, 69, 70, 71, 72, 73, 74, 75, 76, 77, 78, 79, 80, 81, 82, 83, 84] (by decide +kernel) (by decide +kernel)
set_option maxRecDepth 20000 in
theorem gX6_hit_X6_goHit : GoodIn wsX6_hit (wsV RX6 107 RX6 yX6_goHit wsX6_goHit) := goodIn_app (goodIn_of _ (by decide +kernel)) ggX6_hit_X6_goHit
theorem dX6_hit_0 : decode cX6_hit 0 = .ok (.iload_n 1, 1) := by decide +kernel
theorem dX6_hit_1 : decode cX6_hit 1 = .ok (.iload_n 2, 1) := by decide +kernel
theorem dX6_hit_2 : decode cX6_hit 2 = .ok (.invokestatic 103, 3) := by decide +kernel
theorem dX6_hit_5 : decode cX6_hit 5 = .ok (.ifCond .ne 5, 3) := by decide +kernel
theorem dX6_hit_8 : decode cX6_hit 8 = .ok (.iconst (-1), 1) := by decide +kernel
theorem dX6_hit_9 : decode cX6_hit 9 = .ok (.ireturn, 1) := by decide +kernel
theorem dX6_hit_10 : decode cX6_hit 10 = .ok (.aload_n 0, 1) := by decide +kernel
theorem dX6_hit_11 : decode cX6_hit 11 = .ok (.invokevirtual 92, 3) := by decide +kernel
theorem dX6_hit_14 : decode cX6_hit 14 = .ok (.aload_n 0, 1) := by decide +kernel
theorem dX6_hit_15 : decode cX6_hit 15 = .ok (.iload_n 1, 1) := by decide +kernel
theorem dX6_hit_16 : decode cX6_hit 16 = .ok (.iload_n 2, 1) := by decide +kernel
theorem dX6_hit_17 : decode cX6_hit 17 = .ok (.invokevirtual 107, 3) := by decide +kernel
theorem dX6_hit_20 : decode cX6_hit 20 = .ok (.ireturn, 1) := by decide +kernel
set_option maxRecDepth 20000 in
theorem ggX6_letGo_X6_in : GoodIn wsX6_letGo wsX6_in := goodIn_r _ [4] (by decide +kernel) (by decide +kernel)
set_option maxRecDepth 20000 in
theorem gX6_letGo_X6_in : GoodIn wsX6_letGo (va_wsS RX6 40 yX6_in wsX6_in) := goodIn_app (goodIn_of _ (by decide +kernel)) ggX6_letGo_X6_in
set_option maxRecDepth 20000 in
theorem ggX6_letGo_X6_records : GoodIn wsX6_letGo wsX6_records := goodIn_r _ [8, 9, 10, 11, 12, 13, 3, 14, 27, 28, 29, 30, 31, 32, 33, 34, 35, 36, 37, 38, 39, 40, 41, 42, 43] (by decide +kernel) (by decide +kernel)
set_option maxRecDepth 20000 in
theorem gX6_letGo_X6_records : GoodIn wsX6_letGo (wsV RX6 92 RX6 yX6_records wsX6_records) := goodIn_app (goodIn_of _ (by decide +kernel)) ggX6_letGo_X6_records
set_option maxRecDepth 20000 in
theorem ggX6_letGo_X6_goLet : GoodIn wsX6_letGo wsX6_goLet := goodIn_r _ [18, 11, 19, 20, 21, 3, 22, 23, 24, 25, 26, 27, 28, 29, 30, 31, 32, 33, 34, 35, 36, 37, 38, 39, 40, 41, 42, 43] (by decide +kernel) (by decide +kernel)
set_option maxRecDepth 20000 in
theorem gX6_letGo_X6_goLet : GoodIn wsX6_letGo (wsV RX6 110 RX6 yX6_goLet wsX6_goLet) := goodIn_app (goodIn_of _ (by decide +kernel)) ggX6_letGo_X6_goLet
theorem dX6_letGo_0 : decode cX6_letGo 0 = .ok (.iload_n 1, 1) := by decide +kernel
theorem dX6_letGo_1 : decode cX6_letGo 1 = .ok (.iconst 0, 1) := by decide +kernel
theorem dX6_letGo_2 : decode cX6_letGo 2 = .ok (.bipush 35, 2) := by decide +kernel
theorem dX6_letGo_4 : decode cX6_letGo 4 = .ok (.invokestatic 40, 3) := by decide +kernel
theorem dX6_letGo_7 : decode cX6_letGo 7 = .ok (.ifCond .ne 5, 3) := by decide +kernel
theorem dX6_letGo_10 : decode cX6_letGo 10 = .ok (.iconst (-1), 1) := by decide +kernel
theorem dX6_letGo_11 : decode cX6_letGo 11 = .ok (.ireturn, 1) := by decide +kernel
theorem dX6_letGo_12 : decode cX6_letGo 12 = .ok (.aload_n 0, 1) := by decide +kernel
theorem dX6_letGo_13 : decode cX6_letGo 13 = .ok (.invokevirtual 92, 3) := by decide +kernel
theorem dX6_letGo_16 : decode cX6_letGo 16 = .ok (.aload_n 0, 1) := by decide +kernel
theorem dX6_letGo_17 : decode cX6_letGo 17 = .ok (.iload_n 1, 1) := by decide +kernel
theorem dX6_letGo_18 : decode cX6_letGo 18 = .ok (.invokevirtual 110, 3) := by decide +kernel
theorem dX6_letGo_21 : decode cX6_letGo 21 = .ok (.ireturn, 1) := by decide +kernel
set_option maxRecDepth 20000 in
theorem ggX6_pedal_X6_records : GoodIn wsX6_pedal wsX6_records := goodIn_r _ [5, 6, 7, 8, 9, 10, 4, 11, 24, 25, 26, 27, 28, 29, 30, 31, 32, 33, 34, 35, 36, 37, 38, 39, 40] (by decide +kernel) (by decide +kernel)
set_option maxRecDepth 20000 in
theorem gX6_pedal_X6_records : GoodIn wsX6_pedal (wsV RX6 92 RX6 yX6_records wsX6_records) := goodIn_app (goodIn_of _ (by decide +kernel)) ggX6_pedal_X6_records
set_option maxRecDepth 20000 in
theorem ggX6_pedal_X6_goPedal : GoodIn wsX6_pedal wsX6_goPedal := goodIn_r _ [15, 8, 16, 17, 18, 4, 19, 20, 21, 22, 23, 24, 25, 26, 27, 28, 29, 30, 31, 32, 33, 34, 35, 36, 37, 38, 39, 40] (by decide +kernel) (by decide +kernel)
set_option maxRecDepth 20000 in
theorem gX6_pedal_X6_goPedal : GoodIn wsX6_pedal (wsV RX6 113 RX6 yX6_goPedal wsX6_goPedal) := goodIn_app (goodIn_of _ (by decide +kernel)) ggX6_pedal_X6_goPedal
theorem dX6_pedal_0 : decode cX6_pedal 0 = .ok (.aload_n 0, 1) := by decide +kernel
theorem dX6_pedal_1 : decode cX6_pedal 1 = .ok (.invokevirtual 92, 3) := by decide +kernel
theorem dX6_pedal_4 : decode cX6_pedal 4 = .ok (.aload_n 0, 1) := by decide +kernel
theorem dX6_pedal_5 : decode cX6_pedal 5 = .ok (.invokevirtual 113, 3) := by decide +kernel
theorem dX6_pedal_8 : decode cX6_pedal 8 = .ok (.ireturn, 1) := by decide +kernel
set_option maxRecDepth 20000 in
theorem ggX6_pass_X6_in : GoodIn wsX6_pass wsX6_in := goodIn_r _ [4] (by decide +kernel) (by decide +kernel)
set_option maxRecDepth 20000 in
theorem gX6_pass_X6_in : GoodIn wsX6_pass (va_wsS RX6 40 yX6_in wsX6_in) := goodIn_app (goodIn_of _ (by decide +kernel)) ggX6_pass_X6_in
set_option maxRecDepth 20000 in
theorem ggX6_pass_X6_records : GoodIn wsX6_pass wsX6_records := goodIn_r _ [8, 9, 10, 11, 12, 13, 3, 14, 39, 40, 41, 42, 43, 44, 45, 46, 47, 48, 49, 50, 51, 52, 53, 54, 55] (by decide +kernel) (by decide +kernel)
set_option maxRecDepth 20000 in
theorem gX6_pass_X6_records : GoodIn wsX6_pass (wsV RX6 92 RX6 yX6_records wsX6_records) := goodIn_app (goodIn_of _ (by decide +kernel)) ggX6_pass_X6_records
set_option maxRecDepth 20000 in
theorem ggX6_pass_X6_goPass : GoodIn wsX6_pass wsX6_goPass := goodIn_r _ [18, 19, 20, 21, 3, 22, 11, 23, 24, 25, 26, 27, 28, 29, 30, 31, 32, 33, 34, 35, 36, 37, 38, 39, 40, 41, 42, 43, 44, 45, 46, 47, 48, 49, 50, 51, 52, 53, 54, 55] (by decide +kernel) (by decide +kernel)
set_option maxRecDepth 20000 in
theorem gX6_pass_X6_goPass : GoodIn wsX6_pass (wsV RX6 116 RX6 yX6_goPass wsX6_goPass) := goodIn_app (goodIn_of _ (by decide +kernel)) ggX6_pass_X6_goPass
theorem dX6_pass_0 : decode cX6_pass 0 = .ok (.iload_n 1, 1) := by decide +kernel
theorem dX6_pass_1 : decode cX6_pass 1 = .ok (.iconst 1, 1) := by decide +kernel
theorem dX6_pass_2 : decode cX6_pass 2 = .ok (.bipush 99, 2) := by decide +kernel
theorem dX6_pass_4 : decode cX6_pass 4 = .ok (.invokestatic 40, 3) := by decide +kernel
theorem dX6_pass_7 : decode cX6_pass 7 = .ok (.ifCond .ne 5, 3) := by decide +kernel
theorem dX6_pass_10 : decode cX6_pass 10 = .ok (.iconst (-1), 1) := by decide +kernel
theorem dX6_pass_11 : decode cX6_pass 11 = .ok (.ireturn, 1) := by decide +kernel
theorem dX6_pass_12 : decode cX6_pass 12 = .ok (.aload_n 0, 1) := by decide +kernel
theorem dX6_pass_13 : decode cX6_pass 13 = .ok (.invokevirtual 92, 3) := by decide +kernel
theorem dX6_pass_16 : decode cX6_pass 16 = .ok (.aload_n 0, 1) := by decide +kernel
theorem dX6_pass_17 : decode cX6_pass 17 = .ok (.iload_n 1, 1) := by decide +kernel
theorem dX6_pass_18 : decode cX6_pass 18 = .ok (.invokevirtual 116, 3) := by decide +kernel
theorem dX6_pass_21 : decode cX6_pass 21 = .ok (.ireturn, 1) := by decide +kernel
set_option maxRecDepth 20000 in
theorem ggX6_silence_X6_records : GoodIn wsX6_silence wsX6_records := goodIn_r _ [6, 7, 8, 1, 9, 10, 5, 11, 16, 17, 18, 19, 20, 21, 22, 23, 24, 25, 26, 27, 28, 29, 30, 31, 32] (by decide +kernel) (by decide +kernel)
set_option maxRecDepth 20000 in
theorem gX6_silence_X6_records : GoodIn wsX6_silence (wsV RX6 92 RX6 yX6_records wsX6_records) := goodIn_app (goodIn_of _ (by decide +kernel)) ggX6_silence_X6_records
set_option maxRecDepth 20000 in
theorem ggX6_silence_X6_dropsVoice : GoodIn wsX6_silence wsX6_dropsVoice := goodIn_r _ [15, 1, 16, 17, 18, 19, 20, 21, 22, 23, 24, 25, 26, 27, 28, 29, 30, 31, 32] (by decide +kernel) (by decide +kernel)
set_option maxRecDepth 20000 in
theorem gX6_silence_X6_dropsVoice : GoodIn wsX6_silence (wsV RX6 62 RX6 yX6_dropsVoice wsX6_dropsVoice) := goodIn_app (goodIn_of _ (by decide +kernel)) ggX6_silence_X6_dropsVoice
theorem dX6_silence_0 : decode cX6_silence 0 = .ok (.aload_n 0, 1) := by decide +kernel
theorem dX6_silence_1 : decode cX6_silence 1 = .ok (.invokevirtual 92, 3) := by decide +kernel
theorem dX6_silence_4 : decode cX6_silence 4 = .ok (.aload_n 0, 1) := by decide +kernel
theorem dX6_silence_5 : decode cX6_silence 5 = .ok (.getfield 7, 3) := by decide +kernel
theorem dX6_silence_8 : decode cX6_silence 8 = .ok (.iconst 1, 1) := by decide +kernel
theorem dX6_silence_9 : decode cX6_silence 9 = .ok (.iaload, 1) := by decide +kernel
theorem dX6_silence_10 : decode cX6_silence 10 = .ok (.istore_n 1, 1) := by decide +kernel
theorem dX6_silence_11 : decode cX6_silence 11 = .ok (.aload_n 0, 1) := by decide +kernel
theorem dX6_silence_12 : decode cX6_silence 12 = .ok (.getfield 7, 3) := by decide +kernel
theorem dX6_silence_15 : decode cX6_silence 15 = .ok (.iconst 1, 1) := by decide +kernel
theorem dX6_silence_16 : decode cX6_silence 16 = .ok (.iaload, 1) := by decide +kernel
theorem dX6_silence_17 : decode cX6_silence 17 = .ok (.ifCond .le 11, 3) := by decide +kernel
theorem dX6_silence_20 : decode cX6_silence 20 = .ok (.aload_n 0, 1) := by decide +kernel
theorem dX6_silence_21 : decode cX6_silence 21 = .ok (.iconst 0, 1) := by decide +kernel
theorem dX6_silence_22 : decode cX6_silence 22 = .ok (.invokevirtual 62, 3) := by decide +kernel
theorem dX6_silence_25 : decode cX6_silence 25 = .ok (.goto (-14), 3) := by decide +kernel
theorem dX6_silence_28 : decode cX6_silence 28 = .ok (.aload_n 0, 1) := by decide +kernel
theorem dX6_silence_29 : decode cX6_silence 29 = .ok (.getfield 7, 3) := by decide +kernel
theorem dX6_silence_32 : decode cX6_silence 32 = .ok (.bipush 8, 2) := by decide +kernel
theorem dX6_silence_34 : decode cX6_silence 34 = .ok (.dup2, 1) := by decide +kernel
theorem dX6_silence_35 : decode cX6_silence 35 = .ok (.iaload, 1) := by decide +kernel
theorem dX6_silence_36 : decode cX6_silence 36 = .ok (.iload_n 1, 1) := by decide +kernel
theorem dX6_silence_37 : decode cX6_silence 37 = .ok (.iadd, 1) := by decide +kernel
theorem dX6_silence_38 : decode cX6_silence 38 = .ok (.iastore, 1) := by decide +kernel
theorem dX6_silence_39 : decode cX6_silence 39 = .ok (.iload_n 1, 1) := by decide +kernel
theorem dX6_silence_40 : decode cX6_silence 40 = .ok (.ireturn, 1) := by decide +kernel
theorem dX6_leastOf_0 : decode cX6_leastOf 0 = .ok (.iload_n 0, 1) := by decide +kernel
theorem dX6_leastOf_1 : decode cX6_leastOf 1 = .ok (.iconst 1, 1) := by decide +kernel
theorem dX6_leastOf_2 : decode cX6_leastOf 2 = .ok (.if_icmp .ne 7, 3) := by decide +kernel
theorem dX6_leastOf_5 : decode cX6_leastOf 5 = .ok (.iconst 0, 1) := by decide +kernel
theorem dX6_leastOf_6 : decode cX6_leastOf 6 = .ok (.goto 4, 3) := by decide +kernel
theorem dX6_leastOf_9 : decode cX6_leastOf 9 = .ok (.iconst 1, 1) := by decide +kernel
theorem dX6_leastOf_10 : decode cX6_leastOf 10 = .ok (.ireturn, 1) := by decide +kernel
theorem dX6_mostOf_0 : decode cX6_mostOf 0 = .ok (.iload_n 0, 1) := by decide +kernel
theorem dX6_mostOf_1 : decode cX6_mostOf 1 = .ok (.ifCond .ne 8, 3) := by decide +kernel
theorem dX6_mostOf_4 : decode cX6_mostOf 4 = .ok (.bipush 8, 2) := by decide +kernel
theorem dX6_mostOf_6 : decode cX6_mostOf 6 = .ok (.goto 14, 3) := by decide +kernel
theorem dX6_mostOf_9 : decode cX6_mostOf 9 = .ok (.iload_n 0, 1) := by decide +kernel
theorem dX6_mostOf_10 : decode cX6_mostOf 10 = .ok (.iconst 1, 1) := by decide +kernel
theorem dX6_mostOf_11 : decode cX6_mostOf 11 = .ok (.if_icmp .ne 7, 3) := by decide +kernel
theorem dX6_mostOf_14 : decode cX6_mostOf 14 = .ok (.iconst 2, 1) := by decide +kernel
theorem dX6_mostOf_15 : decode cX6_mostOf 15 = .ok (.goto 5, 3) := by decide +kernel
theorem dX6_mostOf_18 : decode cX6_mostOf 18 = .ok (.bipush 50, 2) := by decide +kernel
theorem dX6_mostOf_20 : decode cX6_mostOf 20 = .ok (.ireturn, 1) := by decide +kernel
set_option maxRecDepth 20000 in
theorem ggX6_set_X6_in : GoodIn wsX6_set wsX6_in := goodIn_r _ [5] (by decide +kernel) (by decide +kernel)
set_option maxRecDepth 20000 in
theorem gX6_set_X6_in : GoodIn wsX6_set (va_wsS RX6 40 yX6_in wsX6_in) := goodIn_app (goodIn_of _ (by decide +kernel)) ggX6_set_X6_in
set_option maxRecDepth 20000 in
theorem ggX6_set_X6_leastOf : GoodIn wsX6_set wsX6_leastOf := goodIn_r _ [8] (by decide +kernel) (by decide +kernel)
set_option maxRecDepth 20000 in
theorem gX6_set_X6_leastOf : GoodIn wsX6_set (va_wsS RX6 119 yX6_leastOf wsX6_leastOf) := goodIn_app (goodIn_of _ (by decide +kernel)) ggX6_set_X6_leastOf
set_option maxRecDepth 20000 in
theorem ggX6_set_X6_mostOf : GoodIn wsX6_set wsX6_mostOf := goodIn_r _ [11] (by decide +kernel) (by decide +kernel)
set_option maxRecDepth 20000 in
theorem gX6_set_X6_mostOf : GoodIn wsX6_set (va_wsS RX6 122 yX6_mostOf wsX6_mostOf) := goodIn_app (goodIn_of _ (by decide +kernel)) ggX6_set_X6_mostOf
set_option maxRecDepth 20000 in
theorem ggX6_set_X6_records : GoodIn wsX6_set wsX6_records := goodIn_r _ [15, 16, 17, 1, 18, 19, 4, 20, 37, 38, 39, 40, 41, 42, 43, 44, 45, 46, 47, 48, 49, 50, 51, 52, 53] (by decide +kernel) (by decide +kernel)
set_option maxRecDepth 20000 in
theorem gX6_set_X6_records : GoodIn wsX6_set (wsV RX6 92 RX6 yX6_records wsX6_records) := goodIn_app (goodIn_of _ (by decide +kernel)) ggX6_set_X6_records
set_option maxRecDepth 20000 in
theorem ggX6_set_X6_steals : GoodIn wsX6_set wsX6_steals := goodIn_r _ [24, 1, 25, 26, 27, 4, 28, 29, 30, 31, 32, 33, 34, 35, 36, 37, 38, 39, 40, 41, 42, 43, 44, 45, 46, 47, 48, 49, 50, 51, 52, 53] (by decide +kernel) (by decide +kernel)
set_option maxRecDepth 20000 in
theorem gX6_set_X6_steals : GoodIn wsX6_set (wsV RX6 69 RX6 yX6_steals wsX6_steals) := goodIn_app (goodIn_of _ (by decide +kernel)) ggX6_set_X6_steals
theorem dX6_set_0 : decode cX6_set 0 = .ok (.iload_n 1, 1) := by decide +kernel
theorem dX6_set_1 : decode cX6_set 1 = .ok (.iconst 0, 1) := by decide +kernel
theorem dX6_set_2 : decode cX6_set 2 = .ok (.iconst 2, 1) := by decide +kernel
theorem dX6_set_3 : decode cX6_set 3 = .ok (.invokestatic 40, 3) := by decide +kernel
theorem dX6_set_6 : decode cX6_set 6 = .ok (.ifCond .eq 18, 3) := by decide +kernel
theorem dX6_set_9 : decode cX6_set 9 = .ok (.iload_n 2, 1) := by decide +kernel
theorem dX6_set_10 : decode cX6_set 10 = .ok (.iload_n 1, 1) := by decide +kernel
theorem dX6_set_11 : decode cX6_set 11 = .ok (.invokestatic 119, 3) := by decide +kernel
theorem dX6_set_14 : decode cX6_set 14 = .ok (.iload_n 1, 1) := by decide +kernel
theorem dX6_set_15 : decode cX6_set 15 = .ok (.invokestatic 122, 3) := by decide +kernel
theorem dX6_set_18 : decode cX6_set 18 = .ok (.invokestatic 40, 3) := by decide +kernel
theorem dX6_set_21 : decode cX6_set 21 = .ok (.ifCond .ne 5, 3) := by decide +kernel
theorem dX6_set_24 : decode cX6_set 24 = .ok (.iconst (-1), 1) := by decide +kernel
theorem dX6_set_25 : decode cX6_set 25 = .ok (.ireturn, 1) := by decide +kernel
theorem dX6_set_26 : decode cX6_set 26 = .ok (.aload_n 0, 1) := by decide +kernel
theorem dX6_set_27 : decode cX6_set 27 = .ok (.invokevirtual 92, 3) := by decide +kernel
theorem dX6_set_30 : decode cX6_set 30 = .ok (.aload_n 0, 1) := by decide +kernel
theorem dX6_set_31 : decode cX6_set 31 = .ok (.getfield 7, 3) := by decide +kernel
theorem dX6_set_34 : decode cX6_set 34 = .ok (.bipush 9, 2) := by decide +kernel
theorem dX6_set_36 : decode cX6_set 36 = .ok (.iload_n 1, 1) := by decide +kernel
theorem dX6_set_37 : decode cX6_set 37 = .ok (.iadd, 1) := by decide +kernel
theorem dX6_set_38 : decode cX6_set 38 = .ok (.iaload, 1) := by decide +kernel
theorem dX6_set_39 : decode cX6_set 39 = .ok (.istore_n 3, 1) := by decide +kernel
theorem dX6_set_40 : decode cX6_set 40 = .ok (.aload_n 0, 1) := by decide +kernel
theorem dX6_set_41 : decode cX6_set 41 = .ok (.getfield 7, 3) := by decide +kernel
theorem dX6_set_44 : decode cX6_set 44 = .ok (.bipush 9, 2) := by decide +kernel
theorem dX6_set_46 : decode cX6_set 46 = .ok (.iload_n 1, 1) := by decide +kernel
theorem dX6_set_47 : decode cX6_set 47 = .ok (.iadd, 1) := by decide +kernel
theorem dX6_set_48 : decode cX6_set 48 = .ok (.iload_n 2, 1) := by decide +kernel
theorem dX6_set_49 : decode cX6_set 49 = .ok (.iastore, 1) := by decide +kernel
theorem dX6_set_50 : decode cX6_set 50 = .ok (.aload_n 0, 1) := by decide +kernel
theorem dX6_set_51 : decode cX6_set 51 = .ok (.getfield 7, 3) := by decide +kernel
theorem dX6_set_54 : decode cX6_set 54 = .ok (.iconst 1, 1) := by decide +kernel
theorem dX6_set_55 : decode cX6_set 55 = .ok (.iaload, 1) := by decide +kernel
theorem dX6_set_56 : decode cX6_set 56 = .ok (.aload_n 0, 1) := by decide +kernel
theorem dX6_set_57 : decode cX6_set 57 = .ok (.getfield 7, 3) := by decide +kernel
theorem dX6_set_60 : decode cX6_set 60 = .ok (.bipush 9, 2) := by decide +kernel
theorem dX6_set_62 : decode cX6_set 62 = .ok (.iaload, 1) := by decide +kernel
theorem dX6_set_63 : decode cX6_set 63 = .ok (.if_icmp .le 10, 3) := by decide +kernel
theorem dX6_set_66 : decode cX6_set 66 = .ok (.aload_n 0, 1) := by decide +kernel
theorem dX6_set_67 : decode cX6_set 67 = .ok (.invokevirtual 69, 3) := by decide +kernel
theorem dX6_set_70 : decode cX6_set 70 = .ok (.goto (-20), 3) := by decide +kernel
theorem dX6_set_73 : decode cX6_set 73 = .ok (.iload_n 3, 1) := by decide +kernel
theorem dX6_set_74 : decode cX6_set 74 = .ok (.ireturn, 1) := by decide +kernel
set_option maxRecDepth 20000 in
theorem ggX6_append_X6_in : GoodIn wsX6_append wsX6_in := goodIn_r _ [6] (by decide +kernel) (by decide +kernel)
set_option maxRecDepth 20000 in
theorem gX6_append_X6_in : GoodIn wsX6_append (va_wsS RX6 40 yX6_in wsX6_in) := goodIn_app (goodIn_of _ (by decide +kernel)) ggX6_append_X6_in
theorem dX6_append_0 : decode cX6_append 0 = .ok (.iload_n 1, 1) := by decide +kernel
theorem dX6_append_1 : decode cX6_append 1 = .ok (.bipush 33, 2) := by decide +kernel
theorem dX6_append_3 : decode cX6_append 3 = .ok (.bipush 126, 2) := by decide +kernel
theorem dX6_append_5 : decode cX6_append 5 = .ok (.invokestatic 40, 3) := by decide +kernel
theorem dX6_append_8 : decode cX6_append 8 = .ok (.ifCond .ne 5, 3) := by decide +kernel
theorem dX6_append_11 : decode cX6_append 11 = .ok (.iconst (-1), 1) := by decide +kernel
theorem dX6_append_12 : decode cX6_append 12 = .ok (.ireturn, 1) := by decide +kernel
theorem dX6_append_13 : decode cX6_append 13 = .ok (.aload_n 0, 1) := by decide +kernel
theorem dX6_append_14 : decode cX6_append 14 = .ok (.getfield 125, 3) := by decide +kernel
theorem dX6_append_17 : decode cX6_append 17 = .ok (.bipush 60, 2) := by decide +kernel
theorem dX6_append_19 : decode cX6_append 19 = .ok (.if_icmp .ne 6, 3) := by decide +kernel
theorem dX6_append_22 : decode cX6_append 22 = .ok (.bipush (-3), 2) := by decide +kernel
theorem dX6_append_24 : decode cX6_append 24 = .ok (.ireturn, 1) := by decide +kernel
theorem dX6_append_25 : decode cX6_append 25 = .ok (.aload_n 0, 1) := by decide +kernel
theorem dX6_append_26 : decode cX6_append 26 = .ok (.getfield 22, 3) := by decide +kernel
theorem dX6_append_29 : decode cX6_append 29 = .ok (.aload_n 0, 1) := by decide +kernel
theorem dX6_append_30 : decode cX6_append 30 = .ok (.getfield 125, 3) := by decide +kernel
theorem dX6_append_33 : decode cX6_append 33 = .ok (.iload_n 1, 1) := by decide +kernel
theorem dX6_append_34 : decode cX6_append 34 = .ok (.iastore, 1) := by decide +kernel
theorem dX6_append_35 : decode cX6_append 35 = .ok (.aload_n 0, 1) := by decide +kernel
theorem dX6_append_36 : decode cX6_append 36 = .ok (.dup, 1) := by decide +kernel
theorem dX6_append_37 : decode cX6_append 37 = .ok (.getfield 125, 3) := by decide +kernel
theorem dX6_append_40 : decode cX6_append 40 = .ok (.iconst 1, 1) := by decide +kernel
theorem dX6_append_41 : decode cX6_append 41 = .ok (.iadd, 1) := by decide +kernel
theorem dX6_append_42 : decode cX6_append 42 = .ok (.putfield 125, 3) := by decide +kernel
theorem dX6_append_45 : decode cX6_append 45 = .ok (.aload_n 0, 1) := by decide +kernel
theorem dX6_append_46 : decode cX6_append 46 = .ok (.getfield 125, 3) := by decide +kernel
theorem dX6_append_49 : decode cX6_append 49 = .ok (.ireturn, 1) := by decide +kernel
theorem dX6_clear_0 : decode cX6_clear 0 = .ok (.aload_n 0, 1) := by decide +kernel
theorem dX6_clear_1 : decode cX6_clear 1 = .ok (.getfield 125, 3) := by decide +kernel
theorem dX6_clear_4 : decode cX6_clear 4 = .ok (.istore_n 1, 1) := by decide +kernel
theorem dX6_clear_5 : decode cX6_clear 5 = .ok (.aload_n 0, 1) := by decide +kernel
theorem dX6_clear_6 : decode cX6_clear 6 = .ok (.iconst 0, 1) := by decide +kernel
theorem dX6_clear_7 : decode cX6_clear 7 = .ok (.putfield 125, 3) := by decide +kernel
theorem dX6_clear_10 : decode cX6_clear 10 = .ok (.iload_n 1, 1) := by decide +kernel
theorem dX6_clear_11 : decode cX6_clear 11 = .ok (.ireturn, 1) := by decide +kernel
theorem dX6_here_0 : decode cX6_here 0 = .ok (.aload_n 0, 1) := by decide +kernel
theorem dX6_here_1 : decode cX6_here 1 = .ok (.getfield 128, 3) := by decide +kernel
theorem dX6_here_4 : decode cX6_here 4 = .ok (.aload_n 0, 1) := by decide +kernel
theorem dX6_here_5 : decode cX6_here 5 = .ok (.getfield 125, 3) := by decide +kernel
theorem dX6_here_8 : decode cX6_here 8 = .ok (.if_icmp .ge 15, 3) := by decide +kernel
theorem dX6_here_11 : decode cX6_here 11 = .ok (.aload_n 0, 1) := by decide +kernel
theorem dX6_here_12 : decode cX6_here 12 = .ok (.getfield 22, 3) := by decide +kernel
theorem dX6_here_15 : decode cX6_here 15 = .ok (.aload_n 0, 1) := by decide +kernel
theorem dX6_here_16 : decode cX6_here 16 = .ok (.getfield 128, 3) := by decide +kernel
theorem dX6_here_19 : decode cX6_here 19 = .ok (.iaload, 1) := by decide +kernel
theorem dX6_here_20 : decode cX6_here 20 = .ok (.goto 4, 3) := by decide +kernel
theorem dX6_here_23 : decode cX6_here 23 = .ok (.iconst 0, 1) := by decide +kernel
theorem dX6_here_24 : decode cX6_here 24 = .ok (.ireturn, 1) := by decide +kernel
theorem dX6_takes_0 : decode cX6_takes 0 = .ok (.aload_n 0, 1) := by decide +kernel
theorem dX6_takes_1 : decode cX6_takes 1 = .ok (.aload_n 0, 1) := by decide +kernel
theorem dX6_takes_2 : decode cX6_takes 2 = .ok (.getfield 131, 3) := by decide +kernel
theorem dX6_takes_5 : decode cX6_takes 5 = .ok (.ifCond .eq 11, 3) := by decide +kernel
theorem dX6_takes_8 : decode cX6_takes 8 = .ok (.iload_n 1, 1) := by decide +kernel
theorem dX6_takes_9 : decode cX6_takes 9 = .ok (.ifCond .eq 7, 3) := by decide +kernel
theorem dX6_takes_12 : decode cX6_takes 12 = .ok (.iconst 1, 1) := by decide +kernel
theorem dX6_takes_13 : decode cX6_takes 13 = .ok (.goto 4, 3) := by decide +kernel
theorem dX6_takes_16 : decode cX6_takes 16 = .ok (.iconst 0, 1) := by decide +kernel
theorem dX6_takes_17 : decode cX6_takes 17 = .ok (.putfield 131, 3) := by decide +kernel
theorem dX6_takes_20 : decode cX6_takes 20 = .ok (.aload_n 0, 1) := by decide +kernel
theorem dX6_takes_21 : decode cX6_takes 21 = .ok (.dup, 1) := by decide +kernel
theorem dX6_takes_22 : decode cX6_takes 22 = .ok (.getfield 128, 3) := by decide +kernel
theorem dX6_takes_25 : decode cX6_takes 25 = .ok (.aload_n 0, 1) := by decide +kernel
theorem dX6_takes_26 : decode cX6_takes 26 = .ok (.getfield 131, 3) := by decide +kernel
theorem dX6_takes_29 : decode cX6_takes 29 = .ok (.ifCond .eq 7, 3) := by decide +kernel
theorem dX6_takes_32 : decode cX6_takes 32 = .ok (.iconst 1, 1) := by decide +kernel
theorem dX6_takes_33 : decode cX6_takes 33 = .ok (.goto 4, 3) := by decide +kernel
theorem dX6_takes_36 : decode cX6_takes 36 = .ok (.iconst 0, 1) := by decide +kernel
theorem dX6_takes_37 : decode cX6_takes 37 = .ok (.iadd, 1) := by decide +kernel
theorem dX6_takes_38 : decode cX6_takes 38 = .ok (.putfield 128, 3) := by decide +kernel
theorem dX6_takes_41 : decode cX6_takes 41 = .ok (.return_, 1) := by decide +kernel
theorem dX6_canBegin_0 : decode cX6_canBegin 0 = .ok (.bipush 10, 2) := by decide +kernel
theorem dX6_canBegin_2 : decode cX6_canBegin 2 = .ok (.iload_n 0, 1) := by decide +kernel
theorem dX6_canBegin_3 : decode cX6_canBegin 3 = .ok (.imul, 1) := by decide +kernel
theorem dX6_canBegin_4 : decode cX6_canBegin 4 = .ok (.iload_n 1, 1) := by decide +kernel
theorem dX6_canBegin_5 : decode cX6_canBegin 5 = .ok (.if_icmp .le 10, 3) := by decide +kernel
theorem dX6_canBegin_8 : decode cX6_canBegin 8 = .ok (.bipush 10, 2) := by decide +kernel
theorem dX6_canBegin_10 : decode cX6_canBegin 10 = .ok (.iload_n 0, 1) := by decide +kernel
theorem dX6_canBegin_11 : decode cX6_canBegin 11 = .ok (.imul, 1) := by decide +kernel
theorem dX6_canBegin_12 : decode cX6_canBegin 12 = .ok (.goto 4, 3) := by decide +kernel
theorem dX6_canBegin_15 : decode cX6_canBegin 15 = .ok (.iload_n 1, 1) := by decide +kernel
theorem dX6_canBegin_16 : decode cX6_canBegin 16 = .ok (.istore_n 3, 1) := by decide +kernel
theorem dX6_canBegin_17 : decode cX6_canBegin 17 = .ok (.bipush 10, 2) := by decide +kernel
theorem dX6_canBegin_19 : decode cX6_canBegin 19 = .ok (.iload_n 0, 1) := by decide +kernel
theorem dX6_canBegin_20 : decode cX6_canBegin 20 = .ok (.imul, 1) := by decide +kernel
theorem dX6_canBegin_21 : decode cX6_canBegin 21 = .ok (.bipush 9, 2) := by decide +kernel
theorem dX6_canBegin_23 : decode cX6_canBegin 23 = .ok (.iadd, 1) := by decide +kernel
theorem dX6_canBegin_24 : decode cX6_canBegin 24 = .ok (.iload_n 2, 1) := by decide +kernel
theorem dX6_canBegin_25 : decode cX6_canBegin 25 = .ok (.if_icmp .ge 13, 3) := by decide +kernel
theorem dX6_canBegin_28 : decode cX6_canBegin 28 = .ok (.bipush 10, 2) := by decide +kernel
theorem dX6_canBegin_30 : decode cX6_canBegin 30 = .ok (.iload_n 0, 1) := by decide +kernel
theorem dX6_canBegin_31 : decode cX6_canBegin 31 = .ok (.imul, 1) := by decide +kernel
theorem dX6_canBegin_32 : decode cX6_canBegin 32 = .ok (.bipush 9, 2) := by decide +kernel
theorem dX6_canBegin_34 : decode cX6_canBegin 34 = .ok (.iadd, 1) := by decide +kernel
theorem dX6_canBegin_35 : decode cX6_canBegin 35 = .ok (.goto 4, 3) := by decide +kernel
theorem dX6_canBegin_38 : decode cX6_canBegin 38 = .ok (.iload_n 2, 1) := by decide +kernel
theorem dX6_canBegin_39 : decode cX6_canBegin 39 = .ok (.istore 4, 2) := by decide +kernel
theorem dX6_canBegin_41 : decode cX6_canBegin 41 = .ok (.iload_n 0, 1) := by decide +kernel
theorem dX6_canBegin_42 : decode cX6_canBegin 42 = .ok (.ifCond .le 13, 3) := by decide +kernel
theorem dX6_canBegin_45 : decode cX6_canBegin 45 = .ok (.iload_n 3, 1) := by decide +kernel
theorem dX6_canBegin_46 : decode cX6_canBegin 46 = .ok (.iload 4, 2) := by decide +kernel
theorem dX6_canBegin_48 : decode cX6_canBegin 48 = .ok (.if_icmp .gt 7, 3) := by decide +kernel
theorem dX6_canBegin_51 : decode cX6_canBegin 51 = .ok (.iconst 1, 1) := by decide +kernel
theorem dX6_canBegin_52 : decode cX6_canBegin 52 = .ok (.goto 4, 3) := by decide +kernel
theorem dX6_canBegin_55 : decode cX6_canBegin 55 = .ok (.iconst 0, 1) := by decide +kernel
theorem dX6_canBegin_56 : decode cX6_canBegin 56 = .ok (.ireturn, 1) := by decide +kernel
set_option maxRecDepth 20000 in
theorem ggX6_takesNumber_X6_here : GoodIn wsX6_takesNumber wsX6_here := goodIn_r _ [7, 2, 8, 9, 20, 21, 22, 23, 24, 25, 26, 27, 28, 29, 30, 31, 32, 33, 34, 35, 36] (by decide +kernel) (by decide +kernel)
set_option maxRecDepth 20000 in
theorem gX6_takesNumber_X6_here : GoodIn wsX6_takesNumber (wsV RX6 135 RX6 yX6_here wsX6_here) := goodIn_app (goodIn_of _ (by decide +kernel)) ggX6_takesNumber_X6_here
set_option maxRecDepth 20000 in
theorem ggX6_takesNumber_X6_in : GoodIn wsX6_takesNumber wsX6_in := goodIn_r _ [12] (by decide +kernel) (by decide +kernel)
set_option maxRecDepth 20000 in
theorem gX6_takesNumber_X6_in : GoodIn wsX6_takesNumber (va_wsS RX6 40 yX6_in wsX6_in) := goodIn_app (goodIn_of _ (by decide +kernel)) ggX6_takesNumber_X6_in
set_option maxRecDepth 20000 in
theorem ggX6_takesNumber_X6_canBegin : GoodIn wsX6_takesNumber wsX6_canBegin := goodIn_r _ [15] (by decide +kernel) (by decide +kernel)
set_option maxRecDepth 20000 in
theorem gX6_takesNumber_X6_canBegin : GoodIn wsX6_takesNumber (va_wsS RX6 138 yX6_canBegin wsX6_canBegin) := goodIn_app (goodIn_of _ (by decide +kernel)) ggX6_takesNumber_X6_canBegin
set_option maxRecDepth 20000 in
theorem ggX6_takesNumber_X6_takes : GoodIn wsX6_takesNumber wsX6_takes := goodIn_r _ [19, 1, 2, 20, 21, 22, 23, 24, 25, 26, 27, 28, 29, 30, 31, 32, 33, 34, 35, 36] (by decide +kernel) (by decide +kernel)
set_option maxRecDepth 20000 in
theorem gX6_takesNumber_X6_takes : GoodIn wsX6_takesNumber (wsV RX6 141 RX6 yX6_takes wsX6_takes) := goodIn_app (goodIn_of _ (by decide +kernel)) ggX6_takesNumber_X6_takes
theorem dX6_takesNumber_0 : decode cX6_takesNumber 0 = .ok (.aload_n 0, 1) := by decide +kernel
theorem dX6_takesNumber_1 : decode cX6_takesNumber 1 = .ok (.invokevirtual 135, 3) := by decide +kernel
theorem dX6_takesNumber_4 : decode cX6_takesNumber 4 = .ok (.bipush 48, 2) := by decide +kernel
theorem dX6_takesNumber_6 : decode cX6_takesNumber 6 = .ok (.isub, 1) := by decide +kernel
theorem dX6_takesNumber_7 : decode cX6_takesNumber 7 = .ok (.istore_n 3, 1) := by decide +kernel
theorem dX6_takesNumber_8 : decode cX6_takesNumber 8 = .ok (.aload_n 0, 1) := by decide +kernel
theorem dX6_takesNumber_9 : decode cX6_takesNumber 9 = .ok (.iload_n 3, 1) := by decide +kernel
theorem dX6_takesNumber_10 : decode cX6_takesNumber 10 = .ok (.iconst 0, 1) := by decide +kernel
theorem dX6_takesNumber_11 : decode cX6_takesNumber 11 = .ok (.bipush 9, 2) := by decide +kernel
theorem dX6_takesNumber_13 : decode cX6_takesNumber 13 = .ok (.invokestatic 40, 3) := by decide +kernel
theorem dX6_takesNumber_16 : decode cX6_takesNumber 16 = .ok (.ifCond .eq 25, 3) := by decide +kernel
theorem dX6_takesNumber_19 : decode cX6_takesNumber 19 = .ok (.iload_n 3, 1) := by decide +kernel
theorem dX6_takesNumber_20 : decode cX6_takesNumber 20 = .ok (.iload_n 1, 1) := by decide +kernel
theorem dX6_takesNumber_21 : decode cX6_takesNumber 21 = .ok (.iload_n 2, 1) := by decide +kernel
theorem dX6_takesNumber_22 : decode cX6_takesNumber 22 = .ok (.invokestatic 40, 3) := by decide +kernel
theorem dX6_takesNumber_25 : decode cX6_takesNumber 25 = .ok (.ifCond .ne 12, 3) := by decide +kernel
theorem dX6_takesNumber_28 : decode cX6_takesNumber 28 = .ok (.iload_n 3, 1) := by decide +kernel
theorem dX6_takesNumber_29 : decode cX6_takesNumber 29 = .ok (.iload_n 1, 1) := by decide +kernel
theorem dX6_takesNumber_30 : decode cX6_takesNumber 30 = .ok (.iload_n 2, 1) := by decide +kernel
theorem dX6_takesNumber_31 : decode cX6_takesNumber 31 = .ok (.invokestatic 138, 3) := by decide +kernel
theorem dX6_takesNumber_34 : decode cX6_takesNumber 34 = .ok (.ifCond .eq 7, 3) := by decide +kernel
theorem dX6_takesNumber_37 : decode cX6_takesNumber 37 = .ok (.iconst 1, 1) := by decide +kernel
theorem dX6_takesNumber_38 : decode cX6_takesNumber 38 = .ok (.goto 4, 3) := by decide +kernel
theorem dX6_takesNumber_41 : decode cX6_takesNumber 41 = .ok (.iconst 0, 1) := by decide +kernel
theorem dX6_takesNumber_42 : decode cX6_takesNumber 42 = .ok (.invokevirtual 141, 3) := by decide +kernel
theorem dX6_takesNumber_45 : decode cX6_takesNumber 45 = .ok (.bipush 10, 2) := by decide +kernel
theorem dX6_takesNumber_47 : decode cX6_takesNumber 47 = .ok (.iload_n 3, 1) := by decide +kernel
theorem dX6_takesNumber_48 : decode cX6_takesNumber 48 = .ok (.imul, 1) := by decide +kernel
theorem dX6_takesNumber_49 : decode cX6_takesNumber 49 = .ok (.aload_n 0, 1) := by decide +kernel
theorem dX6_takesNumber_50 : decode cX6_takesNumber 50 = .ok (.invokevirtual 135, 3) := by decide +kernel
theorem dX6_takesNumber_53 : decode cX6_takesNumber 53 = .ok (.iadd, 1) := by decide +kernel
theorem dX6_takesNumber_54 : decode cX6_takesNumber 54 = .ok (.bipush 48, 2) := by decide +kernel
theorem dX6_takesNumber_56 : decode cX6_takesNumber 56 = .ok (.isub, 1) := by decide +kernel
theorem dX6_takesNumber_57 : decode cX6_takesNumber 57 = .ok (.istore 4, 2) := by decide +kernel
theorem dX6_takesNumber_59 : decode cX6_takesNumber 59 = .ok (.aload_n 0, 1) := by decide +kernel
theorem dX6_takesNumber_60 : decode cX6_takesNumber 60 = .ok (.getfield 131, 3) := by decide +kernel
theorem dX6_takesNumber_63 : decode cX6_takesNumber 63 = .ok (.ifCond .eq 44, 3) := by decide +kernel
theorem dX6_takesNumber_66 : decode cX6_takesNumber 66 = .ok (.iload_n 3, 1) := by decide +kernel
theorem dX6_takesNumber_67 : decode cX6_takesNumber 67 = .ok (.ifCond .le 40, 3) := by decide +kernel
theorem dX6_takesNumber_70 : decode cX6_takesNumber 70 = .ok (.aload_n 0, 1) := by decide +kernel
theorem dX6_takesNumber_71 : decode cX6_takesNumber 71 = .ok (.invokevirtual 135, 3) := by decide +kernel
theorem dX6_takesNumber_74 : decode cX6_takesNumber 74 = .ok (.bipush 48, 2) := by decide +kernel
theorem dX6_takesNumber_76 : decode cX6_takesNumber 76 = .ok (.bipush 57, 2) := by decide +kernel
theorem dX6_takesNumber_78 : decode cX6_takesNumber 78 = .ok (.invokestatic 40, 3) := by decide +kernel
theorem dX6_takesNumber_81 : decode cX6_takesNumber 81 = .ok (.ifCond .eq 26, 3) := by decide +kernel
theorem dX6_takesNumber_84 : decode cX6_takesNumber 84 = .ok (.iload 4, 2) := by decide +kernel
theorem dX6_takesNumber_86 : decode cX6_takesNumber 86 = .ok (.iload_n 1, 1) := by decide +kernel
theorem dX6_takesNumber_87 : decode cX6_takesNumber 87 = .ok (.iload_n 2, 1) := by decide +kernel
theorem dX6_takesNumber_88 : decode cX6_takesNumber 88 = .ok (.invokestatic 40, 3) := by decide +kernel
theorem dX6_takesNumber_91 : decode cX6_takesNumber 91 = .ok (.ifCond .eq 16, 3) := by decide +kernel
theorem dX6_takesNumber_94 : decode cX6_takesNumber 94 = .ok (.aload_n 0, 1) := by decide +kernel
theorem dX6_takesNumber_95 : decode cX6_takesNumber 95 = .ok (.dup, 1) := by decide +kernel
theorem dX6_takesNumber_96 : decode cX6_takesNumber 96 = .ok (.getfield 128, 3) := by decide +kernel
theorem dX6_takesNumber_99 : decode cX6_takesNumber 99 = .ok (.iconst 1, 1) := by decide +kernel
theorem dX6_takesNumber_100 : decode cX6_takesNumber 100 = .ok (.iadd, 1) := by decide +kernel
theorem dX6_takesNumber_101 : decode cX6_takesNumber 101 = .ok (.putfield 128, 3) := by decide +kernel
theorem dX6_takesNumber_104 : decode cX6_takesNumber 104 = .ok (.iload 4, 2) := by decide +kernel
theorem dX6_takesNumber_106 : decode cX6_takesNumber 106 = .ok (.ireturn, 1) := by decide +kernel
theorem dX6_takesNumber_107 : decode cX6_takesNumber 107 = .ok (.aload_n 0, 1) := by decide +kernel
theorem dX6_takesNumber_108 : decode cX6_takesNumber 108 = .ok (.aload_n 0, 1) := by decide +kernel
theorem dX6_takesNumber_109 : decode cX6_takesNumber 109 = .ok (.getfield 131, 3) := by decide +kernel
theorem dX6_takesNumber_112 : decode cX6_takesNumber 112 = .ok (.ifCond .eq 12, 3) := by decide +kernel
theorem dX6_takesNumber_115 : decode cX6_takesNumber 115 = .ok (.iload_n 3, 1) := by decide +kernel
theorem dX6_takesNumber_116 : decode cX6_takesNumber 116 = .ok (.iload_n 1, 1) := by decide +kernel
theorem dX6_takesNumber_117 : decode cX6_takesNumber 117 = .ok (.if_icmp .lt 7, 3) := by decide +kernel
theorem dX6_takesNumber_120 : decode cX6_takesNumber 120 = .ok (.iconst 1, 1) := by decide +kernel
theorem dX6_takesNumber_121 : decode cX6_takesNumber 121 = .ok (.goto 4, 3) := by decide +kernel
theorem dX6_takesNumber_124 : decode cX6_takesNumber 124 = .ok (.iconst 0, 1) := by decide +kernel
theorem dX6_takesNumber_125 : decode cX6_takesNumber 125 = .ok (.putfield 131, 3) := by decide +kernel
theorem dX6_takesNumber_128 : decode cX6_takesNumber 128 = .ok (.iload_n 3, 1) := by decide +kernel
theorem dX6_takesNumber_129 : decode cX6_takesNumber 129 = .ok (.ireturn, 1) := by decide +kernel
set_option maxRecDepth 20000 in
theorem ggX6_takesRange_X6_takesNumber : GoodIn wsX6_takesRange wsX6_takesNumber := goodIn_r _ [6, 7, 8, 9, 10, 11, 5, 12, 13, 14, 15, 16, 17, 18, 19, 20, 21, 22, 23, 24, 25, 26, 27, 28, 29, 30, 31, 32, 33, 34, 35, 36, 37, 38, 39, 40, 41] (by decide +kernel) (by decide +kernel)
set_option maxRecDepth 20000 in
theorem gX6_takesRange_X6_takesNumber : GoodIn wsX6_takesRange (wsV RX6 145 RX6 yX6_takesNumber wsX6_takesNumber) := goodIn_app (goodIn_of _ (by decide +kernel)) ggX6_takesRange_X6_takesNumber
set_option maxRecDepth 20000 in
theorem ggX6_takesRange_X6_here : GoodIn wsX6_takesRange wsX6_here := goodIn_r _ [12, 8, 13, 14, 25, 26, 27, 28, 29, 30, 31, 32, 33, 34, 35, 36, 37, 38, 39, 40, 41] (by decide +kernel) (by decide +kernel)
set_option maxRecDepth 20000 in
theorem gX6_takesRange_X6_here : GoodIn wsX6_takesRange (wsV RX6 135 RX6 yX6_here wsX6_here) := goodIn_app (goodIn_of _ (by decide +kernel)) ggX6_takesRange_X6_here
set_option maxRecDepth 20000 in
theorem ggX6_takesRange_X6_takes : GoodIn wsX6_takesRange wsX6_takes := goodIn_r _ [24, 7, 8, 25, 26, 27, 28, 29, 30, 31, 32, 33, 34, 35, 36, 37, 38, 39, 40, 41] (by decide +kernel) (by decide +kernel)
set_option maxRecDepth 20000 in
theorem gX6_takesRange_X6_takes : GoodIn wsX6_takesRange (wsV RX6 141 RX6 yX6_takes wsX6_takes) := goodIn_app (goodIn_of _ (by decide +kernel)) ggX6_takesRange_X6_takes
theorem dX6_takesRange_0 : decode cX6_takesRange 0 = .ok (.aload_n 0, 1) := by decide +kernel
theorem dX6_takesRange_1 : decode cX6_takesRange 1 = .ok (.getfield 29, 3) := by decide +kernel
theorem dX6_takesRange_4 : decode cX6_takesRange 4 = .ok (.iload_n 1, 1) := by decide +kernel
theorem dX6_takesRange_5 : decode cX6_takesRange 5 = .ok (.aload_n 0, 1) := by decide +kernel
theorem dX6_takesRange_6 : decode cX6_takesRange 6 = .ok (.iload_n 2, 1) := by decide +kernel
theorem dX6_takesRange_7 : decode cX6_takesRange 7 = .ok (.iload_n 3, 1) := by decide +kernel
theorem dX6_takesRange_8 : decode cX6_takesRange 8 = .ok (.invokevirtual 145, 3) := by decide +kernel
theorem dX6_takesRange_11 : decode cX6_takesRange 11 = .ok (.iastore, 1) := by decide +kernel
theorem dX6_takesRange_12 : decode cX6_takesRange 12 = .ok (.aload_n 0, 1) := by decide +kernel
theorem dX6_takesRange_13 : decode cX6_takesRange 13 = .ok (.aload_n 0, 1) := by decide +kernel
theorem dX6_takesRange_14 : decode cX6_takesRange 14 = .ok (.invokevirtual 135, 3) := by decide +kernel
theorem dX6_takesRange_17 : decode cX6_takesRange 17 = .ok (.bipush 45, 2) := by decide +kernel
theorem dX6_takesRange_19 : decode cX6_takesRange 19 = .ok (.if_icmp .ne 7, 3) := by decide +kernel
theorem dX6_takesRange_22 : decode cX6_takesRange 22 = .ok (.iconst 1, 1) := by decide +kernel
theorem dX6_takesRange_23 : decode cX6_takesRange 23 = .ok (.goto 4, 3) := by decide +kernel
theorem dX6_takesRange_26 : decode cX6_takesRange 26 = .ok (.iconst 0, 1) := by decide +kernel
theorem dX6_takesRange_27 : decode cX6_takesRange 27 = .ok (.invokevirtual 141, 3) := by decide +kernel
theorem dX6_takesRange_30 : decode cX6_takesRange 30 = .ok (.aload_n 0, 1) := by decide +kernel
theorem dX6_takesRange_31 : decode cX6_takesRange 31 = .ok (.getfield 29, 3) := by decide +kernel
theorem dX6_takesRange_34 : decode cX6_takesRange 34 = .ok (.iload_n 1, 1) := by decide +kernel
theorem dX6_takesRange_35 : decode cX6_takesRange 35 = .ok (.iconst 1, 1) := by decide +kernel
theorem dX6_takesRange_36 : decode cX6_takesRange 36 = .ok (.iadd, 1) := by decide +kernel
theorem dX6_takesRange_37 : decode cX6_takesRange 37 = .ok (.aload_n 0, 1) := by decide +kernel
theorem dX6_takesRange_38 : decode cX6_takesRange 38 = .ok (.aload_n 0, 1) := by decide +kernel
theorem dX6_takesRange_39 : decode cX6_takesRange 39 = .ok (.getfield 29, 3) := by decide +kernel
theorem dX6_takesRange_42 : decode cX6_takesRange 42 = .ok (.iload_n 1, 1) := by decide +kernel
theorem dX6_takesRange_43 : decode cX6_takesRange 43 = .ok (.iaload, 1) := by decide +kernel
theorem dX6_takesRange_44 : decode cX6_takesRange 44 = .ok (.iload_n 3, 1) := by decide +kernel
theorem dX6_takesRange_45 : decode cX6_takesRange 45 = .ok (.invokevirtual 145, 3) := by decide +kernel
theorem dX6_takesRange_48 : decode cX6_takesRange 48 = .ok (.iastore, 1) := by decide +kernel
theorem dX6_takesRange_49 : decode cX6_takesRange 49 = .ok (.aload_n 0, 1) := by decide +kernel
theorem dX6_takesRange_50 : decode cX6_takesRange 50 = .ok (.aload_n 0, 1) := by decide +kernel
theorem dX6_takesRange_51 : decode cX6_takesRange 51 = .ok (.invokevirtual 135, 3) := by decide +kernel
theorem dX6_takesRange_54 : decode cX6_takesRange 54 = .ok (.bipush 44, 2) := by decide +kernel
theorem dX6_takesRange_56 : decode cX6_takesRange 56 = .ok (.if_icmp .ne 7, 3) := by decide +kernel
theorem dX6_takesRange_59 : decode cX6_takesRange 59 = .ok (.iconst 1, 1) := by decide +kernel
theorem dX6_takesRange_60 : decode cX6_takesRange 60 = .ok (.goto 4, 3) := by decide +kernel
theorem dX6_takesRange_63 : decode cX6_takesRange 63 = .ok (.iconst 0, 1) := by decide +kernel
theorem dX6_takesRange_64 : decode cX6_takesRange 64 = .ok (.invokevirtual 141, 3) := by decide +kernel
theorem dX6_takesRange_67 : decode cX6_takesRange 67 = .ok (.return_, 1) := by decide +kernel
set_option maxRecDepth 20000 in
theorem ggX6_takesMark_X6_here : GoodIn wsX6_takesMark wsX6_here := goodIn_r _ [7, 2, 8, 9, 24, 25, 26, 27, 28, 29, 30, 31, 32, 33, 34, 35, 36, 37, 38, 39, 40] (by decide +kernel) (by decide +kernel)
set_option maxRecDepth 20000 in
theorem gX6_takesMark_X6_here : GoodIn wsX6_takesMark (wsV RX6 135 RX6 yX6_here wsX6_here) := goodIn_app (goodIn_of _ (by decide +kernel)) ggX6_takesMark_X6_here
set_option maxRecDepth 20000 in
theorem ggX6_takesMark_X6_takesNumber : GoodIn wsX6_takesMark wsX6_takesNumber := goodIn_r _ [13, 1, 2, 3, 4, 5, 6, 7, 8, 9, 14, 15, 16, 17, 18, 19, 20, 21, 22, 23, 24, 25, 26, 27, 28, 29, 30, 31, 32, 33, 34, 35, 36, 37, 38, 39, 40] (by decide +kernel) (by decide +kernel)
set_option maxRecDepth 20000 in
theorem gX6_takesMark_X6_takesNumber : GoodIn wsX6_takesMark (wsV RX6 145 RX6 yX6_takesNumber wsX6_takesNumber) := goodIn_app (goodIn_of _ (by decide +kernel)) ggX6_takesMark_X6_takesNumber
theorem dX6_takesMark_0 : decode cX6_takesMark 0 = .ok (.aload_n 0, 1) := by decide +kernel
theorem dX6_takesMark_1 : decode cX6_takesMark 1 = .ok (.getfield 131, 3) := by decide +kernel
theorem dX6_takesMark_4 : decode cX6_takesMark 4 = .ok (.ifCond .eq 11, 3) := by decide +kernel
theorem dX6_takesMark_7 : decode cX6_takesMark 7 = .ok (.aload_n 0, 1) := by decide +kernel
theorem dX6_takesMark_8 : decode cX6_takesMark 8 = .ok (.invokevirtual 135, 3) := by decide +kernel
theorem dX6_takesMark_11 : decode cX6_takesMark 11 = .ok (.iload_n 1, 1) := by decide +kernel
theorem dX6_takesMark_12 : decode cX6_takesMark 12 = .ok (.if_icmp .eq 5, 3) := by decide +kernel
theorem dX6_takesMark_15 : decode cX6_takesMark 15 = .ok (.iconst 0, 1) := by decide +kernel
theorem dX6_takesMark_16 : decode cX6_takesMark 16 = .ok (.ireturn, 1) := by decide +kernel
theorem dX6_takesMark_17 : decode cX6_takesMark 17 = .ok (.aload_n 0, 1) := by decide +kernel
theorem dX6_takesMark_18 : decode cX6_takesMark 18 = .ok (.dup, 1) := by decide +kernel
theorem dX6_takesMark_19 : decode cX6_takesMark 19 = .ok (.getfield 128, 3) := by decide +kernel
theorem dX6_takesMark_22 : decode cX6_takesMark 22 = .ok (.iconst 1, 1) := by decide +kernel
theorem dX6_takesMark_23 : decode cX6_takesMark 23 = .ok (.iadd, 1) := by decide +kernel
theorem dX6_takesMark_24 : decode cX6_takesMark 24 = .ok (.putfield 128, 3) := by decide +kernel
theorem dX6_takesMark_27 : decode cX6_takesMark 27 = .ok (.aload_n 0, 1) := by decide +kernel
theorem dX6_takesMark_28 : decode cX6_takesMark 28 = .ok (.iconst 1, 1) := by decide +kernel
theorem dX6_takesMark_29 : decode cX6_takesMark 29 = .ok (.iload_n 2, 1) := by decide +kernel
theorem dX6_takesMark_30 : decode cX6_takesMark 30 = .ok (.invokevirtual 145, 3) := by decide +kernel
theorem dX6_takesMark_33 : decode cX6_takesMark 33 = .ok (.ireturn, 1) := by decide +kernel
set_option maxRecDepth 20000 in
theorem ggX6_takesZone_X6_takesRange : GoodIn wsX6_takesZone wsX6_takesRange := goodIn_r _ [7, 2, 8, 9, 10, 6, 11, 12, 13, 14, 15, 16, 17, 18, 19, 20, 21, 22, 23, 24, 25, 26, 27, 28, 29, 34, 35, 36, 37, 38, 39, 40, 41, 42, 43, 44, 45, 46, 47, 48, 49, 50] (by decide +kernel) (by decide +kernel)
set_option maxRecDepth 20000 in
theorem gX6_takesZone_X6_takesRange : GoodIn wsX6_takesZone (wsV RX6 151 RX6 yX6_takesRange wsX6_takesRange) := goodIn_app (goodIn_of _ (by decide +kernel)) ggX6_takesZone_X6_takesRange
set_option maxRecDepth 20000 in
theorem ggX6_takesZone_X6_takesNumber : GoodIn wsX6_takesZone wsX6_takesNumber := goodIn_r _ [11, 12, 13, 14, 15, 16, 6, 17, 18, 19, 20, 21, 22, 23, 24, 25, 26, 27, 28, 29, 34, 35, 36, 37, 38, 39, 40, 41, 42, 43, 44, 45, 46, 47, 48, 49, 50] (by decide +kernel) (by decide +kernel)
set_option maxRecDepth 20000 in
theorem gX6_takesZone_X6_takesNumber : GoodIn wsX6_takesZone (wsV RX6 145 RX6 yX6_takesNumber wsX6_takesNumber) := goodIn_app (goodIn_of _ (by decide +kernel)) ggX6_takesZone_X6_takesNumber
set_option maxRecDepth 20000 in
theorem ggX6_takesZone_X6_takesMark : GoodIn wsX6_takesZone wsX6_takesMark := goodIn_r _ [33, 12, 13, 14, 15, 16, 6, 17, 18, 19, 8, 9, 10, 11, 20, 21, 22, 23, 24, 25, 26, 27, 28, 29, 34, 35, 36, 37, 38, 39, 40, 41, 42, 43, 44, 45, 46, 47, 48, 49, 50] (by decide +kernel) (by decide +kernel)
set_option maxRecDepth 20000 in
theorem gX6_takesZone_X6_takesMark : GoodIn wsX6_takesZone (wsV RX6 154 RX6 yX6_takesMark wsX6_takesMark) := goodIn_app (goodIn_of _ (by decide +kernel)) ggX6_takesZone_X6_takesMark
theorem dX6_takesZone_0 : decode cX6_takesZone 0 = .ok (.bipush 7, 2) := by decide +kernel
theorem dX6_takesZone_2 : decode cX6_takesZone 2 = .ok (.aload_n 0, 1) := by decide +kernel
theorem dX6_takesZone_3 : decode cX6_takesZone 3 = .ok (.getfield 148, 3) := by decide +kernel
theorem dX6_takesZone_6 : decode cX6_takesZone 6 = .ok (.imul, 1) := by decide +kernel
theorem dX6_takesZone_7 : decode cX6_takesZone 7 = .ok (.istore_n 1, 1) := by decide +kernel
theorem dX6_takesZone_8 : decode cX6_takesZone 8 = .ok (.aload_n 0, 1) := by decide +kernel
theorem dX6_takesZone_9 : decode cX6_takesZone 9 = .ok (.iload_n 1, 1) := by decide +kernel
theorem dX6_takesZone_10 : decode cX6_takesZone 10 = .ok (.iconst 0, 1) := by decide +kernel
theorem dX6_takesZone_11 : decode cX6_takesZone 11 = .ok (.iadd, 1) := by decide +kernel
theorem dX6_takesZone_12 : decode cX6_takesZone 12 = .ok (.iconst 0, 1) := by decide +kernel
theorem dX6_takesZone_13 : decode cX6_takesZone 13 = .ok (.bipush 35, 2) := by decide +kernel
theorem dX6_takesZone_15 : decode cX6_takesZone 15 = .ok (.invokevirtual 151, 3) := by decide +kernel
theorem dX6_takesZone_18 : decode cX6_takesZone 18 = .ok (.aload_n 0, 1) := by decide +kernel
theorem dX6_takesZone_19 : decode cX6_takesZone 19 = .ok (.iload_n 1, 1) := by decide +kernel
theorem dX6_takesZone_20 : decode cX6_takesZone 20 = .ok (.iconst 2, 1) := by decide +kernel
theorem dX6_takesZone_21 : decode cX6_takesZone 21 = .ok (.iadd, 1) := by decide +kernel
theorem dX6_takesZone_22 : decode cX6_takesZone 22 = .ok (.iconst 1, 1) := by decide +kernel
theorem dX6_takesZone_23 : decode cX6_takesZone 23 = .ok (.bipush 9, 2) := by decide +kernel
theorem dX6_takesZone_25 : decode cX6_takesZone 25 = .ok (.invokevirtual 151, 3) := by decide +kernel
theorem dX6_takesZone_28 : decode cX6_takesZone 28 = .ok (.aload_n 0, 1) := by decide +kernel
theorem dX6_takesZone_29 : decode cX6_takesZone 29 = .ok (.getfield 29, 3) := by decide +kernel
theorem dX6_takesZone_32 : decode cX6_takesZone 32 = .ok (.iload_n 1, 1) := by decide +kernel
theorem dX6_takesZone_33 : decode cX6_takesZone 33 = .ok (.bipush 6, 2) := by decide +kernel
theorem dX6_takesZone_35 : decode cX6_takesZone 35 = .ok (.iadd, 1) := by decide +kernel
theorem dX6_takesZone_36 : decode cX6_takesZone 36 = .ok (.aload_n 0, 1) := by decide +kernel
theorem dX6_takesZone_37 : decode cX6_takesZone 37 = .ok (.iconst 1, 1) := by decide +kernel
theorem dX6_takesZone_38 : decode cX6_takesZone 38 = .ok (.bipush 60, 2) := by decide +kernel
theorem dX6_takesZone_40 : decode cX6_takesZone 40 = .ok (.invokevirtual 145, 3) := by decide +kernel
theorem dX6_takesZone_43 : decode cX6_takesZone 43 = .ok (.iastore, 1) := by decide +kernel
theorem dX6_takesZone_44 : decode cX6_takesZone 44 = .ok (.aload_n 0, 1) := by decide +kernel
theorem dX6_takesZone_45 : decode cX6_takesZone 45 = .ok (.getfield 29, 3) := by decide +kernel
theorem dX6_takesZone_48 : decode cX6_takesZone 48 = .ok (.iload_n 1, 1) := by decide +kernel
theorem dX6_takesZone_49 : decode cX6_takesZone 49 = .ok (.iconst 4, 1) := by decide +kernel
theorem dX6_takesZone_50 : decode cX6_takesZone 50 = .ok (.iadd, 1) := by decide +kernel
theorem dX6_takesZone_51 : decode cX6_takesZone 51 = .ok (.aload_n 0, 1) := by decide +kernel
theorem dX6_takesZone_52 : decode cX6_takesZone 52 = .ok (.bipush 103, 2) := by decide +kernel
theorem dX6_takesZone_54 : decode cX6_takesZone 54 = .ok (.iconst 3, 1) := by decide +kernel
theorem dX6_takesZone_55 : decode cX6_takesZone 55 = .ok (.invokevirtual 154, 3) := by decide +kernel
theorem dX6_takesZone_58 : decode cX6_takesZone 58 = .ok (.iastore, 1) := by decide +kernel
theorem dX6_takesZone_59 : decode cX6_takesZone 59 = .ok (.aload_n 0, 1) := by decide +kernel
theorem dX6_takesZone_60 : decode cX6_takesZone 60 = .ok (.getfield 29, 3) := by decide +kernel
theorem dX6_takesZone_63 : decode cX6_takesZone 63 = .ok (.iload_n 1, 1) := by decide +kernel
theorem dX6_takesZone_64 : decode cX6_takesZone 64 = .ok (.iconst 5, 1) := by decide +kernel
theorem dX6_takesZone_65 : decode cX6_takesZone 65 = .ok (.iadd, 1) := by decide +kernel
theorem dX6_takesZone_66 : decode cX6_takesZone 66 = .ok (.aload_n 0, 1) := by decide +kernel
theorem dX6_takesZone_67 : decode cX6_takesZone 67 = .ok (.bipush 114, 2) := by decide +kernel
theorem dX6_takesZone_69 : decode cX6_takesZone 69 = .ok (.iconst 4, 1) := by decide +kernel
theorem dX6_takesZone_70 : decode cX6_takesZone 70 = .ok (.invokevirtual 154, 3) := by decide +kernel
theorem dX6_takesZone_73 : decode cX6_takesZone 73 = .ok (.iastore, 1) := by decide +kernel
theorem dX6_takesZone_74 : decode cX6_takesZone 74 = .ok (.aload_n 0, 1) := by decide +kernel
theorem dX6_takesZone_75 : decode cX6_takesZone 75 = .ok (.dup, 1) := by decide +kernel
theorem dX6_takesZone_76 : decode cX6_takesZone 76 = .ok (.getfield 148, 3) := by decide +kernel
theorem dX6_takesZone_79 : decode cX6_takesZone 79 = .ok (.iconst 1, 1) := by decide +kernel
theorem dX6_takesZone_80 : decode cX6_takesZone 80 = .ok (.iadd, 1) := by decide +kernel
theorem dX6_takesZone_81 : decode cX6_takesZone 81 = .ok (.putfield 148, 3) := by decide +kernel
theorem dX6_takesZone_84 : decode cX6_takesZone 84 = .ok (.return_, 1) := by decide +kernel
set_option maxRecDepth 20000 in
theorem ggX6_areZones_X6_takesZone : GoodIn wsX6_areZones wsX6_takesZone := goodIn_r _ [9, 3, 10, 11, 12, 13, 8, 14, 15, 16, 17, 18, 2, 1, 19, 20, 21, 22, 4, 23, 24, 25, 26, 27, 28, 29, 30, 31, 32, 33, 34, 35, 36, 37, 38, 39, 40, 41, 42, 43, 44, 45, 46, 47, 48, 49, 50, 51, 52, 53, 54] (by decide +kernel) (by decide +kernel)
set_option maxRecDepth 20000 in
theorem gX6_areZones_X6_takesZone : GoodIn wsX6_areZones (wsV RX6 157 RX6 yX6_takesZone wsX6_takesZone) := goodIn_app (goodIn_of _ (by decide +kernel)) ggX6_areZones_X6_takesZone
set_option maxRecDepth 20000 in
theorem ggX6_areZones_X6_here : GoodIn wsX6_areZones wsX6_here := goodIn_r _ [22, 1, 4, 23, 38, 39, 40, 41, 42, 43, 44, 45, 46, 47, 48, 49, 50, 51, 52, 53, 54] (by decide +kernel) (by decide +kernel)
set_option maxRecDepth 20000 in
theorem gX6_areZones_X6_here : GoodIn wsX6_areZones (wsV RX6 135 RX6 yX6_here wsX6_here) := goodIn_app (goodIn_of _ (by decide +kernel)) ggX6_areZones_X6_here
set_option maxRecDepth 20000 in
theorem ggX6_areZones_X6_takes : GoodIn wsX6_areZones wsX6_takes := goodIn_r _ [33, 2, 1, 38, 39, 40, 41, 42, 43, 44, 45, 46, 47, 48, 49, 50, 51, 52, 53, 54] (by decide +kernel) (by decide +kernel)
set_option maxRecDepth 20000 in
theorem gX6_areZones_X6_takes : GoodIn wsX6_areZones (wsV RX6 141 RX6 yX6_takes wsX6_takes) := goodIn_app (goodIn_of _ (by decide +kernel)) ggX6_areZones_X6_takes
theorem dX6_areZones_0 : decode cX6_areZones 0 = .ok (.aload_n 0, 1) := by decide +kernel
theorem dX6_areZones_1 : decode cX6_areZones 1 = .ok (.iconst 0, 1) := by decide +kernel
theorem dX6_areZones_2 : decode cX6_areZones 2 = .ok (.putfield 128, 3) := by decide +kernel
theorem dX6_areZones_5 : decode cX6_areZones 5 = .ok (.aload_n 0, 1) := by decide +kernel
theorem dX6_areZones_6 : decode cX6_areZones 6 = .ok (.iconst 1, 1) := by decide +kernel
theorem dX6_areZones_7 : decode cX6_areZones 7 = .ok (.putfield 131, 3) := by decide +kernel
theorem dX6_areZones_10 : decode cX6_areZones 10 = .ok (.aload_n 0, 1) := by decide +kernel
theorem dX6_areZones_11 : decode cX6_areZones 11 = .ok (.iconst 0, 1) := by decide +kernel
theorem dX6_areZones_12 : decode cX6_areZones 12 = .ok (.putfield 148, 3) := by decide +kernel
theorem dX6_areZones_15 : decode cX6_areZones 15 = .ok (.aload_n 0, 1) := by decide +kernel
theorem dX6_areZones_16 : decode cX6_areZones 16 = .ok (.invokevirtual 157, 3) := by decide +kernel
theorem dX6_areZones_19 : decode cX6_areZones 19 = .ok (.aload_n 0, 1) := by decide +kernel
theorem dX6_areZones_20 : decode cX6_areZones 20 = .ok (.getfield 131, 3) := by decide +kernel
theorem dX6_areZones_23 : decode cX6_areZones 23 = .ok (.ifCond .eq 46, 3) := by decide +kernel
theorem dX6_areZones_26 : decode cX6_areZones 26 = .ok (.aload_n 0, 1) := by decide +kernel
theorem dX6_areZones_27 : decode cX6_areZones 27 = .ok (.getfield 128, 3) := by decide +kernel
theorem dX6_areZones_30 : decode cX6_areZones 30 = .ok (.aload_n 0, 1) := by decide +kernel
theorem dX6_areZones_31 : decode cX6_areZones 31 = .ok (.getfield 125, 3) := by decide +kernel
theorem dX6_areZones_34 : decode cX6_areZones 34 = .ok (.if_icmp .ge 35, 3) := by decide +kernel
theorem dX6_areZones_37 : decode cX6_areZones 37 = .ok (.aload_n 0, 1) := by decide +kernel
theorem dX6_areZones_38 : decode cX6_areZones 38 = .ok (.aload_n 0, 1) := by decide +kernel
theorem dX6_areZones_39 : decode cX6_areZones 39 = .ok (.invokevirtual 135, 3) := by decide +kernel
theorem dX6_areZones_42 : decode cX6_areZones 42 = .ok (.bipush 59, 2) := by decide +kernel
theorem dX6_areZones_44 : decode cX6_areZones 44 = .ok (.if_icmp .ne 7, 3) := by decide +kernel
theorem dX6_areZones_47 : decode cX6_areZones 47 = .ok (.iconst 1, 1) := by decide +kernel
theorem dX6_areZones_48 : decode cX6_areZones 48 = .ok (.goto 4, 3) := by decide +kernel
theorem dX6_areZones_51 : decode cX6_areZones 51 = .ok (.iconst 0, 1) := by decide +kernel
theorem dX6_areZones_52 : decode cX6_areZones 52 = .ok (.invokevirtual 141, 3) := by decide +kernel
theorem dX6_areZones_55 : decode cX6_areZones 55 = .ok (.aload_n 0, 1) := by decide +kernel
theorem dX6_areZones_56 : decode cX6_areZones 56 = .ok (.getfield 131, 3) := by decide +kernel
theorem dX6_areZones_59 : decode cX6_areZones 59 = .ok (.ifCond .eq (-40), 3) := by decide +kernel
theorem dX6_areZones_62 : decode cX6_areZones 62 = .ok (.aload_n 0, 1) := by decide +kernel
theorem dX6_areZones_63 : decode cX6_areZones 63 = .ok (.invokevirtual 157, 3) := by decide +kernel
theorem dX6_areZones_66 : decode cX6_areZones 66 = .ok (.goto (-47), 3) := by decide +kernel
theorem dX6_areZones_69 : decode cX6_areZones 69 = .ok (.aload_n 0, 1) := by decide +kernel
theorem dX6_areZones_70 : decode cX6_areZones 70 = .ok (.getfield 131, 3) := by decide +kernel
theorem dX6_areZones_73 : decode cX6_areZones 73 = .ok (.ireturn, 1) := by decide +kernel
set_option maxRecDepth 20000 in
theorem ggX6_takesDeed_X6_here : GoodIn wsX6_takesDeed wsX6_here := goodIn_r _ [8, 9, 10, 11, 27, 28, 29, 30, 31, 32, 33, 34, 35, 36, 37, 38, 39, 40, 41, 42, 43] (by decide +kernel) (by decide +kernel)
set_option maxRecDepth 20000 in
theorem gX6_takesDeed_X6_here : GoodIn wsX6_takesDeed (wsV RX6 135 RX6 yX6_here wsX6_here) := goodIn_app (goodIn_of _ (by decide +kernel)) ggX6_takesDeed_X6_here
set_option maxRecDepth 20000 in
theorem ggX6_takesDeed_X6_takes : GoodIn wsX6_takesDeed wsX6_takes := goodIn_r _ [15, 16, 9, 27, 28, 29, 30, 31, 32, 33, 34, 35, 36, 37, 38, 39, 40, 41, 42, 43] (by decide +kernel) (by decide +kernel)
set_option maxRecDepth 20000 in
theorem gX6_takesDeed_X6_takes : GoodIn wsX6_takesDeed (wsV RX6 141 RX6 yX6_takes wsX6_takes) := goodIn_app (goodIn_of _ (by decide +kernel)) ggX6_takesDeed_X6_takes
set_option maxRecDepth 20000 in
theorem ggX6_takesDeed_X6_takesNumber : GoodIn wsX6_takesDeed wsX6_takesNumber := goodIn_r _ [20, 16, 9, 4, 5, 6, 7, 8, 10, 11, 21, 22, 23, 24, 25, 26, 12, 13, 14, 15, 27, 28, 29, 30, 31, 32, 33, 34, 35, 36, 37, 38, 39, 40, 41, 42, 43] (by decide +kernel) (by decide +kernel)
set_option maxRecDepth 20000 in
theorem gX6_takesDeed_X6_takesNumber : GoodIn wsX6_takesDeed (wsV RX6 145 RX6 yX6_takesNumber wsX6_takesNumber) := goodIn_app (goodIn_of _ (by decide +kernel)) ggX6_takesDeed_X6_takesNumber
theorem dX6_takesDeed_0 : decode cX6_takesDeed 0 = .ok (.aload_n 0, 1) := by decide +kernel
theorem dX6_takesDeed_1 : decode cX6_takesDeed 1 = .ok (.aload_n 0, 1) := by decide +kernel
theorem dX6_takesDeed_2 : decode cX6_takesDeed 2 = .ok (.invokevirtual 135, 3) := by decide +kernel
theorem dX6_takesDeed_5 : decode cX6_takesDeed 5 = .ok (.putfield 160, 3) := by decide +kernel
theorem dX6_takesDeed_8 : decode cX6_takesDeed 8 = .ok (.aload_n 0, 1) := by decide +kernel
theorem dX6_takesDeed_9 : decode cX6_takesDeed 9 = .ok (.aload_n 0, 1) := by decide +kernel
theorem dX6_takesDeed_10 : decode cX6_takesDeed 10 = .ok (.getfield 160, 3) := by decide +kernel
theorem dX6_takesDeed_13 : decode cX6_takesDeed 13 = .ok (.bipush 110, 2) := by decide +kernel
theorem dX6_takesDeed_15 : decode cX6_takesDeed 15 = .ok (.if_icmp .eq 30, 3) := by decide +kernel
theorem dX6_takesDeed_18 : decode cX6_takesDeed 18 = .ok (.aload_n 0, 1) := by decide +kernel
theorem dX6_takesDeed_19 : decode cX6_takesDeed 19 = .ok (.getfield 160, 3) := by decide +kernel
theorem dX6_takesDeed_22 : decode cX6_takesDeed 22 = .ok (.bipush 111, 2) := by decide +kernel
theorem dX6_takesDeed_24 : decode cX6_takesDeed 24 = .ok (.if_icmp .eq 21, 3) := by decide +kernel
theorem dX6_takesDeed_27 : decode cX6_takesDeed 27 = .ok (.aload_n 0, 1) := by decide +kernel
theorem dX6_takesDeed_28 : decode cX6_takesDeed 28 = .ok (.getfield 160, 3) := by decide +kernel
theorem dX6_takesDeed_31 : decode cX6_takesDeed 31 = .ok (.bipush 112, 2) := by decide +kernel
theorem dX6_takesDeed_33 : decode cX6_takesDeed 33 = .ok (.if_icmp .eq 12, 3) := by decide +kernel
theorem dX6_takesDeed_36 : decode cX6_takesDeed 36 = .ok (.aload_n 0, 1) := by decide +kernel
theorem dX6_takesDeed_37 : decode cX6_takesDeed 37 = .ok (.getfield 160, 3) := by decide +kernel
theorem dX6_takesDeed_40 : decode cX6_takesDeed 40 = .ok (.bipush 116, 2) := by decide +kernel
theorem dX6_takesDeed_42 : decode cX6_takesDeed 42 = .ok (.if_icmp .ne 7, 3) := by decide +kernel
theorem dX6_takesDeed_45 : decode cX6_takesDeed 45 = .ok (.iconst 1, 1) := by decide +kernel
theorem dX6_takesDeed_46 : decode cX6_takesDeed 46 = .ok (.goto 4, 3) := by decide +kernel
theorem dX6_takesDeed_49 : decode cX6_takesDeed 49 = .ok (.iconst 0, 1) := by decide +kernel
theorem dX6_takesDeed_50 : decode cX6_takesDeed 50 = .ok (.invokevirtual 141, 3) := by decide +kernel
theorem dX6_takesDeed_53 : decode cX6_takesDeed 53 = .ok (.aload_n 0, 1) := by decide +kernel
theorem dX6_takesDeed_54 : decode cX6_takesDeed 54 = .ok (.getfield 160, 3) := by decide +kernel
theorem dX6_takesDeed_57 : decode cX6_takesDeed 57 = .ok (.bipush 110, 2) := by decide +kernel
theorem dX6_takesDeed_59 : decode cX6_takesDeed 59 = .ok (.if_icmp .eq 12, 3) := by decide +kernel
theorem dX6_takesDeed_62 : decode cX6_takesDeed 62 = .ok (.aload_n 0, 1) := by decide +kernel
theorem dX6_takesDeed_63 : decode cX6_takesDeed 63 = .ok (.getfield 160, 3) := by decide +kernel
theorem dX6_takesDeed_66 : decode cX6_takesDeed 66 = .ok (.bipush 111, 2) := by decide +kernel
theorem dX6_takesDeed_68 : decode cX6_takesDeed 68 = .ok (.if_icmp .ne 14, 3) := by decide +kernel
theorem dX6_takesDeed_71 : decode cX6_takesDeed 71 = .ok (.aload_n 0, 1) := by decide +kernel
theorem dX6_takesDeed_72 : decode cX6_takesDeed 72 = .ok (.aload_n 0, 1) := by decide +kernel
theorem dX6_takesDeed_73 : decode cX6_takesDeed 73 = .ok (.iconst 0, 1) := by decide +kernel
theorem dX6_takesDeed_74 : decode cX6_takesDeed 74 = .ok (.bipush 35, 2) := by decide +kernel
theorem dX6_takesDeed_76 : decode cX6_takesDeed 76 = .ok (.invokevirtual 145, 3) := by decide +kernel
theorem dX6_takesDeed_79 : decode cX6_takesDeed 79 = .ok (.putfield 163, 3) := by decide +kernel
theorem dX6_takesDeed_82 : decode cX6_takesDeed 82 = .ok (.aload_n 0, 1) := by decide +kernel
theorem dX6_takesDeed_83 : decode cX6_takesDeed 83 = .ok (.getfield 160, 3) := by decide +kernel
theorem dX6_takesDeed_86 : decode cX6_takesDeed 86 = .ok (.bipush 110, 2) := by decide +kernel
theorem dX6_takesDeed_88 : decode cX6_takesDeed 88 = .ok (.if_icmp .ne 32, 3) := by decide +kernel
theorem dX6_takesDeed_91 : decode cX6_takesDeed 91 = .ok (.aload_n 0, 1) := by decide +kernel
theorem dX6_takesDeed_92 : decode cX6_takesDeed 92 = .ok (.aload_n 0, 1) := by decide +kernel
theorem dX6_takesDeed_93 : decode cX6_takesDeed 93 = .ok (.invokevirtual 135, 3) := by decide +kernel
theorem dX6_takesDeed_96 : decode cX6_takesDeed 96 = .ok (.bipush 46, 2) := by decide +kernel
theorem dX6_takesDeed_98 : decode cX6_takesDeed 98 = .ok (.if_icmp .ne 7, 3) := by decide +kernel
theorem dX6_takesDeed_101 : decode cX6_takesDeed 101 = .ok (.iconst 1, 1) := by decide +kernel
theorem dX6_takesDeed_102 : decode cX6_takesDeed 102 = .ok (.goto 4, 3) := by decide +kernel
theorem dX6_takesDeed_105 : decode cX6_takesDeed 105 = .ok (.iconst 0, 1) := by decide +kernel
theorem dX6_takesDeed_106 : decode cX6_takesDeed 106 = .ok (.invokevirtual 141, 3) := by decide +kernel
theorem dX6_takesDeed_109 : decode cX6_takesDeed 109 = .ok (.aload_n 0, 1) := by decide +kernel
theorem dX6_takesDeed_110 : decode cX6_takesDeed 110 = .ok (.aload_n 0, 1) := by decide +kernel
theorem dX6_takesDeed_111 : decode cX6_takesDeed 111 = .ok (.iconst 1, 1) := by decide +kernel
theorem dX6_takesDeed_112 : decode cX6_takesDeed 112 = .ok (.bipush 9, 2) := by decide +kernel
theorem dX6_takesDeed_114 : decode cX6_takesDeed 114 = .ok (.invokevirtual 145, 3) := by decide +kernel
theorem dX6_takesDeed_117 : decode cX6_takesDeed 117 = .ok (.putfield 166, 3) := by decide +kernel
theorem dX6_takesDeed_120 : decode cX6_takesDeed 120 = .ok (.aload_n 0, 1) := by decide +kernel
theorem dX6_takesDeed_121 : decode cX6_takesDeed 121 = .ok (.getfield 160, 3) := by decide +kernel
theorem dX6_takesDeed_124 : decode cX6_takesDeed 124 = .ok (.bipush 116, 2) := by decide +kernel
theorem dX6_takesDeed_126 : decode cX6_takesDeed 126 = .ok (.if_icmp .ne 14, 3) := by decide +kernel
theorem dX6_takesDeed_129 : decode cX6_takesDeed 129 = .ok (.aload_n 0, 1) := by decide +kernel
theorem dX6_takesDeed_130 : decode cX6_takesDeed 130 = .ok (.aload_n 0, 1) := by decide +kernel
theorem dX6_takesDeed_131 : decode cX6_takesDeed 131 = .ok (.iconst 1, 1) := by decide +kernel
theorem dX6_takesDeed_132 : decode cX6_takesDeed 132 = .ok (.bipush 99, 2) := by decide +kernel
theorem dX6_takesDeed_134 : decode cX6_takesDeed 134 = .ok (.invokevirtual 145, 3) := by decide +kernel
theorem dX6_takesDeed_137 : decode cX6_takesDeed 137 = .ok (.putfield 163, 3) := by decide +kernel
theorem dX6_takesDeed_140 : decode cX6_takesDeed 140 = .ok (.return_, 1) := by decide +kernel
set_option maxRecDepth 20000 in
theorem ggX6_isScore_X6_takesDeed : GoodIn wsX6_isScore wsX6_takesDeed := goodIn_r _ [8, 9, 10, 11, 12, 13, 14, 7, 15, 1, 3, 16, 17, 18, 19, 20, 2, 21, 22, 23, 24, 25, 26, 27, 28, 29, 30, 31, 32, 33, 34, 35, 36, 37, 38, 39, 40, 41, 42, 43, 44, 45, 46, 47] (by decide +kernel) (by decide +kernel)
set_option maxRecDepth 20000 in
theorem gX6_isScore_X6_takesDeed : GoodIn wsX6_isScore (wsV RX6 169 RX6 yX6_takesDeed wsX6_takesDeed) := goodIn_app (goodIn_of _ (by decide +kernel)) ggX6_isScore_X6_takesDeed
set_option maxRecDepth 20000 in
theorem ggX6_isScore_X6_here : GoodIn wsX6_isScore wsX6_here := goodIn_r _ [15, 1, 3, 16, 31, 32, 33, 34, 35, 36, 37, 38, 39, 40, 41, 42, 43, 44, 45, 46, 47] (by decide +kernel) (by decide +kernel)
set_option maxRecDepth 20000 in
theorem gX6_isScore_X6_here : GoodIn wsX6_isScore (wsV RX6 135 RX6 yX6_here wsX6_here) := goodIn_app (goodIn_of _ (by decide +kernel)) ggX6_isScore_X6_here
set_option maxRecDepth 20000 in
theorem ggX6_isScore_X6_takes : GoodIn wsX6_isScore wsX6_takes := goodIn_r _ [20, 2, 1, 31, 32, 33, 34, 35, 36, 37, 38, 39, 40, 41, 42, 43, 44, 45, 46, 47] (by decide +kernel) (by decide +kernel)
set_option maxRecDepth 20000 in
theorem gX6_isScore_X6_takes : GoodIn wsX6_isScore (wsV RX6 141 RX6 yX6_takes wsX6_takes) := goodIn_app (goodIn_of _ (by decide +kernel)) ggX6_isScore_X6_takes
theorem dX6_isScore_0 : decode cX6_isScore 0 = .ok (.aload_n 0, 1) := by decide +kernel
theorem dX6_isScore_1 : decode cX6_isScore 1 = .ok (.iconst 0, 1) := by decide +kernel
theorem dX6_isScore_2 : decode cX6_isScore 2 = .ok (.putfield 128, 3) := by decide +kernel
theorem dX6_isScore_5 : decode cX6_isScore 5 = .ok (.aload_n 0, 1) := by decide +kernel
theorem dX6_isScore_6 : decode cX6_isScore 6 = .ok (.iconst 1, 1) := by decide +kernel
theorem dX6_isScore_7 : decode cX6_isScore 7 = .ok (.putfield 131, 3) := by decide +kernel
theorem dX6_isScore_10 : decode cX6_isScore 10 = .ok (.aload_n 0, 1) := by decide +kernel
theorem dX6_isScore_11 : decode cX6_isScore 11 = .ok (.invokevirtual 169, 3) := by decide +kernel
theorem dX6_isScore_14 : decode cX6_isScore 14 = .ok (.aload_n 0, 1) := by decide +kernel
theorem dX6_isScore_15 : decode cX6_isScore 15 = .ok (.getfield 131, 3) := by decide +kernel
theorem dX6_isScore_18 : decode cX6_isScore 18 = .ok (.ifCond .eq 46, 3) := by decide +kernel
theorem dX6_isScore_21 : decode cX6_isScore 21 = .ok (.aload_n 0, 1) := by decide +kernel
theorem dX6_isScore_22 : decode cX6_isScore 22 = .ok (.getfield 128, 3) := by decide +kernel
theorem dX6_isScore_25 : decode cX6_isScore 25 = .ok (.aload_n 0, 1) := by decide +kernel
theorem dX6_isScore_26 : decode cX6_isScore 26 = .ok (.getfield 125, 3) := by decide +kernel
theorem dX6_isScore_29 : decode cX6_isScore 29 = .ok (.if_icmp .ge 35, 3) := by decide +kernel
theorem dX6_isScore_32 : decode cX6_isScore 32 = .ok (.aload_n 0, 1) := by decide +kernel
theorem dX6_isScore_33 : decode cX6_isScore 33 = .ok (.aload_n 0, 1) := by decide +kernel
theorem dX6_isScore_34 : decode cX6_isScore 34 = .ok (.invokevirtual 135, 3) := by decide +kernel
theorem dX6_isScore_37 : decode cX6_isScore 37 = .ok (.bipush 59, 2) := by decide +kernel
theorem dX6_isScore_39 : decode cX6_isScore 39 = .ok (.if_icmp .ne 7, 3) := by decide +kernel
theorem dX6_isScore_42 : decode cX6_isScore 42 = .ok (.iconst 1, 1) := by decide +kernel
theorem dX6_isScore_43 : decode cX6_isScore 43 = .ok (.goto 4, 3) := by decide +kernel
theorem dX6_isScore_46 : decode cX6_isScore 46 = .ok (.iconst 0, 1) := by decide +kernel
theorem dX6_isScore_47 : decode cX6_isScore 47 = .ok (.invokevirtual 141, 3) := by decide +kernel
theorem dX6_isScore_50 : decode cX6_isScore 50 = .ok (.aload_n 0, 1) := by decide +kernel
theorem dX6_isScore_51 : decode cX6_isScore 51 = .ok (.getfield 131, 3) := by decide +kernel
theorem dX6_isScore_54 : decode cX6_isScore 54 = .ok (.ifCond .eq (-40), 3) := by decide +kernel
theorem dX6_isScore_57 : decode cX6_isScore 57 = .ok (.aload_n 0, 1) := by decide +kernel
theorem dX6_isScore_58 : decode cX6_isScore 58 = .ok (.invokevirtual 169, 3) := by decide +kernel
theorem dX6_isScore_61 : decode cX6_isScore 61 = .ok (.goto (-47), 3) := by decide +kernel
theorem dX6_isScore_64 : decode cX6_isScore 64 = .ok (.aload_n 0, 1) := by decide +kernel
theorem dX6_isScore_65 : decode cX6_isScore 65 = .ok (.getfield 131, 3) := by decide +kernel
theorem dX6_isScore_68 : decode cX6_isScore 68 = .ok (.ireturn, 1) := by decide +kernel
set_option maxRecDepth 20000 in
theorem ggX6_fault_X6_in : GoodIn wsX6_fault wsX6_in := goodIn_r _ [5] (by decide +kernel) (by decide +kernel)
set_option maxRecDepth 20000 in
theorem gX6_fault_X6_in : GoodIn wsX6_fault (va_wsS RX6 40 yX6_in wsX6_in) := goodIn_app (goodIn_of _ (by decide +kernel)) ggX6_fault_X6_in
set_option maxRecDepth 20000 in
theorem ggX6_fault_X6_areZones : GoodIn wsX6_fault wsX6_areZones := goodIn_r _ [9, 1, 10, 11, 12, 13, 14, 15, 4, 16, 17, 18, 19, 20, 21, 22, 23, 24, 25, 26, 27, 28, 29, 30, 2, 3, 5, 31, 32, 33, 34, 35, 36, 37, 38, 39, 40, 41, 53, 54, 55, 56, 57, 58, 59, 60, 61, 62, 63, 64, 65, 66, 67, 68, 69] (by decide +kernel) (by decide +kernel)
set_option maxRecDepth 20000 in
theorem gX6_fault_X6_areZones : GoodIn wsX6_fault (wsV RX6 172 RX6 yX6_areZones wsX6_areZones) := goodIn_app (goodIn_of _ (by decide +kernel)) ggX6_fault_X6_areZones
set_option maxRecDepth 20000 in
theorem ggX6_fault_X6_isScore : GoodIn wsX6_fault wsX6_isScore := goodIn_r _ [45, 1, 10, 12, 46, 47, 48, 4, 49, 50, 51, 52, 26, 27, 28, 29, 30, 34, 35, 36, 37, 22, 23, 24, 25, 2, 3, 5, 31, 32, 33, 53, 54, 55, 56, 57, 58, 59, 60, 61, 62, 63, 64, 65, 66, 67, 68, 69] (by decide +kernel) (by decide +kernel)
set_option maxRecDepth 20000 in
theorem gX6_fault_X6_isScore : GoodIn wsX6_fault (wsV RX6 176 RX6 yX6_isScore wsX6_isScore) := goodIn_app (goodIn_of _ (by decide +kernel)) ggX6_fault_X6_isScore
theorem dX6_fault_0 : decode cX6_fault 0 = .ok (.iload_n 1, 1) := by decide +kernel
theorem dX6_fault_1 : decode cX6_fault 1 = .ok (.iconst 0, 1) := by decide +kernel
theorem dX6_fault_2 : decode cX6_fault 2 = .ok (.iconst 1, 1) := by decide +kernel
theorem dX6_fault_3 : decode cX6_fault 3 = .ok (.invokestatic 40, 3) := by decide +kernel
theorem dX6_fault_6 : decode cX6_fault 6 = .ok (.ifCond .ne 5, 3) := by decide +kernel
theorem dX6_fault_9 : decode cX6_fault 9 = .ok (.iconst (-1), 1) := by decide +kernel
theorem dX6_fault_10 : decode cX6_fault 10 = .ok (.ireturn, 1) := by decide +kernel
theorem dX6_fault_11 : decode cX6_fault 11 = .ok (.iload_n 1, 1) := by decide +kernel
theorem dX6_fault_12 : decode cX6_fault 12 = .ok (.ifCond .ne 13, 3) := by decide +kernel
theorem dX6_fault_15 : decode cX6_fault 15 = .ok (.aload_n 0, 1) := by decide +kernel
theorem dX6_fault_16 : decode cX6_fault 16 = .ok (.invokevirtual 172, 3) := by decide +kernel
theorem dX6_fault_19 : decode cX6_fault 19 = .ok (.ifCond .eq 18, 3) := by decide +kernel
theorem dX6_fault_22 : decode cX6_fault 22 = .ok (.goto 10, 3) := by decide +kernel
theorem dX6_fault_25 : decode cX6_fault 25 = .ok (.aload_n 0, 1) := by decide +kernel
theorem dX6_fault_26 : decode cX6_fault 26 = .ok (.invokevirtual 176, 3) := by decide +kernel
theorem dX6_fault_29 : decode cX6_fault 29 = .ok (.ifCond .eq 8, 3) := by decide +kernel
theorem dX6_fault_32 : decode cX6_fault 32 = .ok (.bipush (-4), 2) := by decide +kernel
theorem dX6_fault_34 : decode cX6_fault 34 = .ok (.goto 7, 3) := by decide +kernel
theorem dX6_fault_37 : decode cX6_fault 37 = .ok (.aload_n 0, 1) := by decide +kernel
theorem dX6_fault_38 : decode cX6_fault 38 = .ok (.getfield 128, 3) := by decide +kernel
theorem dX6_fault_41 : decode cX6_fault 41 = .ok (.ireturn, 1) := by decide +kernel
set_option maxRecDepth 20000 in
theorem ggX6_load_X6_areZones : GoodIn wsX6_load wsX6_areZones := goodIn_r _ [9, 10, 11, 2, 4, 12, 13, 14, 8, 15, 3, 16, 17, 18, 19, 20, 21, 22, 23, 24, 25, 26, 27, 28, 29, 30, 31, 32, 33, 34, 35, 36, 37, 38, 39, 40, 41, 42, 60, 61, 62, 63, 64, 65, 66, 67, 68, 69, 70, 71, 72, 73, 74, 75, 76] (by decide +kernel) (by decide +kernel)
set_option maxRecDepth 20000 in
theorem gX6_load_X6_areZones : GoodIn wsX6_load (wsV RX6 172 RX6 yX6_areZones wsX6_areZones) := goodIn_app (goodIn_of _ (by decide +kernel)) ggX6_load_X6_areZones
set_option maxRecDepth 20000 in
theorem ggX6_load_X6_records : GoodIn wsX6_load wsX6_records := goodIn_r _ [46, 47, 48, 1, 49, 50, 8, 51, 60, 61, 62, 63, 64, 65, 66, 67, 68, 69, 70, 71, 72, 73, 74, 75, 76] (by decide +kernel) (by decide +kernel)
set_option maxRecDepth 20000 in
theorem gX6_load_X6_records : GoodIn wsX6_load (wsV RX6 92 RX6 yX6_records wsX6_records) := goodIn_app (goodIn_of _ (by decide +kernel)) ggX6_load_X6_records
set_option maxRecDepth 20000 in
theorem ggX6_load_X6_addsZone : GoodIn wsX6_load wsX6_addsZone := goodIn_r _ [55, 1, 56, 57, 58, 8, 59, 60, 61, 62, 63, 64, 65, 66, 67, 68, 69, 70, 71, 72, 73, 74, 75, 76] (by decide +kernel) (by decide +kernel)
set_option maxRecDepth 20000 in
theorem gX6_load_X6_addsZone : GoodIn wsX6_load (wsV RX6 95 RX6 yX6_addsZone wsX6_addsZone) := goodIn_app (goodIn_of _ (by decide +kernel)) ggX6_load_X6_addsZone
set_option maxRecDepth 20000 in
theorem ggX6_load_X6_laysZone : GoodIn wsX6_load wsX6_laysZone := goodIn_r _ [59, 1, 60, 61, 62, 63, 64, 65, 66, 67, 68, 69, 70, 71, 72, 73, 74, 75, 76] (by decide +kernel) (by decide +kernel)
set_option maxRecDepth 20000 in
theorem gX6_load_X6_laysZone : GoodIn wsX6_load (wsV RX6 89 RX6 yX6_laysZone wsX6_laysZone) := goodIn_app (goodIn_of _ (by decide +kernel)) ggX6_load_X6_laysZone
theorem dX6_load_0 : decode cX6_load 0 = .ok (.aload_n 0, 1) := by decide +kernel
theorem dX6_load_1 : decode cX6_load 1 = .ok (.invokevirtual 172, 3) := by decide +kernel
theorem dX6_load_4 : decode cX6_load 4 = .ok (.ifCond .ne 6, 3) := by decide +kernel
theorem dX6_load_7 : decode cX6_load 7 = .ok (.bipush (-2), 2) := by decide +kernel
theorem dX6_load_9 : decode cX6_load 9 = .ok (.ireturn, 1) := by decide +kernel
theorem dX6_load_10 : decode cX6_load 10 = .ok (.aload_n 0, 1) := by decide +kernel
theorem dX6_load_11 : decode cX6_load 11 = .ok (.getfield 7, 3) := by decide +kernel
theorem dX6_load_14 : decode cX6_load 14 = .ok (.iconst 0, 1) := by decide +kernel
theorem dX6_load_15 : decode cX6_load 15 = .ok (.iaload, 1) := by decide +kernel
theorem dX6_load_16 : decode cX6_load 16 = .ok (.aload_n 0, 1) := by decide +kernel
theorem dX6_load_17 : decode cX6_load 17 = .ok (.getfield 148, 3) := by decide +kernel
theorem dX6_load_20 : decode cX6_load 20 = .ok (.iadd, 1) := by decide +kernel
theorem dX6_load_21 : decode cX6_load 21 = .ok (.bipush 10, 2) := by decide +kernel
theorem dX6_load_23 : decode cX6_load 23 = .ok (.if_icmp .le 6, 3) := by decide +kernel
theorem dX6_load_26 : decode cX6_load 26 = .ok (.bipush (-3), 2) := by decide +kernel
theorem dX6_load_28 : decode cX6_load 28 = .ok (.ireturn, 1) := by decide +kernel
theorem dX6_load_29 : decode cX6_load 29 = .ok (.aload_n 0, 1) := by decide +kernel
theorem dX6_load_30 : decode cX6_load 30 = .ok (.invokevirtual 92, 3) := by decide +kernel
theorem dX6_load_33 : decode cX6_load 33 = .ok (.iconst 0, 1) := by decide +kernel
theorem dX6_load_34 : decode cX6_load 34 = .ok (.istore_n 1, 1) := by decide +kernel
theorem dX6_load_35 : decode cX6_load 35 = .ok (.iload_n 1, 1) := by decide +kernel
theorem dX6_load_36 : decode cX6_load 36 = .ok (.aload_n 0, 1) := by decide +kernel
theorem dX6_load_37 : decode cX6_load 37 = .ok (.getfield 148, 3) := by decide +kernel
theorem dX6_load_40 : decode cX6_load 40 = .ok (.if_icmp .ge 113, 3) := by decide +kernel
theorem dX6_load_43 : decode cX6_load 43 = .ok (.bipush 7, 2) := by decide +kernel
theorem dX6_load_45 : decode cX6_load 45 = .ok (.iload_n 1, 1) := by decide +kernel
theorem dX6_load_46 : decode cX6_load 46 = .ok (.imul, 1) := by decide +kernel
theorem dX6_load_47 : decode cX6_load 47 = .ok (.istore_n 2, 1) := by decide +kernel
theorem dX6_load_48 : decode cX6_load 48 = .ok (.aload_n 0, 1) := by decide +kernel
theorem dX6_load_49 : decode cX6_load 49 = .ok (.aload_n 0, 1) := by decide +kernel
theorem dX6_load_50 : decode cX6_load 50 = .ok (.getfield 29, 3) := by decide +kernel
theorem dX6_load_53 : decode cX6_load 53 = .ok (.iload_n 2, 1) := by decide +kernel
theorem dX6_load_54 : decode cX6_load 54 = .ok (.iaload, 1) := by decide +kernel
theorem dX6_load_55 : decode cX6_load 55 = .ok (.aload_n 0, 1) := by decide +kernel
theorem dX6_load_56 : decode cX6_load 56 = .ok (.getfield 29, 3) := by decide +kernel
theorem dX6_load_59 : decode cX6_load 59 = .ok (.iload_n 2, 1) := by decide +kernel
theorem dX6_load_60 : decode cX6_load 60 = .ok (.iconst 1, 1) := by decide +kernel
theorem dX6_load_61 : decode cX6_load 61 = .ok (.iadd, 1) := by decide +kernel
theorem dX6_load_62 : decode cX6_load 62 = .ok (.iaload, 1) := by decide +kernel
theorem dX6_load_63 : decode cX6_load 63 = .ok (.aload_n 0, 1) := by decide +kernel
theorem dX6_load_64 : decode cX6_load 64 = .ok (.getfield 29, 3) := by decide +kernel
theorem dX6_load_67 : decode cX6_load 67 = .ok (.iload_n 2, 1) := by decide +kernel
theorem dX6_load_68 : decode cX6_load 68 = .ok (.iconst 2, 1) := by decide +kernel
theorem dX6_load_69 : decode cX6_load 69 = .ok (.iadd, 1) := by decide +kernel
theorem dX6_load_70 : decode cX6_load 70 = .ok (.iaload, 1) := by decide +kernel
theorem dX6_load_71 : decode cX6_load 71 = .ok (.aload_n 0, 1) := by decide +kernel
theorem dX6_load_72 : decode cX6_load 72 = .ok (.getfield 29, 3) := by decide +kernel
theorem dX6_load_75 : decode cX6_load 75 = .ok (.iload_n 2, 1) := by decide +kernel
theorem dX6_load_76 : decode cX6_load 76 = .ok (.iconst 3, 1) := by decide +kernel
theorem dX6_load_77 : decode cX6_load 77 = .ok (.iadd, 1) := by decide +kernel
theorem dX6_load_78 : decode cX6_load 78 = .ok (.iaload, 1) := by decide +kernel
theorem dX6_load_79 : decode cX6_load 79 = .ok (.invokevirtual 95, 3) := by decide +kernel
theorem dX6_load_82 : decode cX6_load 82 = .ok (.aload_n 0, 1) := by decide +kernel
theorem dX6_load_83 : decode cX6_load 83 = .ok (.aload_n 0, 1) := by decide +kernel
theorem dX6_load_84 : decode cX6_load 84 = .ok (.getfield 7, 3) := by decide +kernel
theorem dX6_load_87 : decode cX6_load 87 = .ok (.iconst 0, 1) := by decide +kernel
theorem dX6_load_88 : decode cX6_load 88 = .ok (.iaload, 1) := by decide +kernel
theorem dX6_load_89 : decode cX6_load 89 = .ok (.iconst 1, 1) := by decide +kernel
theorem dX6_load_90 : decode cX6_load 90 = .ok (.isub, 1) := by decide +kernel
theorem dX6_load_91 : decode cX6_load 91 = .ok (.iconst 4, 1) := by decide +kernel
theorem dX6_load_92 : decode cX6_load 92 = .ok (.aload_n 0, 1) := by decide +kernel
theorem dX6_load_93 : decode cX6_load 93 = .ok (.getfield 29, 3) := by decide +kernel
theorem dX6_load_96 : decode cX6_load 96 = .ok (.iload_n 2, 1) := by decide +kernel
theorem dX6_load_97 : decode cX6_load 97 = .ok (.iconst 4, 1) := by decide +kernel
theorem dX6_load_98 : decode cX6_load 98 = .ok (.iadd, 1) := by decide +kernel
theorem dX6_load_99 : decode cX6_load 99 = .ok (.iaload, 1) := by decide +kernel
theorem dX6_load_100 : decode cX6_load 100 = .ok (.invokevirtual 89, 3) := by decide +kernel
theorem dX6_load_103 : decode cX6_load 103 = .ok (.aload_n 0, 1) := by decide +kernel
theorem dX6_load_104 : decode cX6_load 104 = .ok (.aload_n 0, 1) := by decide +kernel
theorem dX6_load_105 : decode cX6_load 105 = .ok (.getfield 7, 3) := by decide +kernel
theorem dX6_load_108 : decode cX6_load 108 = .ok (.iconst 0, 1) := by decide +kernel
theorem dX6_load_109 : decode cX6_load 109 = .ok (.iaload, 1) := by decide +kernel
theorem dX6_load_110 : decode cX6_load 110 = .ok (.iconst 1, 1) := by decide +kernel
theorem dX6_load_111 : decode cX6_load 111 = .ok (.isub, 1) := by decide +kernel
theorem dX6_load_112 : decode cX6_load 112 = .ok (.iconst 5, 1) := by decide +kernel
theorem dX6_load_113 : decode cX6_load 113 = .ok (.aload_n 0, 1) := by decide +kernel
theorem dX6_load_114 : decode cX6_load 114 = .ok (.getfield 29, 3) := by decide +kernel
theorem dX6_load_117 : decode cX6_load 117 = .ok (.iload_n 2, 1) := by decide +kernel
theorem dX6_load_118 : decode cX6_load 118 = .ok (.iconst 5, 1) := by decide +kernel
theorem dX6_load_119 : decode cX6_load 119 = .ok (.iadd, 1) := by decide +kernel
theorem dX6_load_120 : decode cX6_load 120 = .ok (.iaload, 1) := by decide +kernel
theorem dX6_load_121 : decode cX6_load 121 = .ok (.invokevirtual 89, 3) := by decide +kernel
theorem dX6_load_124 : decode cX6_load 124 = .ok (.aload_n 0, 1) := by decide +kernel
theorem dX6_load_125 : decode cX6_load 125 = .ok (.aload_n 0, 1) := by decide +kernel
theorem dX6_load_126 : decode cX6_load 126 = .ok (.getfield 7, 3) := by decide +kernel
theorem dX6_load_129 : decode cX6_load 129 = .ok (.iconst 0, 1) := by decide +kernel
theorem dX6_load_130 : decode cX6_load 130 = .ok (.iaload, 1) := by decide +kernel
theorem dX6_load_131 : decode cX6_load 131 = .ok (.iconst 1, 1) := by decide +kernel
theorem dX6_load_132 : decode cX6_load 132 = .ok (.isub, 1) := by decide +kernel
theorem dX6_load_133 : decode cX6_load 133 = .ok (.bipush 6, 2) := by decide +kernel
theorem dX6_load_135 : decode cX6_load 135 = .ok (.aload_n 0, 1) := by decide +kernel
theorem dX6_load_136 : decode cX6_load 136 = .ok (.getfield 29, 3) := by decide +kernel
theorem dX6_load_139 : decode cX6_load 139 = .ok (.iload_n 2, 1) := by decide +kernel
theorem dX6_load_140 : decode cX6_load 140 = .ok (.bipush 6, 2) := by decide +kernel
theorem dX6_load_142 : decode cX6_load 142 = .ok (.iadd, 1) := by decide +kernel
theorem dX6_load_143 : decode cX6_load 143 = .ok (.iaload, 1) := by decide +kernel
theorem dX6_load_144 : decode cX6_load 144 = .ok (.invokevirtual 89, 3) := by decide +kernel
theorem dX6_load_147 : decode cX6_load 147 = .ok (.iinc 1 1, 3) := by decide +kernel
theorem dX6_load_150 : decode cX6_load 150 = .ok (.goto (-115), 3) := by decide +kernel
theorem dX6_load_153 : decode cX6_load 153 = .ok (.aload_n 0, 1) := by decide +kernel
theorem dX6_load_154 : decode cX6_load 154 = .ok (.iconst 0, 1) := by decide +kernel
theorem dX6_load_155 : decode cX6_load 155 = .ok (.putfield 125, 3) := by decide +kernel
theorem dX6_load_158 : decode cX6_load 158 = .ok (.aload_n 0, 1) := by decide +kernel
theorem dX6_load_159 : decode cX6_load 159 = .ok (.getfield 7, 3) := by decide +kernel
theorem dX6_load_162 : decode cX6_load 162 = .ok (.iconst 0, 1) := by decide +kernel
theorem dX6_load_163 : decode cX6_load 163 = .ok (.iaload, 1) := by decide +kernel
theorem dX6_load_164 : decode cX6_load 164 = .ok (.ireturn, 1) := by decide +kernel
set_option maxRecDepth 20000 in
theorem ggX6_doesDeed_X6_goHit : GoodIn wsX6_doesDeed wsX6_goHit := goodIn_r _ [8, 9, 10, 11, 12, 13, 14, 7, 15, 16, 17, 18, 19, 20, 21, 22, 23, 24, 25, 26, 27, 28, 29, 30, 31, 32, 33, 34, 35, 36, 37, 38, 39, 40, 41, 42, 43, 44, 45, 46, 47, 48, 49, 50, 51, 52, 53, 54, 55, 56, 57, 58, 75, 76, 77, 78, 79, 80, 81, 82, 83, 84, 85, 86, 87, 88, 89, 90, 91] (by decide +kernel) (by decide +kernel)
set_option maxRecDepth 20000 in
theorem gX6_doesDeed_X6_goHit : GoodIn wsX6_doesDeed (wsV RX6 107 RX6 yX6_goHit wsX6_goHit) := goodIn_app (goodIn_of _ (by decide +kernel)) ggX6_doesDeed_X6_goHit
set_option maxRecDepth 20000 in
theorem ggX6_doesDeed_X6_goLet : GoodIn wsX6_doesDeed wsX6_goLet := goodIn_r _ [62, 9, 12, 13, 14, 7, 15, 16, 17, 18, 19, 75, 76, 77, 78, 79, 80, 81, 82, 83, 84, 85, 86, 87, 88, 89, 90, 91] (by decide +kernel) (by decide +kernel)
set_option maxRecDepth 20000 in
theorem gX6_doesDeed_X6_goLet : GoodIn wsX6_doesDeed (wsV RX6 110 RX6 yX6_goLet wsX6_goLet) := goodIn_app (goodIn_of _ (by decide +kernel)) ggX6_doesDeed_X6_goLet
set_option maxRecDepth 20000 in
theorem ggX6_doesDeed_X6_goPedal : GoodIn wsX6_doesDeed wsX6_goPedal := goodIn_r _ [66, 9, 12, 13, 14, 7, 15, 16, 17, 18, 19, 75, 76, 77, 78, 79, 80, 81, 82, 83, 84, 85, 86, 87, 88, 89, 90, 91] (by decide +kernel) (by decide +kernel)
set_option maxRecDepth 20000 in
theorem gX6_doesDeed_X6_goPedal : GoodIn wsX6_doesDeed (wsV RX6 113 RX6 yX6_goPedal wsX6_goPedal) := goodIn_app (goodIn_of _ (by decide +kernel)) ggX6_doesDeed_X6_goPedal
set_option maxRecDepth 20000 in
theorem ggX6_doesDeed_X6_goPass : GoodIn wsX6_doesDeed wsX6_goPass := goodIn_r _ [70, 71, 72, 73, 7, 74, 9, 12, 13, 14, 15, 16, 17, 18, 19, 24, 25, 26, 27, 47, 48, 49, 50, 75, 76, 77, 78, 79, 80, 81, 82, 83, 84, 85, 86, 87, 88, 89, 90, 91] (by decide +kernel) (by decide +kernel)
set_option maxRecDepth 20000 in
theorem gX6_doesDeed_X6_goPass : GoodIn wsX6_doesDeed (wsV RX6 116 RX6 yX6_goPass wsX6_goPass) := goodIn_app (goodIn_of _ (by decide +kernel)) ggX6_doesDeed_X6_goPass
theorem dX6_doesDeed_0 : decode cX6_doesDeed 0 = .ok (.aload_n 0, 1) := by decide +kernel
theorem dX6_doesDeed_1 : decode cX6_doesDeed 1 = .ok (.getfield 160, 3) := by decide +kernel
theorem dX6_doesDeed_4 : decode cX6_doesDeed 4 = .ok (.tableswitch 64 110 112 #[28, 44, 56], 28) := by decide +kernel
theorem dX6_doesDeed_32 : decode cX6_doesDeed 32 = .ok (.aload_n 0, 1) := by decide +kernel
theorem dX6_doesDeed_33 : decode cX6_doesDeed 33 = .ok (.aload_n 0, 1) := by decide +kernel
theorem dX6_doesDeed_34 : decode cX6_doesDeed 34 = .ok (.getfield 163, 3) := by decide +kernel
theorem dX6_doesDeed_37 : decode cX6_doesDeed 37 = .ok (.aload_n 0, 1) := by decide +kernel
theorem dX6_doesDeed_38 : decode cX6_doesDeed 38 = .ok (.getfield 166, 3) := by decide +kernel
theorem dX6_doesDeed_41 : decode cX6_doesDeed 41 = .ok (.invokevirtual 107, 3) := by decide +kernel
theorem dX6_doesDeed_44 : decode cX6_doesDeed 44 = .ok (.istore_n 1, 1) := by decide +kernel
theorem dX6_doesDeed_45 : decode cX6_doesDeed 45 = .ok (.goto 33, 3) := by decide +kernel
theorem dX6_doesDeed_48 : decode cX6_doesDeed 48 = .ok (.aload_n 0, 1) := by decide +kernel
theorem dX6_doesDeed_49 : decode cX6_doesDeed 49 = .ok (.aload_n 0, 1) := by decide +kernel
theorem dX6_doesDeed_50 : decode cX6_doesDeed 50 = .ok (.getfield 163, 3) := by decide +kernel
theorem dX6_doesDeed_53 : decode cX6_doesDeed 53 = .ok (.invokevirtual 110, 3) := by decide +kernel
theorem dX6_doesDeed_56 : decode cX6_doesDeed 56 = .ok (.istore_n 2, 1) := by decide +kernel
theorem dX6_doesDeed_57 : decode cX6_doesDeed 57 = .ok (.goto 21, 3) := by decide +kernel
theorem dX6_doesDeed_60 : decode cX6_doesDeed 60 = .ok (.aload_n 0, 1) := by decide +kernel
theorem dX6_doesDeed_61 : decode cX6_doesDeed 61 = .ok (.invokevirtual 113, 3) := by decide +kernel
theorem dX6_doesDeed_64 : decode cX6_doesDeed 64 = .ok (.istore_n 3, 1) := by decide +kernel
theorem dX6_doesDeed_65 : decode cX6_doesDeed 65 = .ok (.goto 13, 3) := by decide +kernel
theorem dX6_doesDeed_68 : decode cX6_doesDeed 68 = .ok (.aload_n 0, 1) := by decide +kernel
theorem dX6_doesDeed_69 : decode cX6_doesDeed 69 = .ok (.aload_n 0, 1) := by decide +kernel
theorem dX6_doesDeed_70 : decode cX6_doesDeed 70 = .ok (.getfield 163, 3) := by decide +kernel
theorem dX6_doesDeed_73 : decode cX6_doesDeed 73 = .ok (.invokevirtual 116, 3) := by decide +kernel
theorem dX6_doesDeed_76 : decode cX6_doesDeed 76 = .ok (.istore 4, 2) := by decide +kernel
theorem dX6_doesDeed_78 : decode cX6_doesDeed 78 = .ok (.return_, 1) := by decide +kernel
set_option maxRecDepth 20000 in
theorem ggX6_play_X6_isScore : GoodIn wsX6_play wsX6_isScore := goodIn_r _ [8, 2, 9, 3, 10, 11, 12, 7, 13, 14, 15, 16, 17, 18, 19, 20, 21, 22, 23, 24, 25, 26, 27, 28, 29, 30, 31, 32, 33, 34, 35, 115, 116, 117, 118, 119, 120, 121, 122, 123, 124, 125, 126, 127, 128, 129, 130, 131] (by decide +kernel) (by decide +kernel)
set_option maxRecDepth 20000 in
theorem gX6_play_X6_isScore : GoodIn wsX6_play (wsV RX6 176 RX6 yX6_isScore wsX6_isScore) := goodIn_app (goodIn_of _ (by decide +kernel)) ggX6_play_X6_isScore
set_option maxRecDepth 20000 in
theorem ggX6_play_X6_records : GoodIn wsX6_play wsX6_records := goodIn_r _ [39, 40, 41, 1, 42, 43, 7, 44, 115, 116, 117, 118, 119, 120, 121, 122, 123, 124, 125, 126, 127, 128, 129, 130, 131] (by decide +kernel) (by decide +kernel)
set_option maxRecDepth 20000 in
theorem gX6_play_X6_records : GoodIn wsX6_play (wsV RX6 92 RX6 yX6_records wsX6_records) := goodIn_app (goodIn_of _ (by decide +kernel)) ggX6_play_X6_records
set_option maxRecDepth 20000 in
theorem ggX6_play_X6_takesDeed : GoodIn wsX6_play wsX6_takesDeed := goodIn_r _ [13, 14, 15, 16, 17, 18, 19, 7, 20, 2, 3, 21, 22, 23, 24, 25, 9, 26, 27, 28, 29, 30, 31, 32, 33, 34, 35, 115, 116, 117, 118, 119, 120, 121, 122, 123, 124, 125, 126, 127, 128, 129, 130, 131] (by decide +kernel) (by decide +kernel)
set_option maxRecDepth 20000 in
theorem gX6_play_X6_takesDeed : GoodIn wsX6_play (wsV RX6 169 RX6 yX6_takesDeed wsX6_takesDeed) := goodIn_app (goodIn_of _ (by decide +kernel)) ggX6_play_X6_takesDeed
set_option maxRecDepth 20000 in
theorem ggX6_play_X6_doesDeed : GoodIn wsX6_play wsX6_doesDeed := goodIn_r _ [48, 14, 15, 16, 49, 50, 51, 7, 52, 1, 53, 54, 55, 56, 57, 58, 59, 60, 61, 62, 63, 64, 65, 66, 67, 68, 69, 70, 71, 72, 73, 74, 30, 31, 32, 75, 76, 77, 78, 79, 80, 81, 82, 83, 84, 85, 86, 87, 88, 89, 90, 91, 92, 93, 94, 95, 96, 97, 98, 99, 100, 101, 102, 103, 104, 105, 106, 107, 108, 109, 110, 111, 112, 113, 114, 115, 116, 117, 118, 119, 120, 121, 122, 123, 124, 125, 126, 127, 128, 129, 130, 131] (by decide +kernel) (by decide +kernel)
set_option maxRecDepth 20000 in
theorem gX6_play_X6_doesDeed : GoodIn wsX6_play (wsV RX6 179 RX6 yX6_doesDeed wsX6_doesDeed) := goodIn_app (goodIn_of _ (by decide +kernel)) ggX6_play_X6_doesDeed
theorem dX6_play_0 : decode cX6_play 0 = .ok (.aload_n 0, 1) := by decide +kernel
theorem dX6_play_1 : decode cX6_play 1 = .ok (.invokevirtual 176, 3) := by decide +kernel
theorem dX6_play_4 : decode cX6_play 4 = .ok (.ifCond .ne 6, 3) := by decide +kernel
theorem dX6_play_7 : decode cX6_play 7 = .ok (.bipush (-2), 2) := by decide +kernel
theorem dX6_play_9 : decode cX6_play 9 = .ok (.ireturn, 1) := by decide +kernel
theorem dX6_play_10 : decode cX6_play 10 = .ok (.aload_n 0, 1) := by decide +kernel
theorem dX6_play_11 : decode cX6_play 11 = .ok (.invokevirtual 92, 3) := by decide +kernel
theorem dX6_play_14 : decode cX6_play 14 = .ok (.aload_n 0, 1) := by decide +kernel
theorem dX6_play_15 : decode cX6_play 15 = .ok (.getfield 7, 3) := by decide +kernel
theorem dX6_play_18 : decode cX6_play 18 = .ok (.iconst 4, 1) := by decide +kernel
theorem dX6_play_19 : decode cX6_play 19 = .ok (.iaload, 1) := by decide +kernel
theorem dX6_play_20 : decode cX6_play 20 = .ok (.istore_n 1, 1) := by decide +kernel
theorem dX6_play_21 : decode cX6_play 21 = .ok (.aload_n 0, 1) := by decide +kernel
theorem dX6_play_22 : decode cX6_play 22 = .ok (.iconst 0, 1) := by decide +kernel
theorem dX6_play_23 : decode cX6_play 23 = .ok (.putfield 128, 3) := by decide +kernel
theorem dX6_play_26 : decode cX6_play 26 = .ok (.aload_n 0, 1) := by decide +kernel
theorem dX6_play_27 : decode cX6_play 27 = .ok (.getfield 128, 3) := by decide +kernel
theorem dX6_play_30 : decode cX6_play 30 = .ok (.aload_n 0, 1) := by decide +kernel
theorem dX6_play_31 : decode cX6_play 31 = .ok (.getfield 125, 3) := by decide +kernel
theorem dX6_play_34 : decode cX6_play 34 = .ok (.if_icmp .ge 24, 3) := by decide +kernel
theorem dX6_play_37 : decode cX6_play 37 = .ok (.aload_n 0, 1) := by decide +kernel
theorem dX6_play_38 : decode cX6_play 38 = .ok (.invokevirtual 169, 3) := by decide +kernel
theorem dX6_play_41 : decode cX6_play 41 = .ok (.aload_n 0, 1) := by decide +kernel
theorem dX6_play_42 : decode cX6_play 42 = .ok (.dup, 1) := by decide +kernel
theorem dX6_play_43 : decode cX6_play 43 = .ok (.getfield 128, 3) := by decide +kernel
theorem dX6_play_46 : decode cX6_play 46 = .ok (.iconst 1, 1) := by decide +kernel
theorem dX6_play_47 : decode cX6_play 47 = .ok (.iadd, 1) := by decide +kernel
theorem dX6_play_48 : decode cX6_play 48 = .ok (.putfield 128, 3) := by decide +kernel
theorem dX6_play_51 : decode cX6_play 51 = .ok (.aload_n 0, 1) := by decide +kernel
theorem dX6_play_52 : decode cX6_play 52 = .ok (.invokevirtual 179, 3) := by decide +kernel
theorem dX6_play_55 : decode cX6_play 55 = .ok (.goto (-29), 3) := by decide +kernel
theorem dX6_play_58 : decode cX6_play 58 = .ok (.aload_n 0, 1) := by decide +kernel
theorem dX6_play_59 : decode cX6_play 59 = .ok (.iconst 0, 1) := by decide +kernel
theorem dX6_play_60 : decode cX6_play 60 = .ok (.putfield 125, 3) := by decide +kernel
theorem dX6_play_63 : decode cX6_play 63 = .ok (.aload_n 0, 1) := by decide +kernel
theorem dX6_play_64 : decode cX6_play 64 = .ok (.getfield 7, 3) := by decide +kernel
theorem dX6_play_67 : decode cX6_play 67 = .ok (.iconst 4, 1) := by decide +kernel
theorem dX6_play_68 : decode cX6_play 68 = .ok (.iaload, 1) := by decide +kernel
theorem dX6_play_69 : decode cX6_play 69 = .ok (.iload_n 1, 1) := by decide +kernel
theorem dX6_play_70 : decode cX6_play 70 = .ok (.isub, 1) := by decide +kernel
theorem dX6_play_71 : decode cX6_play 71 = .ok (.ireturn, 1) := by decide +kernel
set_option maxRecDepth 20000 in
theorem ggX6_voicesOf_X6_of : GoodIn wsX6_voicesOf wsX6_of := goodIn_r _ [6, 1, 7, 8, 9, 10, 11, 12, 13, 14, 15, 16, 17, 18, 19, 20, 21, 22, 23] (by decide +kernel) (by decide +kernel)
set_option maxRecDepth 20000 in
theorem gX6_voicesOf_X6_of : GoodIn wsX6_voicesOf (wsV RX6 55 RX6 yX6_of wsX6_of) := goodIn_app (goodIn_of _ (by decide +kernel)) ggX6_voicesOf_X6_of
theorem dX6_voicesOf_0 : decode cX6_voicesOf 0 = .ok (.iconst 0, 1) := by decide +kernel
theorem dX6_voicesOf_1 : decode cX6_voicesOf 1 = .ok (.istore_n 2, 1) := by decide +kernel
theorem dX6_voicesOf_2 : decode cX6_voicesOf 2 = .ok (.iconst 0, 1) := by decide +kernel
theorem dX6_voicesOf_3 : decode cX6_voicesOf 3 = .ok (.istore_n 3, 1) := by decide +kernel
theorem dX6_voicesOf_4 : decode cX6_voicesOf 4 = .ok (.iload_n 3, 1) := by decide +kernel
theorem dX6_voicesOf_5 : decode cX6_voicesOf 5 = .ok (.aload_n 0, 1) := by decide +kernel
theorem dX6_voicesOf_6 : decode cX6_voicesOf 6 = .ok (.getfield 7, 3) := by decide +kernel
theorem dX6_voicesOf_9 : decode cX6_voicesOf 9 = .ok (.iconst 1, 1) := by decide +kernel
theorem dX6_voicesOf_10 : decode cX6_voicesOf 10 = .ok (.iaload, 1) := by decide +kernel
theorem dX6_voicesOf_11 : decode cX6_voicesOf 11 = .ok (.if_icmp .ge 27, 3) := by decide +kernel
theorem dX6_voicesOf_14 : decode cX6_voicesOf 14 = .ok (.iload_n 2, 1) := by decide +kernel
theorem dX6_voicesOf_15 : decode cX6_voicesOf 15 = .ok (.aload_n 0, 1) := by decide +kernel
theorem dX6_voicesOf_16 : decode cX6_voicesOf 16 = .ok (.iload_n 3, 1) := by decide +kernel
theorem dX6_voicesOf_17 : decode cX6_voicesOf 17 = .ok (.iconst 0, 1) := by decide +kernel
theorem dX6_voicesOf_18 : decode cX6_voicesOf 18 = .ok (.invokevirtual 55, 3) := by decide +kernel
theorem dX6_voicesOf_21 : decode cX6_voicesOf 21 = .ok (.iload_n 1, 1) := by decide +kernel
theorem dX6_voicesOf_22 : decode cX6_voicesOf 22 = .ok (.if_icmp .ne 7, 3) := by decide +kernel
theorem dX6_voicesOf_25 : decode cX6_voicesOf 25 = .ok (.iconst 1, 1) := by decide +kernel
theorem dX6_voicesOf_26 : decode cX6_voicesOf 26 = .ok (.goto 4, 3) := by decide +kernel
theorem dX6_voicesOf_29 : decode cX6_voicesOf 29 = .ok (.iconst 0, 1) := by decide +kernel
theorem dX6_voicesOf_30 : decode cX6_voicesOf 30 = .ok (.iadd, 1) := by decide +kernel
theorem dX6_voicesOf_31 : decode cX6_voicesOf 31 = .ok (.istore_n 2, 1) := by decide +kernel
theorem dX6_voicesOf_32 : decode cX6_voicesOf 32 = .ok (.iinc 3 1, 3) := by decide +kernel
theorem dX6_voicesOf_35 : decode cX6_voicesOf 35 = .ok (.goto (-31), 3) := by decide +kernel
theorem dX6_voicesOf_38 : decode cX6_voicesOf 38 = .ok (.iload_n 2, 1) := by decide +kernel
theorem dX6_voicesOf_39 : decode cX6_voicesOf 39 = .ok (.ireturn, 1) := by decide +kernel
set_option maxRecDepth 20000 in
theorem ggX6_canSound_X6_ofZone : GoodIn wsX6_canSound wsX6_ofZone := goodIn_r _ [5, 6, 22, 23, 24, 25, 26, 27, 28, 29, 30, 31, 32, 33, 34, 35, 36, 37, 38] (by decide +kernel) (by decide +kernel)
set_option maxRecDepth 20000 in
theorem gX6_canSound_X6_ofZone : GoodIn wsX6_canSound (wsV RX6 44 RX6 yX6_ofZone wsX6_ofZone) := goodIn_app (goodIn_of _ (by decide +kernel)) ggX6_canSound_X6_ofZone
set_option maxRecDepth 20000 in
theorem ggX6_canSound_X6_isSounding : GoodIn wsX6_canSound wsX6_isSounding := goodIn_r _ [10, 6, 1, 2, 3, 4, 5, 11, 12, 13, 14, 15, 16, 17, 18, 19, 20, 21, 22, 23, 24, 25, 26, 27, 28, 29, 30, 31, 32, 33, 34, 35, 36, 37, 38] (by decide +kernel) (by decide +kernel)
set_option maxRecDepth 20000 in
theorem gX6_canSound_X6_isSounding : GoodIn wsX6_canSound (wsV RX6 79 RX6 yX6_isSounding wsX6_isSounding) := goodIn_app (goodIn_of _ (by decide +kernel)) ggX6_canSound_X6_isSounding
theorem dX6_canSound_0 : decode cX6_canSound 0 = .ok (.iconst 0, 1) := by decide +kernel
theorem dX6_canSound_1 : decode cX6_canSound 1 = .ok (.istore_n 2, 1) := by decide +kernel
theorem dX6_canSound_2 : decode cX6_canSound 2 = .ok (.aload_n 0, 1) := by decide +kernel
theorem dX6_canSound_3 : decode cX6_canSound 3 = .ok (.iload_n 1, 1) := by decide +kernel
theorem dX6_canSound_4 : decode cX6_canSound 4 = .ok (.iconst 0, 1) := by decide +kernel
theorem dX6_canSound_5 : decode cX6_canSound 5 = .ok (.invokevirtual 44, 3) := by decide +kernel
theorem dX6_canSound_8 : decode cX6_canSound 8 = .ok (.istore_n 3, 1) := by decide +kernel
theorem dX6_canSound_9 : decode cX6_canSound 9 = .ok (.iload_n 3, 1) := by decide +kernel
theorem dX6_canSound_10 : decode cX6_canSound 10 = .ok (.aload_n 0, 1) := by decide +kernel
theorem dX6_canSound_11 : decode cX6_canSound 11 = .ok (.iload_n 1, 1) := by decide +kernel
theorem dX6_canSound_12 : decode cX6_canSound 12 = .ok (.iconst 1, 1) := by decide +kernel
theorem dX6_canSound_13 : decode cX6_canSound 13 = .ok (.invokevirtual 44, 3) := by decide +kernel
theorem dX6_canSound_16 : decode cX6_canSound 16 = .ok (.if_icmp .gt 47, 3) := by decide +kernel
theorem dX6_canSound_19 : decode cX6_canSound 19 = .ok (.aload_n 0, 1) := by decide +kernel
theorem dX6_canSound_20 : decode cX6_canSound 20 = .ok (.iload_n 1, 1) := by decide +kernel
theorem dX6_canSound_21 : decode cX6_canSound 21 = .ok (.iconst 2, 1) := by decide +kernel
theorem dX6_canSound_22 : decode cX6_canSound 22 = .ok (.invokevirtual 44, 3) := by decide +kernel
theorem dX6_canSound_25 : decode cX6_canSound 25 = .ok (.istore 4, 2) := by decide +kernel
theorem dX6_canSound_27 : decode cX6_canSound 27 = .ok (.iload 4, 2) := by decide +kernel
theorem dX6_canSound_29 : decode cX6_canSound 29 = .ok (.aload_n 0, 1) := by decide +kernel
theorem dX6_canSound_30 : decode cX6_canSound 30 = .ok (.iload_n 1, 1) := by decide +kernel
theorem dX6_canSound_31 : decode cX6_canSound 31 = .ok (.iconst 3, 1) := by decide +kernel
theorem dX6_canSound_32 : decode cX6_canSound 32 = .ok (.invokevirtual 44, 3) := by decide +kernel
theorem dX6_canSound_35 : decode cX6_canSound 35 = .ok (.if_icmp .gt 22, 3) := by decide +kernel
theorem dX6_canSound_38 : decode cX6_canSound 38 = .ok (.iload_n 2, 1) := by decide +kernel
theorem dX6_canSound_39 : decode cX6_canSound 39 = .ok (.ifCond .ne 18, 3) := by decide +kernel
theorem dX6_canSound_42 : decode cX6_canSound 42 = .ok (.aload_n 0, 1) := by decide +kernel
theorem dX6_canSound_43 : decode cX6_canSound 43 = .ok (.iload_n 1, 1) := by decide +kernel
theorem dX6_canSound_44 : decode cX6_canSound 44 = .ok (.iload_n 3, 1) := by decide +kernel
theorem dX6_canSound_45 : decode cX6_canSound 45 = .ok (.iload 4, 2) := by decide +kernel
theorem dX6_canSound_47 : decode cX6_canSound 47 = .ok (.invokevirtual 79, 3) := by decide +kernel
theorem dX6_canSound_50 : decode cX6_canSound 50 = .ok (.istore_n 2, 1) := by decide +kernel
theorem dX6_canSound_51 : decode cX6_canSound 51 = .ok (.iinc 4 1, 3) := by decide +kernel
theorem dX6_canSound_54 : decode cX6_canSound 54 = .ok (.goto (-27), 3) := by decide +kernel
theorem dX6_canSound_57 : decode cX6_canSound 57 = .ok (.iinc 3 1, 3) := by decide +kernel
theorem dX6_canSound_60 : decode cX6_canSound 60 = .ok (.goto (-51), 3) := by decide +kernel
theorem dX6_canSound_63 : decode cX6_canSound 63 = .ok (.iload_n 2, 1) := by decide +kernel
theorem dX6_canSound_64 : decode cX6_canSound 64 = .ok (.ireturn, 1) := by decide +kernel
set_option maxRecDepth 20000 in
theorem ggX6_zoneOf_X6_isZone : GoodIn wsX6_zoneOf wsX6_isZone := goodIn_r _ [5, 6, 7, 8, 4, 9, 38, 39, 40, 41, 42, 43, 44, 45, 46, 47, 48, 49, 50, 51, 52, 53, 54] (by decide +kernel) (by decide +kernel)
set_option maxRecDepth 20000 in
theorem gX6_zoneOf_X6_isZone : GoodIn wsX6_zoneOf (wsV RX6 99 RX6 yX6_isZone wsX6_isZone) := goodIn_app (goodIn_of _ (by decide +kernel)) ggX6_zoneOf_X6_isZone
set_option maxRecDepth 20000 in
theorem ggX6_zoneOf_X6_in : GoodIn wsX6_zoneOf wsX6_in := goodIn_r _ [9] (by decide +kernel) (by decide +kernel)
set_option maxRecDepth 20000 in
theorem gX6_zoneOf_X6_in : GoodIn wsX6_zoneOf (va_wsS RX6 40 yX6_in wsX6_in) := goodIn_app (goodIn_of _ (by decide +kernel)) ggX6_zoneOf_X6_in
set_option maxRecDepth 20000 in
theorem ggX6_zoneOf_X6_ofZone : GoodIn wsX6_zoneOf wsX6_ofZone := goodIn_r _ [13, 6, 38, 39, 40, 41, 42, 43, 44, 45, 46, 47, 48, 49, 50, 51, 52, 53, 54] (by decide +kernel) (by decide +kernel)
set_option maxRecDepth 20000 in
theorem gX6_zoneOf_X6_ofZone : GoodIn wsX6_zoneOf (wsV RX6 44 RX6 yX6_ofZone wsX6_ofZone) := goodIn_app (goodIn_of _ (by decide +kernel)) ggX6_zoneOf_X6_ofZone
set_option maxRecDepth 20000 in
theorem ggX6_zoneOf_X6_voicesOf : GoodIn wsX6_zoneOf wsX6_voicesOf := goodIn_r _ [17, 6, 18, 19, 20, 4, 21, 38, 39, 40, 41, 42, 43, 44, 45, 46, 47, 48, 49, 50, 51, 52, 53, 54] (by decide +kernel) (by decide +kernel)
set_option maxRecDepth 20000 in
theorem gX6_zoneOf_X6_voicesOf : GoodIn wsX6_zoneOf (wsV RX6 182 RX6 yX6_voicesOf wsX6_voicesOf) := goodIn_app (goodIn_of _ (by decide +kernel)) ggX6_zoneOf_X6_voicesOf
set_option maxRecDepth 20000 in
theorem ggX6_zoneOf_X6_canSound : GoodIn wsX6_zoneOf wsX6_canSound := goodIn_r _ [25, 10, 11, 12, 4, 13, 6, 26, 27, 28, 29, 30, 31, 32, 33, 7, 8, 9, 34, 35, 36, 37, 38, 39, 40, 41, 42, 43, 44, 45, 46, 47, 48, 49, 50, 51, 52, 53, 54] (by decide +kernel) (by decide +kernel)
set_option maxRecDepth 20000 in
theorem gX6_zoneOf_X6_canSound : GoodIn wsX6_zoneOf (wsV RX6 185 RX6 yX6_canSound wsX6_canSound) := goodIn_app (goodIn_of _ (by decide +kernel)) ggX6_zoneOf_X6_canSound
theorem dX6_zoneOf_0 : decode cX6_zoneOf 0 = .ok (.aload_n 0, 1) := by decide +kernel
theorem dX6_zoneOf_1 : decode cX6_zoneOf 1 = .ok (.iload_n 1, 1) := by decide +kernel
theorem dX6_zoneOf_2 : decode cX6_zoneOf 2 = .ok (.invokevirtual 99, 3) := by decide +kernel
theorem dX6_zoneOf_5 : decode cX6_zoneOf 5 = .ok (.ifCond .eq 13, 3) := by decide +kernel
theorem dX6_zoneOf_8 : decode cX6_zoneOf 8 = .ok (.iload_n 2, 1) := by decide +kernel
theorem dX6_zoneOf_9 : decode cX6_zoneOf 9 = .ok (.iconst 0, 1) := by decide +kernel
theorem dX6_zoneOf_10 : decode cX6_zoneOf 10 = .ok (.bipush 8, 2) := by decide +kernel
theorem dX6_zoneOf_12 : decode cX6_zoneOf 12 = .ok (.invokestatic 40, 3) := by decide +kernel
theorem dX6_zoneOf_15 : decode cX6_zoneOf 15 = .ok (.ifCond .ne 5, 3) := by decide +kernel
theorem dX6_zoneOf_18 : decode cX6_zoneOf 18 = .ok (.iconst (-1), 1) := by decide +kernel
theorem dX6_zoneOf_19 : decode cX6_zoneOf 19 = .ok (.ireturn, 1) := by decide +kernel
theorem dX6_zoneOf_20 : decode cX6_zoneOf 20 = .ok (.iload_n 2, 1) := by decide +kernel
theorem dX6_zoneOf_21 : decode cX6_zoneOf 21 = .ok (.bipush 7, 2) := by decide +kernel
theorem dX6_zoneOf_23 : decode cX6_zoneOf 23 = .ok (.if_icmp .ge 12, 3) := by decide +kernel
theorem dX6_zoneOf_26 : decode cX6_zoneOf 26 = .ok (.aload_n 0, 1) := by decide +kernel
theorem dX6_zoneOf_27 : decode cX6_zoneOf 27 = .ok (.iload_n 1, 1) := by decide +kernel
theorem dX6_zoneOf_28 : decode cX6_zoneOf 28 = .ok (.iload_n 2, 1) := by decide +kernel
theorem dX6_zoneOf_29 : decode cX6_zoneOf 29 = .ok (.invokevirtual 44, 3) := by decide +kernel
theorem dX6_zoneOf_32 : decode cX6_zoneOf 32 = .ok (.goto 30, 3) := by decide +kernel
theorem dX6_zoneOf_35 : decode cX6_zoneOf 35 = .ok (.iload_n 2, 1) := by decide +kernel
theorem dX6_zoneOf_36 : decode cX6_zoneOf 36 = .ok (.bipush 7, 2) := by decide +kernel
theorem dX6_zoneOf_38 : decode cX6_zoneOf 38 = .ok (.if_icmp .ne 11, 3) := by decide +kernel
theorem dX6_zoneOf_41 : decode cX6_zoneOf 41 = .ok (.aload_n 0, 1) := by decide +kernel
theorem dX6_zoneOf_42 : decode cX6_zoneOf 42 = .ok (.iload_n 1, 1) := by decide +kernel
theorem dX6_zoneOf_43 : decode cX6_zoneOf 43 = .ok (.invokevirtual 182, 3) := by decide +kernel
theorem dX6_zoneOf_46 : decode cX6_zoneOf 46 = .ok (.goto 16, 3) := by decide +kernel
theorem dX6_zoneOf_49 : decode cX6_zoneOf 49 = .ok (.aload_n 0, 1) := by decide +kernel
theorem dX6_zoneOf_50 : decode cX6_zoneOf 50 = .ok (.iload_n 1, 1) := by decide +kernel
theorem dX6_zoneOf_51 : decode cX6_zoneOf 51 = .ok (.invokevirtual 185, 3) := by decide +kernel
theorem dX6_zoneOf_54 : decode cX6_zoneOf 54 = .ok (.ifCond .eq 7, 3) := by decide +kernel
theorem dX6_zoneOf_57 : decode cX6_zoneOf 57 = .ok (.iconst 1, 1) := by decide +kernel
theorem dX6_zoneOf_58 : decode cX6_zoneOf 58 = .ok (.goto 4, 3) := by decide +kernel
theorem dX6_zoneOf_61 : decode cX6_zoneOf 61 = .ok (.iconst 0, 1) := by decide +kernel
theorem dX6_zoneOf_62 : decode cX6_zoneOf 62 = .ok (.ireturn, 1) := by decide +kernel
set_option maxRecDepth 20000 in
theorem ggX6_rankOf_X6_soon : GoodIn wsX6_rankOf wsX6_soon := goodIn_r _ [6, 1, 7, 8, 9, 5, 10, 11, 12, 13, 14, 15, 16, 17, 18, 19, 20, 21, 22, 23, 24, 25, 26, 27] (by decide +kernel) (by decide +kernel)
set_option maxRecDepth 20000 in
theorem gX6_rankOf_X6_soon : GoodIn wsX6_rankOf (wsV RX6 58 RX6 yX6_soon wsX6_soon) := goodIn_app (goodIn_of _ (by decide +kernel)) ggX6_rankOf_X6_soon
theorem dX6_rankOf_0 : decode cX6_rankOf 0 = .ok (.iconst 0, 1) := by decide +kernel
theorem dX6_rankOf_1 : decode cX6_rankOf 1 = .ok (.istore_n 2, 1) := by decide +kernel
theorem dX6_rankOf_2 : decode cX6_rankOf 2 = .ok (.iconst 0, 1) := by decide +kernel
theorem dX6_rankOf_3 : decode cX6_rankOf 3 = .ok (.istore_n 3, 1) := by decide +kernel
theorem dX6_rankOf_4 : decode cX6_rankOf 4 = .ok (.iload_n 3, 1) := by decide +kernel
theorem dX6_rankOf_5 : decode cX6_rankOf 5 = .ok (.aload_n 0, 1) := by decide +kernel
theorem dX6_rankOf_6 : decode cX6_rankOf 6 = .ok (.getfield 7, 3) := by decide +kernel
theorem dX6_rankOf_9 : decode cX6_rankOf 9 = .ok (.iconst 1, 1) := by decide +kernel
theorem dX6_rankOf_10 : decode cX6_rankOf 10 = .ok (.iaload, 1) := by decide +kernel
theorem dX6_rankOf_11 : decode cX6_rankOf 11 = .ok (.if_icmp .ge 48, 3) := by decide +kernel
theorem dX6_rankOf_14 : decode cX6_rankOf 14 = .ok (.iload_n 2, 1) := by decide +kernel
theorem dX6_rankOf_15 : decode cX6_rankOf 15 = .ok (.aload_n 0, 1) := by decide +kernel
theorem dX6_rankOf_16 : decode cX6_rankOf 16 = .ok (.iload_n 3, 1) := by decide +kernel
theorem dX6_rankOf_17 : decode cX6_rankOf 17 = .ok (.invokevirtual 58, 3) := by decide +kernel
theorem dX6_rankOf_20 : decode cX6_rankOf 20 = .ok (.aload_n 0, 1) := by decide +kernel
theorem dX6_rankOf_21 : decode cX6_rankOf 21 = .ok (.iload_n 1, 1) := by decide +kernel
theorem dX6_rankOf_22 : decode cX6_rankOf 22 = .ok (.invokevirtual 58, 3) := by decide +kernel
theorem dX6_rankOf_25 : decode cX6_rankOf 25 = .ok (.if_icmp .gt 21, 3) := by decide +kernel
theorem dX6_rankOf_28 : decode cX6_rankOf 28 = .ok (.aload_n 0, 1) := by decide +kernel
theorem dX6_rankOf_29 : decode cX6_rankOf 29 = .ok (.iload_n 3, 1) := by decide +kernel
theorem dX6_rankOf_30 : decode cX6_rankOf 30 = .ok (.invokevirtual 58, 3) := by decide +kernel
theorem dX6_rankOf_33 : decode cX6_rankOf 33 = .ok (.aload_n 0, 1) := by decide +kernel
theorem dX6_rankOf_34 : decode cX6_rankOf 34 = .ok (.iload_n 1, 1) := by decide +kernel
theorem dX6_rankOf_35 : decode cX6_rankOf 35 = .ok (.invokevirtual 58, 3) := by decide +kernel
theorem dX6_rankOf_38 : decode cX6_rankOf 38 = .ok (.if_icmp .ne 12, 3) := by decide +kernel
theorem dX6_rankOf_41 : decode cX6_rankOf 41 = .ok (.iload_n 3, 1) := by decide +kernel
theorem dX6_rankOf_42 : decode cX6_rankOf 42 = .ok (.iload_n 1, 1) := by decide +kernel
theorem dX6_rankOf_43 : decode cX6_rankOf 43 = .ok (.if_icmp .ge 7, 3) := by decide +kernel
theorem dX6_rankOf_46 : decode cX6_rankOf 46 = .ok (.iconst 1, 1) := by decide +kernel
theorem dX6_rankOf_47 : decode cX6_rankOf 47 = .ok (.goto 4, 3) := by decide +kernel
theorem dX6_rankOf_50 : decode cX6_rankOf 50 = .ok (.iconst 0, 1) := by decide +kernel
theorem dX6_rankOf_51 : decode cX6_rankOf 51 = .ok (.iadd, 1) := by decide +kernel
theorem dX6_rankOf_52 : decode cX6_rankOf 52 = .ok (.istore_n 2, 1) := by decide +kernel
theorem dX6_rankOf_53 : decode cX6_rankOf 53 = .ok (.iinc 3 1, 3) := by decide +kernel
theorem dX6_rankOf_56 : decode cX6_rankOf 56 = .ok (.goto (-52), 3) := by decide +kernel
theorem dX6_rankOf_59 : decode cX6_rankOf 59 = .ok (.iload_n 2, 1) := by decide +kernel
theorem dX6_rankOf_60 : decode cX6_rankOf 60 = .ok (.ireturn, 1) := by decide +kernel
set_option maxRecDepth 20000 in
theorem ggX6_voice_X6_in : GoodIn wsX6_voice wsX6_in := goodIn_r _ [5] (by decide +kernel) (by decide +kernel)
set_option maxRecDepth 20000 in
theorem gX6_voice_X6_in : GoodIn wsX6_voice (va_wsS RX6 40 yX6_in wsX6_in) := goodIn_app (goodIn_of _ (by decide +kernel)) ggX6_voice_X6_in
set_option maxRecDepth 20000 in
theorem ggX6_voice_X6_of : GoodIn wsX6_voice wsX6_of := goodIn_r _ [9, 1, 18, 19, 20, 21, 22, 23, 24, 25, 26, 27, 28, 29, 30, 31, 32, 33, 34] (by decide +kernel) (by decide +kernel)
set_option maxRecDepth 20000 in
theorem gX6_voice_X6_of : GoodIn wsX6_voice (wsV RX6 55 RX6 yX6_of wsX6_of) := goodIn_app (goodIn_of _ (by decide +kernel)) ggX6_voice_X6_of
set_option maxRecDepth 20000 in
theorem ggX6_voice_X6_rankOf : GoodIn wsX6_voice wsX6_rankOf := goodIn_r _ [13, 1, 14, 15, 16, 4, 17, 6, 7, 8, 9, 18, 19, 20, 21, 22, 23, 24, 25, 26, 27, 28, 29, 30, 31, 32, 33, 34] (by decide +kernel) (by decide +kernel)
set_option maxRecDepth 20000 in
theorem gX6_voice_X6_rankOf : GoodIn wsX6_voice (wsV RX6 188 RX6 yX6_rankOf wsX6_rankOf) := goodIn_app (goodIn_of _ (by decide +kernel)) ggX6_voice_X6_rankOf
theorem dX6_voice_0 : decode cX6_voice 0 = .ok (.iload_n 1, 1) := by decide +kernel
theorem dX6_voice_1 : decode cX6_voice 1 = .ok (.iconst 0, 1) := by decide +kernel
theorem dX6_voice_2 : decode cX6_voice 2 = .ok (.aload_n 0, 1) := by decide +kernel
theorem dX6_voice_3 : decode cX6_voice 3 = .ok (.getfield 7, 3) := by decide +kernel
theorem dX6_voice_6 : decode cX6_voice 6 = .ok (.iconst 1, 1) := by decide +kernel
theorem dX6_voice_7 : decode cX6_voice 7 = .ok (.iaload, 1) := by decide +kernel
theorem dX6_voice_8 : decode cX6_voice 8 = .ok (.iconst 1, 1) := by decide +kernel
theorem dX6_voice_9 : decode cX6_voice 9 = .ok (.isub, 1) := by decide +kernel
theorem dX6_voice_10 : decode cX6_voice 10 = .ok (.invokestatic 40, 3) := by decide +kernel
theorem dX6_voice_13 : decode cX6_voice 13 = .ok (.ifCond .eq 13, 3) := by decide +kernel
theorem dX6_voice_16 : decode cX6_voice 16 = .ok (.iload_n 2, 1) := by decide +kernel
theorem dX6_voice_17 : decode cX6_voice 17 = .ok (.iconst 0, 1) := by decide +kernel
theorem dX6_voice_18 : decode cX6_voice 18 = .ok (.bipush 6, 2) := by decide +kernel
theorem dX6_voice_20 : decode cX6_voice 20 = .ok (.invokestatic 40, 3) := by decide +kernel
theorem dX6_voice_23 : decode cX6_voice 23 = .ok (.ifCond .ne 5, 3) := by decide +kernel
theorem dX6_voice_26 : decode cX6_voice 26 = .ok (.iconst (-1), 1) := by decide +kernel
theorem dX6_voice_27 : decode cX6_voice 27 = .ok (.ireturn, 1) := by decide +kernel
theorem dX6_voice_28 : decode cX6_voice 28 = .ok (.iload_n 2, 1) := by decide +kernel
theorem dX6_voice_29 : decode cX6_voice 29 = .ok (.bipush 6, 2) := by decide +kernel
theorem dX6_voice_31 : decode cX6_voice 31 = .ok (.if_icmp .ge 12, 3) := by decide +kernel
theorem dX6_voice_34 : decode cX6_voice 34 = .ok (.aload_n 0, 1) := by decide +kernel
theorem dX6_voice_35 : decode cX6_voice 35 = .ok (.iload_n 1, 1) := by decide +kernel
theorem dX6_voice_36 : decode cX6_voice 36 = .ok (.iload_n 2, 1) := by decide +kernel
theorem dX6_voice_37 : decode cX6_voice 37 = .ok (.invokevirtual 55, 3) := by decide +kernel
theorem dX6_voice_40 : decode cX6_voice 40 = .ok (.goto 8, 3) := by decide +kernel
theorem dX6_voice_43 : decode cX6_voice 43 = .ok (.aload_n 0, 1) := by decide +kernel
theorem dX6_voice_44 : decode cX6_voice 44 = .ok (.iload_n 1, 1) := by decide +kernel
theorem dX6_voice_45 : decode cX6_voice 45 = .ok (.invokevirtual 188, 3) := by decide +kernel
theorem dX6_voice_48 : decode cX6_voice 48 = .ok (.ireturn, 1) := by decide +kernel
set_option maxRecDepth 20000 in
theorem ggX6_answers_X6_isNote : GoodIn wsX6_answers wsX6_isNote := goodIn_r _ [4, 5, 6, 3, 7] (by decide +kernel) (by decide +kernel)
set_option maxRecDepth 20000 in
theorem gX6_answers_X6_isNote : GoodIn wsX6_answers (va_wsS RX6 103 yX6_isNote wsX6_isNote) := goodIn_app (goodIn_of _ (by decide +kernel)) ggX6_answers_X6_isNote
set_option maxRecDepth 20000 in
theorem ggX6_answers_X6_answering : GoodIn wsX6_answers wsX6_answering := goodIn_r _ [11, 12, 13, 14, 15, 3, 16, 17, 18, 19, 20, 5, 6, 7, 21, 22, 23, 24, 25, 26, 27, 28, 29, 30, 31, 32, 33, 34, 35, 36, 37] (by decide +kernel) (by decide +kernel)
set_option maxRecDepth 20000 in
theorem gX6_answers_X6_answering : GoodIn wsX6_answers (wsV RX6 191 RX6 yX6_answering wsX6_answering) := goodIn_app (goodIn_of _ (by decide +kernel)) ggX6_answers_X6_answering
theorem dX6_answers_0 : decode cX6_answers 0 = .ok (.iload_n 1, 1) := by decide +kernel
theorem dX6_answers_1 : decode cX6_answers 1 = .ok (.iload_n 2, 1) := by decide +kernel
theorem dX6_answers_2 : decode cX6_answers 2 = .ok (.invokestatic 103, 3) := by decide +kernel
theorem dX6_answers_5 : decode cX6_answers 5 = .ok (.ifCond .eq 12, 3) := by decide +kernel
theorem dX6_answers_8 : decode cX6_answers 8 = .ok (.aload_n 0, 1) := by decide +kernel
theorem dX6_answers_9 : decode cX6_answers 9 = .ok (.iload_n 1, 1) := by decide +kernel
theorem dX6_answers_10 : decode cX6_answers 10 = .ok (.iload_n 2, 1) := by decide +kernel
theorem dX6_answers_11 : decode cX6_answers 11 = .ok (.invokevirtual 191, 3) := by decide +kernel
theorem dX6_answers_14 : decode cX6_answers 14 = .ok (.goto 4, 3) := by decide +kernel
theorem dX6_answers_17 : decode cX6_answers 17 = .ok (.iconst (-1), 1) := by decide +kernel
theorem dX6_answers_18 : decode cX6_answers 18 = .ok (.ireturn, 1) := by decide +kernel
set_option maxRecDepth 20000 in
theorem ggX6_map_X6_in : GoodIn wsX6_map wsX6_in := goodIn_r _ [4] (by decide +kernel) (by decide +kernel)
set_option maxRecDepth 20000 in
theorem gX6_map_X6_in : GoodIn wsX6_map (va_wsS RX6 40 yX6_in wsX6_in) := goodIn_app (goodIn_of _ (by decide +kernel)) ggX6_map_X6_in
set_option maxRecDepth 20000 in
theorem ggX6_map_X6_answering : GoodIn wsX6_map wsX6_answering := goodIn_r _ [8, 9, 10, 11, 12, 3, 13, 14, 15, 16, 17, 1, 2, 4, 18, 19, 20, 21, 22, 23, 24, 25, 26, 27, 28, 29, 30, 31, 32, 33, 34] (by decide +kernel) (by decide +kernel)
set_option maxRecDepth 20000 in
theorem gX6_map_X6_answering : GoodIn wsX6_map (wsV RX6 191 RX6 yX6_answering wsX6_answering) := goodIn_app (goodIn_of _ (by decide +kernel)) ggX6_map_X6_answering
theorem dX6_map_0 : decode cX6_map 0 = .ok (.iload_n 1, 1) := by decide +kernel
theorem dX6_map_1 : decode cX6_map 1 = .ok (.iconst 0, 1) := by decide +kernel
theorem dX6_map_2 : decode cX6_map 2 = .ok (.iconst 3, 1) := by decide +kernel
theorem dX6_map_3 : decode cX6_map 3 = .ok (.invokestatic 40, 3) := by decide +kernel
theorem dX6_map_6 : decode cX6_map 6 = .ok (.ifCond .eq 12, 3) := by decide +kernel
theorem dX6_map_9 : decode cX6_map 9 = .ok (.iload_n 2, 1) := by decide +kernel
theorem dX6_map_10 : decode cX6_map 10 = .ok (.iconst 0, 1) := by decide +kernel
theorem dX6_map_11 : decode cX6_map 11 = .ok (.iconst 1, 1) := by decide +kernel
theorem dX6_map_12 : decode cX6_map 12 = .ok (.invokestatic 40, 3) := by decide +kernel
theorem dX6_map_15 : decode cX6_map 15 = .ok (.ifCond .ne 5, 3) := by decide +kernel
theorem dX6_map_18 : decode cX6_map 18 = .ok (.iconst (-1), 1) := by decide +kernel
theorem dX6_map_19 : decode cX6_map 19 = .ok (.ireturn, 1) := by decide +kernel
theorem dX6_map_20 : decode cX6_map 20 = .ok (.iconst 0, 1) := by decide +kernel
theorem dX6_map_21 : decode cX6_map 21 = .ok (.istore_n 3, 1) := by decide +kernel
theorem dX6_map_22 : decode cX6_map 22 = .ok (.iconst 0, 1) := by decide +kernel
theorem dX6_map_23 : decode cX6_map 23 = .ok (.istore 4, 2) := by decide +kernel
theorem dX6_map_25 : decode cX6_map 25 = .ok (.iconst 0, 1) := by decide +kernel
theorem dX6_map_26 : decode cX6_map 26 = .ok (.istore 5, 2) := by decide +kernel
theorem dX6_map_28 : decode cX6_map 28 = .ok (.bipush (-4), 2) := by decide +kernel
theorem dX6_map_30 : decode cX6_map 30 = .ok (.istore 6, 2) := by decide +kernel
theorem dX6_map_32 : decode cX6_map 32 = .ok (.iconst 0, 1) := by decide +kernel
theorem dX6_map_33 : decode cX6_map 33 = .ok (.istore 7, 2) := by decide +kernel
theorem dX6_map_35 : decode cX6_map 35 = .ok (.iload 7, 2) := by decide +kernel
theorem dX6_map_37 : decode cX6_map 37 = .ok (.bipush 36, 2) := by decide +kernel
theorem dX6_map_39 : decode cX6_map 39 = .ok (.if_icmp .ge 101, 3) := by decide +kernel
theorem dX6_map_42 : decode cX6_map 42 = .ok (.iconst 1, 1) := by decide +kernel
theorem dX6_map_43 : decode cX6_map 43 = .ok (.istore 8, 2) := by decide +kernel
theorem dX6_map_45 : decode cX6_map 45 = .ok (.iload 8, 2) := by decide +kernel
theorem dX6_map_47 : decode cX6_map 47 = .ok (.bipush 9, 2) := by decide +kernel
theorem dX6_map_49 : decode cX6_map 49 = .ok (.if_icmp .gt 85, 3) := by decide +kernel
theorem dX6_map_52 : decode cX6_map 52 = .ok (.aload_n 0, 1) := by decide +kernel
theorem dX6_map_53 : decode cX6_map 53 = .ok (.iload 7, 2) := by decide +kernel
theorem dX6_map_55 : decode cX6_map 55 = .ok (.iload 8, 2) := by decide +kernel
theorem dX6_map_57 : decode cX6_map 57 = .ok (.invokevirtual 191, 3) := by decide +kernel
theorem dX6_map_60 : decode cX6_map 60 = .ok (.istore 9, 2) := by decide +kernel
theorem dX6_map_62 : decode cX6_map 62 = .ok (.iload_n 3, 1) := by decide +kernel
theorem dX6_map_63 : decode cX6_map 63 = .ok (.iload 9, 2) := by decide +kernel
theorem dX6_map_65 : decode cX6_map 65 = .ok (.ifCond .ne 7, 3) := by decide +kernel
theorem dX6_map_68 : decode cX6_map 68 = .ok (.iconst 1, 1) := by decide +kernel
theorem dX6_map_69 : decode cX6_map 69 = .ok (.goto 4, 3) := by decide +kernel
theorem dX6_map_72 : decode cX6_map 72 = .ok (.iconst 0, 1) := by decide +kernel
theorem dX6_map_73 : decode cX6_map 73 = .ok (.iadd, 1) := by decide +kernel
theorem dX6_map_74 : decode cX6_map 74 = .ok (.istore_n 3, 1) := by decide +kernel
theorem dX6_map_75 : decode cX6_map 75 = .ok (.iload 4, 2) := by decide +kernel
theorem dX6_map_77 : decode cX6_map 77 = .ok (.iload 9, 2) := by decide +kernel
theorem dX6_map_79 : decode cX6_map 79 = .ok (.iconst 1, 1) := by decide +kernel
theorem dX6_map_80 : decode cX6_map 80 = .ok (.if_icmp .le 7, 3) := by decide +kernel
theorem dX6_map_83 : decode cX6_map 83 = .ok (.iconst 1, 1) := by decide +kernel
theorem dX6_map_84 : decode cX6_map 84 = .ok (.goto 4, 3) := by decide +kernel
theorem dX6_map_87 : decode cX6_map 87 = .ok (.iconst 0, 1) := by decide +kernel
theorem dX6_map_88 : decode cX6_map 88 = .ok (.iadd, 1) := by decide +kernel
theorem dX6_map_89 : decode cX6_map 89 = .ok (.istore 4, 2) := by decide +kernel
theorem dX6_map_91 : decode cX6_map 91 = .ok (.iload 9, 2) := by decide +kernel
theorem dX6_map_93 : decode cX6_map 93 = .ok (.iload 5, 2) := by decide +kernel
theorem dX6_map_95 : decode cX6_map 95 = .ok (.if_icmp .le 8, 3) := by decide +kernel
theorem dX6_map_98 : decode cX6_map 98 = .ok (.iload 9, 2) := by decide +kernel
theorem dX6_map_100 : decode cX6_map 100 = .ok (.goto 5, 3) := by decide +kernel
theorem dX6_map_103 : decode cX6_map 103 = .ok (.iload 5, 2) := by decide +kernel
theorem dX6_map_105 : decode cX6_map 105 = .ok (.istore 5, 2) := by decide +kernel
theorem dX6_map_107 : decode cX6_map 107 = .ok (.iload 9, 2) := by decide +kernel
theorem dX6_map_109 : decode cX6_map 109 = .ok (.ifCond .ne 15, 3) := by decide +kernel
theorem dX6_map_112 : decode cX6_map 112 = .ok (.iload 6, 2) := by decide +kernel
theorem dX6_map_114 : decode cX6_map 114 = .ok (.bipush (-4), 2) := by decide +kernel
theorem dX6_map_116 : decode cX6_map 116 = .ok (.if_icmp .ne 8, 3) := by decide +kernel
theorem dX6_map_119 : decode cX6_map 119 = .ok (.iload 7, 2) := by decide +kernel
theorem dX6_map_121 : decode cX6_map 121 = .ok (.goto 5, 3) := by decide +kernel
theorem dX6_map_124 : decode cX6_map 124 = .ok (.iload 6, 2) := by decide +kernel
theorem dX6_map_126 : decode cX6_map 126 = .ok (.istore 6, 2) := by decide +kernel
theorem dX6_map_128 : decode cX6_map 128 = .ok (.iinc 8 1, 3) := by decide +kernel
theorem dX6_map_131 : decode cX6_map 131 = .ok (.goto (-86), 3) := by decide +kernel
theorem dX6_map_134 : decode cX6_map 134 = .ok (.iinc 7 1, 3) := by decide +kernel
theorem dX6_map_137 : decode cX6_map 137 = .ok (.goto (-102), 3) := by decide +kernel
theorem dX6_map_140 : decode cX6_map 140 = .ok (.iload_n 1, 1) := by decide +kernel
theorem dX6_map_141 : decode cX6_map 141 = .ok (.ifCond .ne 7, 3) := by decide +kernel
theorem dX6_map_144 : decode cX6_map 144 = .ok (.iload_n 3, 1) := by decide +kernel
theorem dX6_map_145 : decode cX6_map 145 = .ok (.goto 25, 3) := by decide +kernel
theorem dX6_map_148 : decode cX6_map 148 = .ok (.iload_n 1, 1) := by decide +kernel
theorem dX6_map_149 : decode cX6_map 149 = .ok (.iconst 1, 1) := by decide +kernel
theorem dX6_map_150 : decode cX6_map 150 = .ok (.if_icmp .ne 8, 3) := by decide +kernel
theorem dX6_map_153 : decode cX6_map 153 = .ok (.iload 4, 2) := by decide +kernel
theorem dX6_map_155 : decode cX6_map 155 = .ok (.goto 15, 3) := by decide +kernel
theorem dX6_map_158 : decode cX6_map 158 = .ok (.iload_n 1, 1) := by decide +kernel
theorem dX6_map_159 : decode cX6_map 159 = .ok (.iconst 2, 1) := by decide +kernel
theorem dX6_map_160 : decode cX6_map 160 = .ok (.if_icmp .ne 8, 3) := by decide +kernel
theorem dX6_map_163 : decode cX6_map 163 = .ok (.iload 5, 2) := by decide +kernel
theorem dX6_map_165 : decode cX6_map 165 = .ok (.goto 5, 3) := by decide +kernel
theorem dX6_map_168 : decode cX6_map 168 = .ok (.iload 6, 2) := by decide +kernel
theorem dX6_map_170 : decode cX6_map 170 = .ok (.ireturn, 1) := by decide +kernel
set_option maxRecDepth 20000 in
theorem ggX6_inState_X6_of : GoodIn wsX6_inState wsX6_of := goodIn_r _ [6, 1, 7, 8, 9, 10, 11, 12, 13, 14, 15, 16, 17, 18, 19, 20, 21, 22, 23] (by decide +kernel) (by decide +kernel)
set_option maxRecDepth 20000 in
theorem gX6_inState_X6_of : GoodIn wsX6_inState (wsV RX6 55 RX6 yX6_of wsX6_of) := goodIn_app (goodIn_of _ (by decide +kernel)) ggX6_inState_X6_of
theorem dX6_inState_0 : decode cX6_inState 0 = .ok (.iconst 0, 1) := by decide +kernel
theorem dX6_inState_1 : decode cX6_inState 1 = .ok (.istore_n 2, 1) := by decide +kernel
theorem dX6_inState_2 : decode cX6_inState 2 = .ok (.iconst 0, 1) := by decide +kernel
theorem dX6_inState_3 : decode cX6_inState 3 = .ok (.istore_n 3, 1) := by decide +kernel
theorem dX6_inState_4 : decode cX6_inState 4 = .ok (.iload_n 3, 1) := by decide +kernel
theorem dX6_inState_5 : decode cX6_inState 5 = .ok (.aload_n 0, 1) := by decide +kernel
theorem dX6_inState_6 : decode cX6_inState 6 = .ok (.getfield 7, 3) := by decide +kernel
theorem dX6_inState_9 : decode cX6_inState 9 = .ok (.iconst 1, 1) := by decide +kernel
theorem dX6_inState_10 : decode cX6_inState 10 = .ok (.iaload, 1) := by decide +kernel
theorem dX6_inState_11 : decode cX6_inState 11 = .ok (.if_icmp .ge 27, 3) := by decide +kernel
theorem dX6_inState_14 : decode cX6_inState 14 = .ok (.iload_n 2, 1) := by decide +kernel
theorem dX6_inState_15 : decode cX6_inState 15 = .ok (.aload_n 0, 1) := by decide +kernel
theorem dX6_inState_16 : decode cX6_inState 16 = .ok (.iload_n 3, 1) := by decide +kernel
theorem dX6_inState_17 : decode cX6_inState 17 = .ok (.iconst 5, 1) := by decide +kernel
theorem dX6_inState_18 : decode cX6_inState 18 = .ok (.invokevirtual 55, 3) := by decide +kernel
theorem dX6_inState_21 : decode cX6_inState 21 = .ok (.iload_n 1, 1) := by decide +kernel
theorem dX6_inState_22 : decode cX6_inState 22 = .ok (.if_icmp .ne 7, 3) := by decide +kernel
theorem dX6_inState_25 : decode cX6_inState 25 = .ok (.iconst 1, 1) := by decide +kernel
theorem dX6_inState_26 : decode cX6_inState 26 = .ok (.goto 4, 3) := by decide +kernel
theorem dX6_inState_29 : decode cX6_inState 29 = .ok (.iconst 0, 1) := by decide +kernel
theorem dX6_inState_30 : decode cX6_inState 30 = .ok (.iadd, 1) := by decide +kernel
theorem dX6_inState_31 : decode cX6_inState 31 = .ok (.istore_n 2, 1) := by decide +kernel
theorem dX6_inState_32 : decode cX6_inState 32 = .ok (.iinc 3 1, 3) := by decide +kernel
theorem dX6_inState_35 : decode cX6_inState 35 = .ok (.goto (-31), 3) := by decide +kernel
theorem dX6_inState_38 : decode cX6_inState 38 = .ok (.iload_n 2, 1) := by decide +kernel
theorem dX6_inState_39 : decode cX6_inState 39 = .ok (.ireturn, 1) := by decide +kernel
set_option maxRecDepth 20000 in
theorem ggX6_allLoud_X6_of : GoodIn wsX6_allLoud wsX6_of := goodIn_r _ [6, 1, 7, 8, 9, 10, 11, 12, 13, 14, 15, 16, 17, 18, 19, 20, 21, 22, 23] (by decide +kernel) (by decide +kernel)
set_option maxRecDepth 20000 in
theorem gX6_allLoud_X6_of : GoodIn wsX6_allLoud (wsV RX6 55 RX6 yX6_of wsX6_of) := goodIn_app (goodIn_of _ (by decide +kernel)) ggX6_allLoud_X6_of
theorem dX6_allLoud_0 : decode cX6_allLoud 0 = .ok (.iconst 0, 1) := by decide +kernel
theorem dX6_allLoud_1 : decode cX6_allLoud 1 = .ok (.istore_n 1, 1) := by decide +kernel
theorem dX6_allLoud_2 : decode cX6_allLoud 2 = .ok (.iconst 0, 1) := by decide +kernel
theorem dX6_allLoud_3 : decode cX6_allLoud 3 = .ok (.istore_n 2, 1) := by decide +kernel
theorem dX6_allLoud_4 : decode cX6_allLoud 4 = .ok (.iload_n 2, 1) := by decide +kernel
theorem dX6_allLoud_5 : decode cX6_allLoud 5 = .ok (.aload_n 0, 1) := by decide +kernel
theorem dX6_allLoud_6 : decode cX6_allLoud 6 = .ok (.getfield 7, 3) := by decide +kernel
theorem dX6_allLoud_9 : decode cX6_allLoud 9 = .ok (.iconst 1, 1) := by decide +kernel
theorem dX6_allLoud_10 : decode cX6_allLoud 10 = .ok (.iaload, 1) := by decide +kernel
theorem dX6_allLoud_11 : decode cX6_allLoud 11 = .ok (.if_icmp .ge 18, 3) := by decide +kernel
theorem dX6_allLoud_14 : decode cX6_allLoud 14 = .ok (.iload_n 1, 1) := by decide +kernel
theorem dX6_allLoud_15 : decode cX6_allLoud 15 = .ok (.aload_n 0, 1) := by decide +kernel
theorem dX6_allLoud_16 : decode cX6_allLoud 16 = .ok (.iload_n 2, 1) := by decide +kernel
theorem dX6_allLoud_17 : decode cX6_allLoud 17 = .ok (.iconst 3, 1) := by decide +kernel
theorem dX6_allLoud_18 : decode cX6_allLoud 18 = .ok (.invokevirtual 55, 3) := by decide +kernel
theorem dX6_allLoud_21 : decode cX6_allLoud 21 = .ok (.iadd, 1) := by decide +kernel
theorem dX6_allLoud_22 : decode cX6_allLoud 22 = .ok (.istore_n 1, 1) := by decide +kernel
theorem dX6_allLoud_23 : decode cX6_allLoud 23 = .ok (.iinc 2 1, 3) := by decide +kernel
theorem dX6_allLoud_26 : decode cX6_allLoud 26 = .ok (.goto (-22), 3) := by decide +kernel
theorem dX6_allLoud_29 : decode cX6_allLoud 29 = .ok (.iload_n 1, 1) := by decide +kernel
theorem dX6_allLoud_30 : decode cX6_allLoud 30 = .ok (.ireturn, 1) := by decide +kernel
set_option maxRecDepth 20000 in
theorem ggX6_count_X6_inState : GoodIn wsX6_count wsX6_inState := goodIn_r _ [8, 1, 9, 10, 11, 7, 12, 20, 21, 22, 23, 24, 25, 26, 27, 28, 29, 30, 31, 32, 33, 34, 35, 36] (by decide +kernel) (by decide +kernel)
set_option maxRecDepth 20000 in
theorem gX6_count_X6_inState : GoodIn wsX6_count (wsV RX6 194 RX6 yX6_inState wsX6_inState) := goodIn_app (goodIn_of _ (by decide +kernel)) ggX6_count_X6_inState
set_option maxRecDepth 20000 in
theorem ggX6_count_X6_allLoud : GoodIn wsX6_count wsX6_allLoud := goodIn_r _ [16, 1, 9, 10, 11, 7, 12, 20, 21, 22, 23, 24, 25, 26, 27, 28, 29, 30, 31, 32, 33, 34, 35, 36] (by decide +kernel) (by decide +kernel)
set_option maxRecDepth 20000 in
theorem gX6_count_X6_allLoud : GoodIn wsX6_count (wsV RX6 197 RX6 yX6_allLoud wsX6_allLoud) := goodIn_app (goodIn_of _ (by decide +kernel)) ggX6_count_X6_allLoud
set_option maxRecDepth 20000 in
theorem ggX6_count_X6_in : GoodIn wsX6_count wsX6_in := goodIn_r _ [19] (by decide +kernel) (by decide +kernel)
set_option maxRecDepth 20000 in
theorem gX6_count_X6_in : GoodIn wsX6_count (va_wsS RX6 40 yX6_in wsX6_in) := goodIn_app (goodIn_of _ (by decide +kernel)) ggX6_count_X6_in
theorem dX6_count_0 : decode cX6_count 0 = .ok (.iload_n 1, 1) := by decide +kernel
theorem dX6_count_1 : decode cX6_count 1 = .ok (.tableswitch 133 0 21 #[103, 103, 110, 110, 110, 118, 133, 133, 133, 133, 133, 133, 133, 133, 133, 133, 133, 133, 133, 133, 123, 128], 103) := by decide +kernel
theorem dX6_count_104 : decode cX6_count 104 = .ok (.aload_n 0, 1) := by decide +kernel
theorem dX6_count_105 : decode cX6_count 105 = .ok (.getfield 7, 3) := by decide +kernel
theorem dX6_count_108 : decode cX6_count 108 = .ok (.iload_n 1, 1) := by decide +kernel
theorem dX6_count_109 : decode cX6_count 109 = .ok (.iaload, 1) := by decide +kernel
theorem dX6_count_110 : decode cX6_count 110 = .ok (.ireturn, 1) := by decide +kernel
theorem dX6_count_111 : decode cX6_count 111 = .ok (.aload_n 0, 1) := by decide +kernel
theorem dX6_count_112 : decode cX6_count 112 = .ok (.iload_n 1, 1) := by decide +kernel
theorem dX6_count_113 : decode cX6_count 113 = .ok (.iconst 2, 1) := by decide +kernel
theorem dX6_count_114 : decode cX6_count 114 = .ok (.isub, 1) := by decide +kernel
theorem dX6_count_115 : decode cX6_count 115 = .ok (.invokevirtual 194, 3) := by decide +kernel
theorem dX6_count_118 : decode cX6_count 118 = .ok (.ireturn, 1) := by decide +kernel
theorem dX6_count_119 : decode cX6_count 119 = .ok (.aload_n 0, 1) := by decide +kernel
theorem dX6_count_120 : decode cX6_count 120 = .ok (.invokevirtual 197, 3) := by decide +kernel
theorem dX6_count_123 : decode cX6_count 123 = .ok (.ireturn, 1) := by decide +kernel
theorem dX6_count_124 : decode cX6_count 124 = .ok (.aload_n 0, 1) := by decide +kernel
theorem dX6_count_125 : decode cX6_count 125 = .ok (.getfield 125, 3) := by decide +kernel
theorem dX6_count_128 : decode cX6_count 128 = .ok (.ireturn, 1) := by decide +kernel
theorem dX6_count_129 : decode cX6_count 129 = .ok (.aload_n 0, 1) := by decide +kernel
theorem dX6_count_130 : decode cX6_count 130 = .ok (.getfield 32, 3) := by decide +kernel
theorem dX6_count_133 : decode cX6_count 133 = .ok (.ireturn, 1) := by decide +kernel
theorem dX6_count_134 : decode cX6_count 134 = .ok (.iload_n 1, 1) := by decide +kernel
theorem dX6_count_135 : decode cX6_count 135 = .ok (.bipush 6, 2) := by decide +kernel
theorem dX6_count_137 : decode cX6_count 137 = .ok (.bipush 19, 2) := by decide +kernel
theorem dX6_count_139 : decode cX6_count 139 = .ok (.invokestatic 40, 3) := by decide +kernel
theorem dX6_count_142 : decode cX6_count 142 = .ok (.ifCond .eq 17, 3) := by decide +kernel
theorem dX6_count_145 : decode cX6_count 145 = .ok (.aload_n 0, 1) := by decide +kernel
theorem dX6_count_146 : decode cX6_count 146 = .ok (.getfield 7, 3) := by decide +kernel
theorem dX6_count_149 : decode cX6_count 149 = .ok (.iconst 2, 1) := by decide +kernel
theorem dX6_count_150 : decode cX6_count 150 = .ok (.iload_n 1, 1) := by decide +kernel
theorem dX6_count_151 : decode cX6_count 151 = .ok (.iadd, 1) := by decide +kernel
theorem dX6_count_152 : decode cX6_count 152 = .ok (.bipush 6, 2) := by decide +kernel
theorem dX6_count_154 : decode cX6_count 154 = .ok (.isub, 1) := by decide +kernel
theorem dX6_count_155 : decode cX6_count 155 = .ok (.iaload, 1) := by decide +kernel
theorem dX6_count_156 : decode cX6_count 156 = .ok (.goto 4, 3) := by decide +kernel
theorem dX6_count_159 : decode cX6_count 159 = .ok (.iconst (-1), 1) := by decide +kernel
theorem dX6_count_160 : decode cX6_count 160 = .ok (.ireturn, 1) := by decide +kernel
set_option maxRecDepth 20000 in
theorem ggX6_loudness_X6_allLoud : GoodIn wsX6_loudness wsX6_allLoud := goodIn_r _ [6, 1, 7, 8, 9, 5, 10, 11, 12, 13, 14, 15, 16, 17, 18, 19, 20, 21, 22, 23, 24, 25, 26, 27] (by decide +kernel) (by decide +kernel)
set_option maxRecDepth 20000 in
theorem gX6_loudness_X6_allLoud : GoodIn wsX6_loudness (wsV RX6 197 RX6 yX6_allLoud wsX6_allLoud) := goodIn_app (goodIn_of _ (by decide +kernel)) ggX6_loudness_X6_allLoud
theorem dX6_loudness_0 : decode cX6_loudness 0 = .ok (.aload_n 0, 1) := by decide +kernel
theorem dX6_loudness_1 : decode cX6_loudness 1 = .ok (.getfield 7, 3) := by decide +kernel
theorem dX6_loudness_4 : decode cX6_loudness 4 = .ok (.iconst 1, 1) := by decide +kernel
theorem dX6_loudness_5 : decode cX6_loudness 5 = .ok (.iaload, 1) := by decide +kernel
theorem dX6_loudness_6 : decode cX6_loudness 6 = .ok (.ifCond .ne 7, 3) := by decide +kernel
theorem dX6_loudness_9 : decode cX6_loudness 9 = .ok (.dconst 0, 1) := by decide +kernel
theorem dX6_loudness_10 : decode cX6_loudness 10 = .ok (.goto 16, 3) := by decide +kernel
theorem dX6_loudness_13 : decode cX6_loudness 13 = .ok (.aload_n 0, 1) := by decide +kernel
theorem dX6_loudness_14 : decode cX6_loudness 14 = .ok (.invokevirtual 197, 3) := by decide +kernel
theorem dX6_loudness_17 : decode cX6_loudness 17 = .ok (.i2d, 1) := by decide +kernel
theorem dX6_loudness_18 : decode cX6_loudness 18 = .ok (.aload_n 0, 1) := by decide +kernel
theorem dX6_loudness_19 : decode cX6_loudness 19 = .ok (.getfield 7, 3) := by decide +kernel
theorem dX6_loudness_22 : decode cX6_loudness 22 = .ok (.iconst 1, 1) := by decide +kernel
theorem dX6_loudness_23 : decode cX6_loudness 23 = .ok (.iaload, 1) := by decide +kernel
theorem dX6_loudness_24 : decode cX6_loudness 24 = .ok (.i2d, 1) := by decide +kernel
theorem dX6_loudness_25 : decode cX6_loudness 25 = .ok (.ddiv, 1) := by decide +kernel
theorem dX6_loudness_26 : decode cX6_loudness 26 = .ok (.dreturn, 1) := by decide +kernel
set_option maxRecDepth 20000 in
theorem ggX6_ifHit_X6_isNote : GoodIn wsX6_ifHit wsX6_isNote := goodIn_r _ [7, 8, 9, 6, 10] (by decide +kernel) (by decide +kernel)
set_option maxRecDepth 20000 in
theorem gX6_ifHit_X6_isNote : GoodIn wsX6_ifHit (va_wsS RX6 103 yX6_isNote wsX6_isNote) := goodIn_app (goodIn_of _ (by decide +kernel)) ggX6_ifHit_X6_isNote
set_option maxRecDepth 20000 in
theorem ggX6_ifHit_X6_in : GoodIn wsX6_ifHit wsX6_in := goodIn_r _ [10] (by decide +kernel) (by decide +kernel)
set_option maxRecDepth 20000 in
theorem gX6_ifHit_X6_in : GoodIn wsX6_ifHit (va_wsS RX6 40 yX6_in wsX6_in) := goodIn_app (goodIn_of _ (by decide +kernel)) ggX6_ifHit_X6_in
set_option maxRecDepth 20000 in
theorem ggX6_ifHit_X6_copies : GoodIn wsX6_ifHit wsX6_copies := goodIn_r _ [13] (by decide +kernel) (by decide +kernel)
set_option maxRecDepth 20000 in
theorem gX6_ifHit_X6_copies : GoodIn wsX6_ifHit (va_wsS RX6 36 yX6_copies wsX6_copies) := goodIn_app (goodIn_of _ (by decide +kernel)) ggX6_ifHit_X6_copies
set_option maxRecDepth 20000 in
theorem ggX6_ifHit_X6_goHit : GoodIn wsX6_ifHit wsX6_goHit := goodIn_r _ [17, 1, 3, 18, 19, 20, 21, 6, 22, 23, 24, 25, 26, 27, 28, 29, 30, 31, 32, 33, 34, 35, 36, 37, 38, 8, 9, 10, 39, 40, 41, 42, 43, 44, 45, 46, 47, 48, 49, 50, 51, 52, 53, 54, 55, 56, 57, 58, 59, 60, 61, 62, 63, 64, 65, 66, 67, 68, 69, 70, 71, 72, 73, 74, 75, 76, 77, 78, 79] (by decide +kernel) (by decide +kernel)
set_option maxRecDepth 20000 in
theorem gX6_ifHit_X6_goHit : GoodIn wsX6_ifHit (wsV RX6 107 RX6 yX6_goHit wsX6_goHit) := goodIn_app (goodIn_of _ (by decide +kernel)) ggX6_ifHit_X6_goHit
theorem dX6_ifHit_0 : decode cX6_ifHit 0 = .ok (.iload_n 1, 1) := by decide +kernel
theorem dX6_ifHit_1 : decode cX6_ifHit 1 = .ok (.iload_n 2, 1) := by decide +kernel
theorem dX6_ifHit_2 : decode cX6_ifHit 2 = .ok (.invokestatic 103, 3) := by decide +kernel
theorem dX6_ifHit_5 : decode cX6_ifHit 5 = .ok (.ifCond .eq 12, 3) := by decide +kernel
theorem dX6_ifHit_8 : decode cX6_ifHit 8 = .ok (.iload_n 3, 1) := by decide +kernel
theorem dX6_ifHit_9 : decode cX6_ifHit 9 = .ok (.iconst 0, 1) := by decide +kernel
theorem dX6_ifHit_10 : decode cX6_ifHit 10 = .ok (.iconst 4, 1) := by decide +kernel
theorem dX6_ifHit_11 : decode cX6_ifHit 11 = .ok (.invokestatic 40, 3) := by decide +kernel
theorem dX6_ifHit_14 : decode cX6_ifHit 14 = .ok (.ifCond .ne 5, 3) := by decide +kernel
theorem dX6_ifHit_17 : decode cX6_ifHit 17 = .ok (.iconst (-1), 1) := by decide +kernel
theorem dX6_ifHit_18 : decode cX6_ifHit 18 = .ok (.ireturn, 1) := by decide +kernel
theorem dX6_ifHit_19 : decode cX6_ifHit 19 = .ok (.aload_n 0, 1) := by decide +kernel
theorem dX6_ifHit_20 : decode cX6_ifHit 20 = .ok (.getfield 7, 3) := by decide +kernel
theorem dX6_ifHit_23 : decode cX6_ifHit 23 = .ok (.iconst 0, 1) := by decide +kernel
theorem dX6_ifHit_24 : decode cX6_ifHit 24 = .ok (.aload_n 0, 1) := by decide +kernel
theorem dX6_ifHit_25 : decode cX6_ifHit 25 = .ok (.getfield 13, 3) := by decide +kernel
theorem dX6_ifHit_28 : decode cX6_ifHit 28 = .ok (.iconst 0, 1) := by decide +kernel
theorem dX6_ifHit_29 : decode cX6_ifHit 29 = .ok (.invokestatic 36, 3) := by decide +kernel
theorem dX6_ifHit_32 : decode cX6_ifHit 32 = .ok (.aload_n 0, 1) := by decide +kernel
theorem dX6_ifHit_33 : decode cX6_ifHit 33 = .ok (.iload_n 1, 1) := by decide +kernel
theorem dX6_ifHit_34 : decode cX6_ifHit 34 = .ok (.iload_n 2, 1) := by decide +kernel
theorem dX6_ifHit_35 : decode cX6_ifHit 35 = .ok (.invokevirtual 107, 3) := by decide +kernel
theorem dX6_ifHit_38 : decode cX6_ifHit 38 = .ok (.istore 4, 2) := by decide +kernel
theorem dX6_ifHit_40 : decode cX6_ifHit 40 = .ok (.iload_n 3, 1) := by decide +kernel
theorem dX6_ifHit_41 : decode cX6_ifHit 41 = .ok (.ifCond .ne 8, 3) := by decide +kernel
theorem dX6_ifHit_44 : decode cX6_ifHit 44 = .ok (.iload 4, 2) := by decide +kernel
theorem dX6_ifHit_46 : decode cX6_ifHit 46 = .ok (.goto 67, 3) := by decide +kernel
theorem dX6_ifHit_49 : decode cX6_ifHit 49 = .ok (.iload_n 3, 1) := by decide +kernel
theorem dX6_ifHit_50 : decode cX6_ifHit 50 = .ok (.iconst 1, 1) := by decide +kernel
theorem dX6_ifHit_51 : decode cX6_ifHit 51 = .ok (.if_icmp .ne 21, 3) := by decide +kernel
theorem dX6_ifHit_54 : decode cX6_ifHit 54 = .ok (.aload_n 0, 1) := by decide +kernel
theorem dX6_ifHit_55 : decode cX6_ifHit 55 = .ok (.getfield 7, 3) := by decide +kernel
theorem dX6_ifHit_58 : decode cX6_ifHit 58 = .ok (.bipush 6, 2) := by decide +kernel
theorem dX6_ifHit_60 : decode cX6_ifHit 60 = .ok (.iaload, 1) := by decide +kernel
theorem dX6_ifHit_61 : decode cX6_ifHit 61 = .ok (.aload_n 0, 1) := by decide +kernel
theorem dX6_ifHit_62 : decode cX6_ifHit 62 = .ok (.getfield 13, 3) := by decide +kernel
theorem dX6_ifHit_65 : decode cX6_ifHit 65 = .ok (.bipush 6, 2) := by decide +kernel
theorem dX6_ifHit_67 : decode cX6_ifHit 67 = .ok (.iaload, 1) := by decide +kernel
theorem dX6_ifHit_68 : decode cX6_ifHit 68 = .ok (.isub, 1) := by decide +kernel
theorem dX6_ifHit_69 : decode cX6_ifHit 69 = .ok (.goto 44, 3) := by decide +kernel
theorem dX6_ifHit_72 : decode cX6_ifHit 72 = .ok (.iload_n 3, 1) := by decide +kernel
theorem dX6_ifHit_73 : decode cX6_ifHit 73 = .ok (.iconst 2, 1) := by decide +kernel
theorem dX6_ifHit_74 : decode cX6_ifHit 74 = .ok (.if_icmp .ne 21, 3) := by decide +kernel
theorem dX6_ifHit_77 : decode cX6_ifHit 77 = .ok (.aload_n 0, 1) := by decide +kernel
theorem dX6_ifHit_78 : decode cX6_ifHit 78 = .ok (.getfield 7, 3) := by decide +kernel
theorem dX6_ifHit_81 : decode cX6_ifHit 81 = .ok (.bipush 7, 2) := by decide +kernel
theorem dX6_ifHit_83 : decode cX6_ifHit 83 = .ok (.iaload, 1) := by decide +kernel
theorem dX6_ifHit_84 : decode cX6_ifHit 84 = .ok (.aload_n 0, 1) := by decide +kernel
theorem dX6_ifHit_85 : decode cX6_ifHit 85 = .ok (.getfield 13, 3) := by decide +kernel
theorem dX6_ifHit_88 : decode cX6_ifHit 88 = .ok (.bipush 7, 2) := by decide +kernel
theorem dX6_ifHit_90 : decode cX6_ifHit 90 = .ok (.iaload, 1) := by decide +kernel
theorem dX6_ifHit_91 : decode cX6_ifHit 91 = .ok (.isub, 1) := by decide +kernel
theorem dX6_ifHit_92 : decode cX6_ifHit 92 = .ok (.goto 21, 3) := by decide +kernel
theorem dX6_ifHit_95 : decode cX6_ifHit 95 = .ok (.iload_n 3, 1) := by decide +kernel
theorem dX6_ifHit_96 : decode cX6_ifHit 96 = .ok (.iconst 3, 1) := by decide +kernel
theorem dX6_ifHit_97 : decode cX6_ifHit 97 = .ok (.if_icmp .ne 10, 3) := by decide +kernel
theorem dX6_ifHit_100 : decode cX6_ifHit 100 = .ok (.aload_n 0, 1) := by decide +kernel
theorem dX6_ifHit_101 : decode cX6_ifHit 101 = .ok (.getfield 76, 3) := by decide +kernel
theorem dX6_ifHit_104 : decode cX6_ifHit 104 = .ok (.goto 9, 3) := by decide +kernel
theorem dX6_ifHit_107 : decode cX6_ifHit 107 = .ok (.aload_n 0, 1) := by decide +kernel
theorem dX6_ifHit_108 : decode cX6_ifHit 108 = .ok (.getfield 7, 3) := by decide +kernel
theorem dX6_ifHit_111 : decode cX6_ifHit 111 = .ok (.iconst 1, 1) := by decide +kernel
theorem dX6_ifHit_112 : decode cX6_ifHit 112 = .ok (.iaload, 1) := by decide +kernel
theorem dX6_ifHit_113 : decode cX6_ifHit 113 = .ok (.istore 5, 2) := by decide +kernel
theorem dX6_ifHit_115 : decode cX6_ifHit 115 = .ok (.aload_n 0, 1) := by decide +kernel
theorem dX6_ifHit_116 : decode cX6_ifHit 116 = .ok (.getfield 13, 3) := by decide +kernel
theorem dX6_ifHit_119 : decode cX6_ifHit 119 = .ok (.iconst 0, 1) := by decide +kernel
theorem dX6_ifHit_120 : decode cX6_ifHit 120 = .ok (.aload_n 0, 1) := by decide +kernel
theorem dX6_ifHit_121 : decode cX6_ifHit 121 = .ok (.getfield 7, 3) := by decide +kernel
theorem dX6_ifHit_124 : decode cX6_ifHit 124 = .ok (.iconst 0, 1) := by decide +kernel
theorem dX6_ifHit_125 : decode cX6_ifHit 125 = .ok (.invokestatic 36, 3) := by decide +kernel
theorem dX6_ifHit_128 : decode cX6_ifHit 128 = .ok (.iload 5, 2) := by decide +kernel
theorem dX6_ifHit_130 : decode cX6_ifHit 130 = .ok (.ireturn, 1) := by decide +kernel
set_option maxRecDepth 20000 in
theorem ggX6_silentIn_X6_copies : GoodIn wsX6_silentIn wsX6_copies := goodIn_r _ [6] (by decide +kernel) (by decide +kernel)
set_option maxRecDepth 20000 in
theorem gX6_silentIn_X6_copies : GoodIn wsX6_silentIn (va_wsS RX6 36 yX6_copies wsX6_copies) := goodIn_app (goodIn_of _ (by decide +kernel)) ggX6_silentIn_X6_copies
set_option maxRecDepth 20000 in
theorem ggX6_silentIn_X6_tick : GoodIn wsX6_silentIn wsX6_tick := goodIn_r _ [10, 1, 11, 12, 13, 5, 14, 15, 16, 17, 18, 19, 20, 21, 22, 23, 24, 25, 26, 27, 28, 29, 30, 31, 32, 33, 34, 35, 36, 37, 38, 39, 40, 41, 42, 43] (by decide +kernel) (by decide +kernel)
set_option maxRecDepth 20000 in
theorem gX6_silentIn_X6_tick : GoodIn wsX6_silentIn (wsV RX6 85 RX6 yX6_tick wsX6_tick) := goodIn_app (goodIn_of _ (by decide +kernel)) ggX6_silentIn_X6_tick
theorem dX6_silentIn_0 : decode cX6_silentIn 0 = .ok (.aload_n 0, 1) := by decide +kernel
theorem dX6_silentIn_1 : decode cX6_silentIn 1 = .ok (.getfield 7, 3) := by decide +kernel
theorem dX6_silentIn_4 : decode cX6_silentIn 4 = .ok (.iconst 0, 1) := by decide +kernel
theorem dX6_silentIn_5 : decode cX6_silentIn 5 = .ok (.aload_n 0, 1) := by decide +kernel
theorem dX6_silentIn_6 : decode cX6_silentIn 6 = .ok (.getfield 13, 3) := by decide +kernel
theorem dX6_silentIn_9 : decode cX6_silentIn 9 = .ok (.iconst 0, 1) := by decide +kernel
theorem dX6_silentIn_10 : decode cX6_silentIn 10 = .ok (.invokestatic 36, 3) := by decide +kernel
theorem dX6_silentIn_13 : decode cX6_silentIn 13 = .ok (.iconst 0, 1) := by decide +kernel
theorem dX6_silentIn_14 : decode cX6_silentIn 14 = .ok (.istore_n 1, 1) := by decide +kernel
theorem dX6_silentIn_15 : decode cX6_silentIn 15 = .ok (.aload_n 0, 1) := by decide +kernel
theorem dX6_silentIn_16 : decode cX6_silentIn 16 = .ok (.getfield 7, 3) := by decide +kernel
theorem dX6_silentIn_19 : decode cX6_silentIn 19 = .ok (.iconst 1, 1) := by decide +kernel
theorem dX6_silentIn_20 : decode cX6_silentIn 20 = .ok (.iaload, 1) := by decide +kernel
theorem dX6_silentIn_21 : decode cX6_silentIn 21 = .ok (.ifCond .le 14, 3) := by decide +kernel
theorem dX6_silentIn_24 : decode cX6_silentIn 24 = .ok (.aload_n 0, 1) := by decide +kernel
theorem dX6_silentIn_25 : decode cX6_silentIn 25 = .ok (.invokevirtual 85, 3) := by decide +kernel
theorem dX6_silentIn_28 : decode cX6_silentIn 28 = .ok (.istore_n 2, 1) := by decide +kernel
theorem dX6_silentIn_29 : decode cX6_silentIn 29 = .ok (.iinc 1 1, 3) := by decide +kernel
theorem dX6_silentIn_32 : decode cX6_silentIn 32 = .ok (.goto (-17), 3) := by decide +kernel
theorem dX6_silentIn_35 : decode cX6_silentIn 35 = .ok (.aload_n 0, 1) := by decide +kernel
theorem dX6_silentIn_36 : decode cX6_silentIn 36 = .ok (.getfield 13, 3) := by decide +kernel
theorem dX6_silentIn_39 : decode cX6_silentIn 39 = .ok (.iconst 0, 1) := by decide +kernel
theorem dX6_silentIn_40 : decode cX6_silentIn 40 = .ok (.aload_n 0, 1) := by decide +kernel
theorem dX6_silentIn_41 : decode cX6_silentIn 41 = .ok (.getfield 7, 3) := by decide +kernel
theorem dX6_silentIn_44 : decode cX6_silentIn 44 = .ok (.iconst 0, 1) := by decide +kernel
theorem dX6_silentIn_45 : decode cX6_silentIn 45 = .ok (.invokestatic 36, 3) := by decide +kernel
theorem dX6_silentIn_48 : decode cX6_silentIn 48 = .ok (.iload_n 1, 1) := by decide +kernel
theorem dX6_silentIn_49 : decode cX6_silentIn 49 = .ok (.ireturn, 1) := by decide +kernel
set_option maxRecDepth 20000 in
theorem ggX6_chord_X6_in : GoodIn wsX6_chord wsX6_in := goodIn_r _ [6] (by decide +kernel) (by decide +kernel)
set_option maxRecDepth 20000 in
theorem gX6_chord_X6_in : GoodIn wsX6_chord (va_wsS RX6 40 yX6_in wsX6_in) := goodIn_app (goodIn_of _ (by decide +kernel)) ggX6_chord_X6_in
set_option maxRecDepth 20000 in
theorem ggX6_chord_X6_copies : GoodIn wsX6_chord wsX6_copies := goodIn_r _ [9] (by decide +kernel) (by decide +kernel)
set_option maxRecDepth 20000 in
theorem gX6_chord_X6_copies : GoodIn wsX6_chord (va_wsS RX6 36 yX6_copies wsX6_copies) := goodIn_app (goodIn_of _ (by decide +kernel)) ggX6_chord_X6_copies
set_option maxRecDepth 20000 in
theorem ggX6_chord_X6_goHit : GoodIn wsX6_chord wsX6_goHit := goodIn_r _ [13, 1, 14, 15, 16, 17, 18, 5, 19, 20, 21, 22, 23, 24, 25, 26, 27, 28, 29, 30, 31, 32, 33, 34, 35, 3, 4, 6, 36, 37, 38, 39, 40, 41, 42, 43, 44, 45, 46, 47, 48, 49, 50, 51, 52, 53, 54, 55, 56, 57, 58, 59, 60, 61, 62, 63, 64, 65, 66, 67, 68, 69, 70, 71, 72, 73, 74, 75, 76] (by decide +kernel) (by decide +kernel)
set_option maxRecDepth 20000 in
theorem gX6_chord_X6_goHit : GoodIn wsX6_chord (wsV RX6 107 RX6 yX6_goHit wsX6_goHit) := goodIn_app (goodIn_of _ (by decide +kernel)) ggX6_chord_X6_goHit
theorem dX6_chord_0 : decode cX6_chord 0 = .ok (.iload_n 1, 1) := by decide +kernel
theorem dX6_chord_1 : decode cX6_chord 1 = .ok (.iconst 1, 1) := by decide +kernel
theorem dX6_chord_2 : decode cX6_chord 2 = .ok (.bipush 63, 2) := by decide +kernel
theorem dX6_chord_4 : decode cX6_chord 4 = .ok (.invokestatic 40, 3) := by decide +kernel
theorem dX6_chord_7 : decode cX6_chord 7 = .ok (.ifCond .eq 22, 3) := by decide +kernel
theorem dX6_chord_10 : decode cX6_chord 10 = .ok (.iload_n 2, 1) := by decide +kernel
theorem dX6_chord_11 : decode cX6_chord 11 = .ok (.iconst 0, 1) := by decide +kernel
theorem dX6_chord_12 : decode cX6_chord 12 = .ok (.iconst 5, 1) := by decide +kernel
theorem dX6_chord_13 : decode cX6_chord 13 = .ok (.invokestatic 40, 3) := by decide +kernel
theorem dX6_chord_16 : decode cX6_chord 16 = .ok (.ifCond .eq 13, 3) := by decide +kernel
theorem dX6_chord_19 : decode cX6_chord 19 = .ok (.iload_n 3, 1) := by decide +kernel
theorem dX6_chord_20 : decode cX6_chord 20 = .ok (.iconst 1, 1) := by decide +kernel
theorem dX6_chord_21 : decode cX6_chord 21 = .ok (.bipush 9, 2) := by decide +kernel
theorem dX6_chord_23 : decode cX6_chord 23 = .ok (.invokestatic 40, 3) := by decide +kernel
theorem dX6_chord_26 : decode cX6_chord 26 = .ok (.ifCond .ne 5, 3) := by decide +kernel
theorem dX6_chord_29 : decode cX6_chord 29 = .ok (.iconst (-1), 1) := by decide +kernel
theorem dX6_chord_30 : decode cX6_chord 30 = .ok (.ireturn, 1) := by decide +kernel
theorem dX6_chord_31 : decode cX6_chord 31 = .ok (.aload_n 0, 1) := by decide +kernel
theorem dX6_chord_32 : decode cX6_chord 32 = .ok (.getfield 7, 3) := by decide +kernel
theorem dX6_chord_35 : decode cX6_chord 35 = .ok (.iconst 0, 1) := by decide +kernel
theorem dX6_chord_36 : decode cX6_chord 36 = .ok (.aload_n 0, 1) := by decide +kernel
theorem dX6_chord_37 : decode cX6_chord 37 = .ok (.getfield 13, 3) := by decide +kernel
theorem dX6_chord_40 : decode cX6_chord 40 = .ok (.iconst 0, 1) := by decide +kernel
theorem dX6_chord_41 : decode cX6_chord 41 = .ok (.invokestatic 36, 3) := by decide +kernel
theorem dX6_chord_44 : decode cX6_chord 44 = .ok (.iconst 0, 1) := by decide +kernel
theorem dX6_chord_45 : decode cX6_chord 45 = .ok (.istore 4, 2) := by decide +kernel
theorem dX6_chord_47 : decode cX6_chord 47 = .ok (.iconst 0, 1) := by decide +kernel
theorem dX6_chord_48 : decode cX6_chord 48 = .ok (.istore 5, 2) := by decide +kernel
theorem dX6_chord_50 : decode cX6_chord 50 = .ok (.iload 5, 2) := by decide +kernel
theorem dX6_chord_52 : decode cX6_chord 52 = .ok (.bipush 6, 2) := by decide +kernel
theorem dX6_chord_54 : decode cX6_chord 54 = .ok (.if_icmp .ge 40, 3) := by decide +kernel
theorem dX6_chord_57 : decode cX6_chord 57 = .ok (.iload 4, 2) := by decide +kernel
theorem dX6_chord_59 : decode cX6_chord 59 = .ok (.iload_n 1, 1) := by decide +kernel
theorem dX6_chord_60 : decode cX6_chord 60 = .ok (.iload 5, 2) := by decide +kernel
theorem dX6_chord_62 : decode cX6_chord 62 = .ok (.ishr, 1) := by decide +kernel
theorem dX6_chord_63 : decode cX6_chord 63 = .ok (.iconst 1, 1) := by decide +kernel
theorem dX6_chord_64 : decode cX6_chord 64 = .ok (.iand, 1) := by decide +kernel
theorem dX6_chord_65 : decode cX6_chord 65 = .ok (.iconst 1, 1) := by decide +kernel
theorem dX6_chord_66 : decode cX6_chord 66 = .ok (.if_icmp .ne 18, 3) := by decide +kernel
theorem dX6_chord_69 : decode cX6_chord 69 = .ok (.aload_n 0, 1) := by decide +kernel
theorem dX6_chord_70 : decode cX6_chord 70 = .ok (.bipush 6, 2) := by decide +kernel
theorem dX6_chord_72 : decode cX6_chord 72 = .ok (.iload_n 2, 1) := by decide +kernel
theorem dX6_chord_73 : decode cX6_chord 73 = .ok (.imul, 1) := by decide +kernel
theorem dX6_chord_74 : decode cX6_chord 74 = .ok (.iload 5, 2) := by decide +kernel
theorem dX6_chord_76 : decode cX6_chord 76 = .ok (.iadd, 1) := by decide +kernel
theorem dX6_chord_77 : decode cX6_chord 77 = .ok (.iload_n 3, 1) := by decide +kernel
theorem dX6_chord_78 : decode cX6_chord 78 = .ok (.invokevirtual 107, 3) := by decide +kernel
theorem dX6_chord_81 : decode cX6_chord 81 = .ok (.goto 4, 3) := by decide +kernel
theorem dX6_chord_84 : decode cX6_chord 84 = .ok (.iconst 0, 1) := by decide +kernel
theorem dX6_chord_85 : decode cX6_chord 85 = .ok (.iadd, 1) := by decide +kernel
theorem dX6_chord_86 : decode cX6_chord 86 = .ok (.istore 4, 2) := by decide +kernel
theorem dX6_chord_88 : decode cX6_chord 88 = .ok (.iinc 5 1, 3) := by decide +kernel
theorem dX6_chord_91 : decode cX6_chord 91 = .ok (.goto (-41), 3) := by decide +kernel
theorem dX6_chord_94 : decode cX6_chord 94 = .ok (.aload_n 0, 1) := by decide +kernel
theorem dX6_chord_95 : decode cX6_chord 95 = .ok (.getfield 13, 3) := by decide +kernel
theorem dX6_chord_98 : decode cX6_chord 98 = .ok (.iconst 0, 1) := by decide +kernel
theorem dX6_chord_99 : decode cX6_chord 99 = .ok (.aload_n 0, 1) := by decide +kernel
theorem dX6_chord_100 : decode cX6_chord 100 = .ok (.getfield 7, 3) := by decide +kernel
theorem dX6_chord_103 : decode cX6_chord 103 = .ok (.iconst 0, 1) := by decide +kernel
theorem dX6_chord_104 : decode cX6_chord 104 = .ok (.invokestatic 36, 3) := by decide +kernel
theorem dX6_chord_107 : decode cX6_chord 107 = .ok (.iload 4, 2) := by decide +kernel
theorem dX6_chord_109 : decode cX6_chord 109 = .ok (.ireturn, 1) := by decide +kernel
set_option maxRecDepth 20000 in
theorem ggX6_undo_X6_copies : GoodIn wsX6_undo wsX6_copies := goodIn_r _ [7] (by decide +kernel) (by decide +kernel)
set_option maxRecDepth 20000 in
theorem gX6_undo_X6_copies : GoodIn wsX6_undo (va_wsS RX6 36 yX6_copies wsX6_copies) := goodIn_app (goodIn_of _ (by decide +kernel)) ggX6_undo_X6_copies
theorem dX6_undo_0 : decode cX6_undo 0 = .ok (.aload_n 0, 1) := by decide +kernel
theorem dX6_undo_1 : decode cX6_undo 1 = .ok (.getfield 32, 3) := by decide +kernel
theorem dX6_undo_4 : decode cX6_undo 4 = .ok (.ifCond .ne 6, 3) := by decide +kernel
theorem dX6_undo_7 : decode cX6_undo 7 = .ok (.bipush (-2), 2) := by decide +kernel
theorem dX6_undo_9 : decode cX6_undo 9 = .ok (.ireturn, 1) := by decide +kernel
theorem dX6_undo_10 : decode cX6_undo 10 = .ok (.aload_n 0, 1) := by decide +kernel
theorem dX6_undo_11 : decode cX6_undo 11 = .ok (.dup, 1) := by decide +kernel
theorem dX6_undo_12 : decode cX6_undo 12 = .ok (.getfield 32, 3) := by decide +kernel
theorem dX6_undo_15 : decode cX6_undo 15 = .ok (.iconst 1, 1) := by decide +kernel
theorem dX6_undo_16 : decode cX6_undo 16 = .ok (.isub, 1) := by decide +kernel
theorem dX6_undo_17 : decode cX6_undo 17 = .ok (.putfield 32, 3) := by decide +kernel
theorem dX6_undo_20 : decode cX6_undo 20 = .ok (.aload_n 0, 1) := by decide +kernel
theorem dX6_undo_21 : decode cX6_undo 21 = .ok (.getfield 16, 3) := by decide +kernel
theorem dX6_undo_24 : decode cX6_undo 24 = .ok (.sipush 150, 3) := by decide +kernel
theorem dX6_undo_27 : decode cX6_undo 27 = .ok (.aload_n 0, 1) := by decide +kernel
theorem dX6_undo_28 : decode cX6_undo 28 = .ok (.getfield 32, 3) := by decide +kernel
theorem dX6_undo_31 : decode cX6_undo 31 = .ok (.imul, 1) := by decide +kernel
theorem dX6_undo_32 : decode cX6_undo 32 = .ok (.aload_n 0, 1) := by decide +kernel
theorem dX6_undo_33 : decode cX6_undo 33 = .ok (.getfield 7, 3) := by decide +kernel
theorem dX6_undo_36 : decode cX6_undo 36 = .ok (.iconst 0, 1) := by decide +kernel
theorem dX6_undo_37 : decode cX6_undo 37 = .ok (.invokestatic 36, 3) := by decide +kernel
theorem dX6_undo_40 : decode cX6_undo 40 = .ok (.aload_n 0, 1) := by decide +kernel
theorem dX6_undo_41 : decode cX6_undo 41 = .ok (.getfield 32, 3) := by decide +kernel
theorem dX6_undo_44 : decode cX6_undo 44 = .ok (.ireturn, 1) := by decide +kernel
set_option maxRecDepth 20000 in
theorem ggX6_save_X6_copies : GoodIn wsX6_save wsX6_copies := goodIn_r _ [7] (by decide +kernel) (by decide +kernel)
set_option maxRecDepth 20000 in
theorem gX6_save_X6_copies : GoodIn wsX6_save (va_wsS RX6 36 yX6_copies wsX6_copies) := goodIn_app (goodIn_of _ (by decide +kernel)) ggX6_save_X6_copies
theorem dX6_save_0 : decode cX6_save 0 = .ok (.aload_n 0, 1) := by decide +kernel
theorem dX6_save_1 : decode cX6_save 1 = .ok (.getfield 7, 3) := by decide +kernel
theorem dX6_save_4 : decode cX6_save 4 = .ok (.iconst 0, 1) := by decide +kernel
theorem dX6_save_5 : decode cX6_save 5 = .ok (.aload_n 0, 1) := by decide +kernel
theorem dX6_save_6 : decode cX6_save 6 = .ok (.getfield 19, 3) := by decide +kernel
theorem dX6_save_9 : decode cX6_save 9 = .ok (.iconst 0, 1) := by decide +kernel
theorem dX6_save_10 : decode cX6_save 10 = .ok (.invokestatic 36, 3) := by decide +kernel
theorem dX6_save_13 : decode cX6_save 13 = .ok (.aload_n 0, 1) := by decide +kernel
theorem dX6_save_14 : decode cX6_save 14 = .ok (.iconst 1, 1) := by decide +kernel
theorem dX6_save_15 : decode cX6_save 15 = .ok (.putfield 200, 3) := by decide +kernel
theorem dX6_save_18 : decode cX6_save 18 = .ok (.aload_n 0, 1) := by decide +kernel
theorem dX6_save_19 : decode cX6_save 19 = .ok (.getfield 7, 3) := by decide +kernel
theorem dX6_save_22 : decode cX6_save 22 = .ok (.iconst 1, 1) := by decide +kernel
theorem dX6_save_23 : decode cX6_save 23 = .ok (.iaload, 1) := by decide +kernel
theorem dX6_save_24 : decode cX6_save 24 = .ok (.ireturn, 1) := by decide +kernel
set_option maxRecDepth 20000 in
theorem ggX6_restore_X6_records : GoodIn wsX6_restore wsX6_records := goodIn_r _ [8, 9, 10, 3, 11, 12, 7, 13, 14, 15, 16, 17, 18, 19, 20, 21, 22, 23, 24, 25, 26, 27, 28, 29, 30] (by decide +kernel) (by decide +kernel)
set_option maxRecDepth 20000 in
theorem gX6_restore_X6_records : GoodIn wsX6_restore (wsV RX6 92 RX6 yX6_records wsX6_records) := goodIn_app (goodIn_of _ (by decide +kernel)) ggX6_restore_X6_records
set_option maxRecDepth 20000 in
theorem ggX6_restore_X6_copies : GoodIn wsX6_restore wsX6_copies := goodIn_r _ [13] (by decide +kernel) (by decide +kernel)
set_option maxRecDepth 20000 in
theorem gX6_restore_X6_copies : GoodIn wsX6_restore (va_wsS RX6 36 yX6_copies wsX6_copies) := goodIn_app (goodIn_of _ (by decide +kernel)) ggX6_restore_X6_copies
theorem dX6_restore_0 : decode cX6_restore 0 = .ok (.aload_n 0, 1) := by decide +kernel
theorem dX6_restore_1 : decode cX6_restore 1 = .ok (.getfield 200, 3) := by decide +kernel
theorem dX6_restore_4 : decode cX6_restore 4 = .ok (.ifCond .ne 6, 3) := by decide +kernel
theorem dX6_restore_7 : decode cX6_restore 7 = .ok (.bipush (-2), 2) := by decide +kernel
theorem dX6_restore_9 : decode cX6_restore 9 = .ok (.ireturn, 1) := by decide +kernel
theorem dX6_restore_10 : decode cX6_restore 10 = .ok (.aload_n 0, 1) := by decide +kernel
theorem dX6_restore_11 : decode cX6_restore 11 = .ok (.invokevirtual 92, 3) := by decide +kernel
theorem dX6_restore_14 : decode cX6_restore 14 = .ok (.aload_n 0, 1) := by decide +kernel
theorem dX6_restore_15 : decode cX6_restore 15 = .ok (.getfield 19, 3) := by decide +kernel
theorem dX6_restore_18 : decode cX6_restore 18 = .ok (.iconst 0, 1) := by decide +kernel
theorem dX6_restore_19 : decode cX6_restore 19 = .ok (.aload_n 0, 1) := by decide +kernel
theorem dX6_restore_20 : decode cX6_restore 20 = .ok (.getfield 7, 3) := by decide +kernel
theorem dX6_restore_23 : decode cX6_restore 23 = .ok (.iconst 0, 1) := by decide +kernel
theorem dX6_restore_24 : decode cX6_restore 24 = .ok (.invokestatic 36, 3) := by decide +kernel
theorem dX6_restore_27 : decode cX6_restore 27 = .ok (.aload_n 0, 1) := by decide +kernel
theorem dX6_restore_28 : decode cX6_restore 28 = .ok (.getfield 7, 3) := by decide +kernel
theorem dX6_restore_31 : decode cX6_restore 31 = .ok (.iconst 1, 1) := by decide +kernel
theorem dX6_restore_32 : decode cX6_restore 32 = .ok (.iaload, 1) := by decide +kernel
theorem dX6_restore_33 : decode cX6_restore 33 = .ok (.ireturn, 1) := by decide +kernel
theorem dJ9_max_7cf53_0 : decode cJ9_max_7cf53 0 = .ok (.iload_n 0, 1) := by decide +kernel
theorem dJ9_max_7cf53_1 : decode cJ9_max_7cf53 1 = .ok (.iload_n 1, 1) := by decide +kernel
theorem dJ9_max_7cf53_2 : decode cJ9_max_7cf53 2 = .ok (.if_icmp .lt 7, 3) := by decide +kernel
theorem dJ9_max_7cf53_5 : decode cJ9_max_7cf53 5 = .ok (.iload_n 0, 1) := by decide +kernel
theorem dJ9_max_7cf53_6 : decode cJ9_max_7cf53 6 = .ok (.goto 4, 3) := by decide +kernel
theorem dJ9_max_7cf53_9 : decode cJ9_max_7cf53 9 = .ok (.iload_n 1, 1) := by decide +kernel
theorem dJ9_max_7cf53_10 : decode cJ9_max_7cf53 10 = .ok (.ireturn, 1) := by decide +kernel
theorem dJ9_min_7cf53_0 : decode cJ9_min_7cf53 0 = .ok (.iload_n 0, 1) := by decide +kernel
theorem dJ9_min_7cf53_1 : decode cJ9_min_7cf53 1 = .ok (.iload_n 1, 1) := by decide +kernel
theorem dJ9_min_7cf53_2 : decode cJ9_min_7cf53 2 = .ok (.if_icmp .gt 7, 3) := by decide +kernel
theorem dJ9_min_7cf53_5 : decode cJ9_min_7cf53 5 = .ok (.iload_n 0, 1) := by decide +kernel
theorem dJ9_min_7cf53_6 : decode cJ9_min_7cf53 6 = .ok (.goto 4, 3) := by decide +kernel
theorem dJ9_min_7cf53_9 : decode cJ9_min_7cf53 9 = .ok (.iload_n 1, 1) := by decide +kernel
theorem dJ9_min_7cf53_10 : decode cJ9_min_7cf53 10 = .ok (.ireturn, 1) := by decide +kernel
set_option maxRecDepth 20000 in
theorem ggL_law_X5_init : GoodIn wsL_law wsX5_init := goodIn_r _ [8, 9, 10, 11, 12, 13, 14, 15, 16, 17, 18, 19, 20, 21, 22, 23, 24, 25, 26, 27, 28, 29, 30, 31, 32, 33, 34, 35, 36, 37, 38, 39, 40, 41, 42, 43, 44, 45, 46, 47, 48, 49, 50, 51, 52, 53, 54, 55, 56, 57, 58, 59, 60, 61, 62, 63, 64, 799, 800, 801, 802, 803, 775, 776, 777, 778, 779, 780, 781, 804, 805, 806, 807, 808, 809, 810, 811, 812, 813, 814, 815, 816, 817, 818, 819, 820, 821, 822, 823, 824, 825, 826, 827, 828, 829, 830] (by decide +kernel) (by decide +kernel)
set_option maxRecDepth 20000 in
theorem gL_law_X5_init : GoodIn wsL_law (wsX5_init) := ggL_law_X5_init
set_option maxRecDepth 20000 in
theorem ggL_law_X6_init : GoodIn wsL_law wsX6_init := goodIn_r _ [67, 68, 10, 11, 39, 69, 70, 71, 72, 73, 74, 75, 76, 782, 783, 784, 785, 786, 787, 788, 789, 790, 791, 792, 793, 794, 795, 796, 797, 798] (by decide +kernel) (by decide +kernel)
set_option maxRecDepth 20000 in
theorem gL_law_X6_init : GoodIn wsL_law (wsX6_init) := ggL_law_X6_init
set_option maxRecDepth 20000 in
theorem ggL_law_X5_zone : GoodIn wsL_law wsX5_zone := goodIn_r _ [80, 15, 21, 81, 82, 2, 83, 84, 85, 86, 36, 87, 88, 89, 90, 91, 20, 92, 93, 51, 52, 53, 54, 94, 95, 96, 97, 98, 99, 100, 14, 101, 37, 38, 40, 102, 103, 104, 105, 106, 107, 108, 109, 110, 111, 46, 112, 113, 114, 115, 116, 117, 118, 119, 120, 121, 122, 123, 124, 45, 125, 126, 127, 128, 129, 130, 131, 132, 775, 776, 777, 778, 779, 780, 781, 799, 800, 801, 802, 803, 828, 829, 830, 804, 805, 806, 807, 808] (by decide +kernel) (by decide +kernel)
set_option maxRecDepth 20000 in
theorem gL_law_X5_zone : GoodIn wsL_law (wsV RL 13 RX5 yX5_zone wsX5_zone) := goodIn_app (goodIn_of _ (by decide +kernel)) ggL_law_X5_zone
set_option maxRecDepth 20000 in
theorem ggL_law_X6_zone : GoodIn wsL_law wsX6_zone := goodIn_r _ [136, 69, 137, 138, 5, 139, 140, 141, 142, 143, 144, 71, 145, 146, 147, 148, 149, 150, 151, 152, 153, 154, 155, 782, 783, 784, 785, 786, 787, 788, 789, 790, 791, 792, 793, 794, 795, 796, 797, 798] (by decide +kernel) (by decide +kernel)
set_option maxRecDepth 20000 in
theorem gL_law_X6_zone : GoodIn wsL_law (wsV RL 17 RX6 yX6_zone wsX6_zone) := goodIn_app (goodIn_of _ (by decide +kernel)) ggL_law_X6_zone
set_option maxRecDepth 20000 in
theorem ggL_law_X5_like : GoodIn wsL_law wsX5_like := goodIn_r _ [159, 15, 21, 160, 161, 162, 36, 163, 88, 81, 82, 2, 83, 89, 90, 91, 20, 92, 93, 51, 52, 53, 54, 94, 95, 96, 97, 98, 99, 100, 14, 101, 37, 38, 40, 102, 103, 104, 105, 106, 107, 108, 109, 110, 111, 46, 112, 113, 114, 115, 116, 164, 130, 131, 132, 125, 126, 127, 128, 45, 165, 166, 167, 168, 169, 170, 171, 172, 775, 776, 777, 778, 779, 780, 781, 799, 800, 801, 802, 803, 828, 829, 830, 804, 805, 806, 807, 808] (by decide +kernel) (by decide +kernel)
set_option maxRecDepth 20000 in
theorem gL_law_X5_like : GoodIn wsL_law (wsV RL 18 RX5 yX5_like wsX5_like) := goodIn_app (goodIn_of _ (by decide +kernel)) ggL_law_X5_like
set_option maxRecDepth 20000 in
theorem ggL_law_X6_like : GoodIn wsL_law wsX6_like := goodIn_r _ [176, 69, 177, 178, 179, 5, 180, 137, 138, 139, 140, 141, 142, 143, 144, 71, 145, 146, 147, 152, 153, 154, 155, 181, 182, 183, 184, 782, 783, 784, 785, 786, 787, 788, 789, 790, 791, 792, 793, 794, 795, 796, 797, 798] (by decide +kernel) (by decide +kernel)
set_option maxRecDepth 20000 in
theorem gL_law_X6_like : GoodIn wsL_law (wsV RL 21 RX6 yX6_like wsX6_like) := goodIn_app (goodIn_of _ (by decide +kernel)) ggL_law_X6_like
set_option maxRecDepth 20000 in
theorem ggL_law_X5_takeZone : GoodIn wsL_law wsX5_takeZone := goodIn_r _ [188, 15, 21, 160, 161, 162, 36, 163, 88, 89, 90, 91, 20, 92, 93, 51, 52, 53, 54, 94, 95, 96, 97, 98, 99, 100, 14, 101, 37, 38, 40, 102, 103, 104, 105, 106, 107, 108, 109, 110, 111, 46, 112, 113, 114, 115, 116, 189, 190, 191, 192, 193, 85, 86, 87, 194, 170, 171, 172, 45, 195, 196, 197, 198, 199, 125, 126, 127, 128, 200, 201, 202, 203, 204, 205, 206, 207, 208, 209, 210, 211, 775, 776, 777, 778, 779, 780, 781, 799, 800, 801, 802, 803, 828, 829, 830, 804, 805, 806, 807, 808] (by decide +kernel) (by decide +kernel)
set_option maxRecDepth 20000 in
theorem gL_law_X5_takeZone : GoodIn wsL_law (wsV RL 22 RX5 yX5_takeZone wsX5_takeZone) := goodIn_app (goodIn_of _ (by decide +kernel)) ggL_law_X5_takeZone
set_option maxRecDepth 20000 in
theorem ggL_law_X6_takeZone : GoodIn wsL_law wsX6_takeZone := goodIn_r _ [215, 69, 177, 178, 179, 5, 180, 137, 138, 139, 140, 141, 142, 143, 144, 71, 145, 146, 147, 216, 217, 218, 219, 220, 221, 222, 223, 224, 225, 226, 227, 782, 783, 784, 785, 786, 787, 788, 789, 790, 791, 792, 793, 794, 795, 796, 797, 798] (by decide +kernel) (by decide +kernel)
set_option maxRecDepth 20000 in
theorem gL_law_X6_takeZone : GoodIn wsL_law (wsV RL 26 RX6 yX6_takeZone wsX6_takeZone) := goodIn_app (goodIn_of _ (by decide +kernel)) ggL_law_X6_takeZone
set_option maxRecDepth 20000 in
theorem ggL_law_X5_hit : GoodIn wsL_law wsX5_hit := goodIn_r _ [231, 21, 15, 232, 233, 2, 234, 81, 82, 83, 89, 90, 91, 20, 92, 93, 51, 52, 53, 54, 94, 95, 96, 97, 98, 99, 100, 14, 101, 37, 38, 40, 102, 103, 104, 105, 106, 107, 108, 109, 110, 36, 111, 46, 112, 113, 114, 115, 116, 88, 235, 236, 237, 238, 239, 240, 241, 242, 193, 85, 86, 87, 194, 170, 171, 172, 45, 125, 126, 127, 128, 243, 244, 245, 246, 247, 248, 249, 250, 204, 205, 206, 207, 251, 252, 253, 254, 255, 256, 257, 258, 195, 196, 197, 198, 199, 161, 162, 163, 200, 201, 202, 203, 208, 209, 210, 211, 259, 260, 261, 262, 263, 264, 265, 266, 121, 122, 123, 124, 267, 268, 269, 270, 775, 776, 777, 778, 779, 780, 781, 804, 805, 806, 807, 808, 799, 800, 801, 802, 803, 828, 829, 830] (by decide +kernel) (by decide +kernel)
set_option maxRecDepth 20000 in
theorem gL_law_X5_hit : GoodIn wsL_law (wsV RL 27 RX5 yX5_hit wsX5_hit) := goodIn_app (goodIn_of _ (by decide +kernel)) ggL_law_X5_hit
set_option maxRecDepth 20000 in
theorem ggL_law_X6_hit : GoodIn wsL_law wsX6_hit := goodIn_r _ [274, 275, 276, 5, 277, 137, 138, 139, 140, 141, 142, 143, 144, 71, 69, 145, 146, 147, 278, 279, 280, 281, 282, 75, 216, 217, 218, 219, 224, 225, 226, 227, 283, 284, 285, 286, 181, 182, 183, 184, 287, 288, 289, 290, 291, 292, 293, 294, 295, 296, 297, 298, 299, 300, 301, 302, 220, 221, 222, 223, 303, 304, 305, 306, 307, 308, 309, 310, 782, 783, 784, 785, 786, 787, 788, 789, 790, 791, 792, 793, 794, 795, 796, 797, 798] (by decide +kernel) (by decide +kernel)
set_option maxRecDepth 20000 in
theorem gL_law_X6_hit : GoodIn wsL_law (wsV RL 31 RX6 yX6_hit wsX6_hit) := goodIn_app (goodIn_of _ (by decide +kernel)) ggL_law_X6_hit
set_option maxRecDepth 20000 in
theorem ggL_law_X5_letGo : GoodIn wsL_law wsX5_letGo := goodIn_r _ [314, 21, 15, 81, 82, 2, 83, 89, 90, 91, 20, 92, 93, 51, 52, 53, 54, 94, 95, 96, 97, 98, 99, 100, 14, 101, 37, 38, 40, 102, 103, 104, 105, 106, 107, 108, 109, 110, 36, 111, 46, 112, 113, 114, 115, 116, 88, 315, 316, 317, 318, 239, 240, 241, 242, 193, 85, 86, 87, 194, 170, 171, 172, 45, 125, 126, 127, 128, 775, 776, 777, 778, 779, 780, 781, 804, 805, 806, 807, 808, 799, 800, 801, 802, 803, 828, 829, 830] (by decide +kernel) (by decide +kernel)
set_option maxRecDepth 20000 in
theorem gL_law_X5_letGo : GoodIn wsL_law (wsV RL 32 RX5 yX5_letGo wsX5_letGo) := goodIn_app (goodIn_of _ (by decide +kernel)) ggL_law_X5_letGo
set_option maxRecDepth 20000 in
theorem ggL_law_X6_letGo : GoodIn wsL_law wsX6_letGo := goodIn_r _ [322, 137, 138, 5, 139, 140, 141, 142, 143, 144, 71, 69, 145, 146, 147, 323, 324, 325, 326, 216, 217, 218, 219, 224, 225, 226, 227, 782, 783, 784, 785, 786, 787, 788, 789, 790, 791, 792, 793, 794, 795, 796, 797, 798] (by decide +kernel) (by decide +kernel)
set_option maxRecDepth 20000 in
theorem gL_law_X6_letGo : GoodIn wsL_law (wsV RL 35 RX6 yX6_letGo wsX6_letGo) := goodIn_app (goodIn_of _ (by decide +kernel)) ggL_law_X6_letGo
set_option maxRecDepth 20000 in
theorem ggL_law_X5_pedal : GoodIn wsL_law wsX5_pedal := goodIn_r _ [330, 21, 15, 89, 90, 91, 20, 92, 93, 51, 52, 53, 54, 94, 95, 96, 97, 98, 99, 100, 14, 101, 37, 38, 40, 102, 103, 104, 105, 106, 107, 108, 109, 110, 36, 111, 46, 112, 113, 114, 115, 116, 88, 331, 332, 333, 334, 193, 85, 86, 87, 194, 170, 171, 172, 45, 125, 126, 127, 128, 775, 776, 777, 778, 779, 780, 781, 804, 805, 806, 807, 808, 799, 800, 801, 802, 803, 828, 829, 830] (by decide +kernel) (by decide +kernel)
set_option maxRecDepth 20000 in
theorem gL_law_X5_pedal : GoodIn wsL_law (wsV RL 36 RX5 yX5_pedal wsX5_pedal) := goodIn_app (goodIn_of _ (by decide +kernel)) ggL_law_X5_pedal
set_option maxRecDepth 20000 in
theorem ggL_law_X6_pedal : GoodIn wsL_law wsX6_pedal := goodIn_r _ [338, 140, 141, 142, 5, 143, 144, 71, 69, 145, 146, 147, 339, 340, 341, 342, 216, 217, 218, 219, 224, 225, 226, 227, 782, 783, 784, 785, 786, 787, 788, 789, 790, 791, 792, 793, 794, 795, 796, 797, 798] (by decide +kernel) (by decide +kernel)
set_option maxRecDepth 20000 in
theorem gL_law_X6_pedal : GoodIn wsL_law (wsV RL 40 RX6 yX6_pedal wsX6_pedal) := goodIn_app (goodIn_of _ (by decide +kernel)) ggL_law_X6_pedal
set_option maxRecDepth 20000 in
theorem ggL_law_X5_pass : GoodIn wsL_law wsX5_pass := goodIn_r _ [346, 21, 15, 81, 82, 2, 83, 89, 90, 91, 20, 92, 93, 51, 52, 53, 54, 94, 95, 96, 97, 98, 99, 100, 14, 101, 37, 38, 40, 102, 103, 104, 105, 106, 107, 108, 109, 110, 36, 111, 46, 112, 113, 114, 115, 116, 88, 347, 348, 349, 350, 204, 205, 206, 207, 193, 85, 86, 87, 351, 352, 353, 354, 194, 170, 171, 172, 45, 355, 356, 357, 358, 125, 126, 127, 128, 195, 196, 197, 198, 199, 161, 162, 163, 200, 201, 202, 203, 208, 209, 210, 211, 775, 776, 777, 778, 779, 780, 781, 804, 805, 806, 807, 808, 799, 800, 801, 802, 803, 828, 829, 830] (by decide +kernel) (by decide +kernel)
set_option maxRecDepth 20000 in
theorem gL_law_X5_pass : GoodIn wsL_law (wsV RL 41 RX5 yX5_pass wsX5_pass) := goodIn_app (goodIn_of _ (by decide +kernel)) ggL_law_X5_pass
set_option maxRecDepth 20000 in
theorem ggL_law_X6_pass : GoodIn wsL_law wsX6_pass := goodIn_r _ [362, 137, 138, 5, 139, 140, 141, 142, 143, 144, 71, 69, 145, 146, 147, 363, 364, 365, 366, 367, 368, 369, 370, 216, 217, 218, 219, 224, 225, 226, 227, 181, 182, 183, 184, 220, 221, 222, 223, 782, 783, 784, 785, 786, 787, 788, 789, 790, 791, 792, 793, 794, 795, 796, 797, 798] (by decide +kernel) (by decide +kernel)
set_option maxRecDepth 20000 in
theorem gL_law_X6_pass : GoodIn wsL_law (wsV RL 44 RX6 yX6_pass wsX6_pass) := goodIn_app (goodIn_of _ (by decide +kernel)) ggL_law_X6_pass
set_option maxRecDepth 20000 in
theorem ggL_law_X5_silence : GoodIn wsL_law wsX5_silence := goodIn_r _ [374, 21, 15, 89, 90, 91, 20, 92, 93, 51, 52, 53, 54, 94, 95, 96, 97, 98, 99, 100, 14, 101, 37, 38, 40, 102, 103, 104, 105, 106, 107, 108, 109, 110, 36, 111, 46, 112, 113, 114, 115, 116, 88, 375, 376, 377, 378, 193, 85, 86, 87, 379, 380, 381, 382, 200, 201, 202, 203, 204, 205, 206, 207, 208, 209, 210, 211, 775, 776, 777, 778, 779, 780, 781, 804, 805, 806, 807, 808, 799, 800, 801, 802, 803, 828, 829, 830] (by decide +kernel) (by decide +kernel)
set_option maxRecDepth 20000 in
theorem gL_law_X5_silence : GoodIn wsL_law (wsV RL 45 RX5 yX5_silence wsX5_silence) := goodIn_app (goodIn_of _ (by decide +kernel)) ggL_law_X5_silence
set_option maxRecDepth 20000 in
theorem ggL_law_X6_silence : GoodIn wsL_law wsX6_silence := goodIn_r _ [386, 69, 140, 141, 142, 5, 143, 144, 71, 145, 146, 147, 220, 221, 222, 223, 782, 783, 784, 785, 786, 787, 788, 789, 790, 791, 792, 793, 794, 795, 796, 797, 798] (by decide +kernel) (by decide +kernel)
set_option maxRecDepth 20000 in
theorem gL_law_X6_silence : GoodIn wsL_law (wsV RL 48 RX6 yX6_silence wsX6_silence) := goodIn_app (goodIn_of _ (by decide +kernel)) ggL_law_X6_silence
set_option maxRecDepth 20000 in
theorem ggL_law_X5_set : GoodIn wsL_law wsX5_set := goodIn_r _ [390, 21, 15, 391, 392, 2, 393, 81, 82, 83, 89, 90, 91, 20, 92, 93, 51, 52, 53, 54, 94, 95, 96, 97, 98, 99, 100, 14, 101, 37, 38, 40, 102, 103, 104, 105, 106, 107, 108, 109, 110, 36, 111, 46, 112, 113, 114, 115, 116, 88, 394, 205, 206, 207, 395, 209, 210, 211, 396, 260, 261, 262, 193, 85, 86, 87, 263, 264, 265, 266, 204, 194, 170, 171, 172, 45, 195, 196, 197, 198, 199, 161, 162, 163, 200, 201, 202, 203, 208, 775, 776, 777, 778, 779, 780, 781, 804, 805, 806, 807, 808, 799, 800, 801, 802, 803, 828, 829, 830] (by decide +kernel) (by decide +kernel)
set_option maxRecDepth 20000 in
theorem gL_law_X5_set : GoodIn wsL_law (wsV RL 49 RX5 yX5_set wsX5_set) := goodIn_app (goodIn_of _ (by decide +kernel)) ggL_law_X5_set
set_option maxRecDepth 20000 in
theorem ggL_law_X6_set : GoodIn wsL_law wsX6_set := goodIn_r _ [400, 69, 137, 138, 5, 139, 401, 402, 403, 404, 405, 406, 140, 141, 142, 143, 144, 71, 145, 146, 147, 303, 304, 305, 306, 307, 308, 309, 310, 216, 217, 218, 219, 220, 221, 222, 223, 782, 783, 784, 785, 786, 787, 788, 789, 790, 791, 792, 793, 794, 795, 796, 797, 798] (by decide +kernel) (by decide +kernel)
set_option maxRecDepth 20000 in
theorem gL_law_X6_set : GoodIn wsL_law (wsV RL 52 RX6 yX6_set wsX6_set) := goodIn_app (goodIn_of _ (by decide +kernel)) ggL_law_X6_set
set_option maxRecDepth 20000 in
theorem ggL_law_X5_append : GoodIn wsL_law wsX5_append := goodIn_r _ [410, 25, 81, 82, 2, 83, 411, 412, 413, 24, 414, 415, 416, 417, 418, 419, 60, 775, 776, 777, 778, 779, 780, 781, 809, 810, 811, 812, 813, 814, 815, 816, 817, 818, 819, 820, 821, 822] (by decide +kernel) (by decide +kernel)
set_option maxRecDepth 20000 in
theorem gL_law_X5_append : GoodIn wsL_law (wsV RL 53 RX5 yX5_append wsX5_append) := goodIn_app (goodIn_of _ (by decide +kernel)) ggL_law_X5_append
set_option maxRecDepth 20000 in
theorem ggL_law_X6_append : GoodIn wsL_law wsX6_append := goodIn_r _ [423, 424, 73, 137, 138, 5, 139, 782, 783, 784, 785, 786, 787, 788, 789, 790, 791, 792, 793, 794, 795, 796, 797, 798] (by decide +kernel) (by decide +kernel)
set_option maxRecDepth 20000 in
theorem gL_law_X6_append : GoodIn wsL_law (wsV RL 56 RX6 yX6_append wsX6_append) := goodIn_app (goodIn_of _ (by decide +kernel)) ggL_law_X6_append
set_option maxRecDepth 20000 in
theorem ggL_law_X5_clear : GoodIn wsL_law wsX5_clear := goodIn_r _ [428, 25, 411, 412, 413, 24, 414, 415, 429, 430, 431, 432, 775, 776, 777, 778, 779, 780, 781, 809, 810, 811, 812, 813, 814, 815, 816, 817, 818, 819, 820, 821, 822] (by decide +kernel) (by decide +kernel)
set_option maxRecDepth 20000 in
theorem gL_law_X5_clear : GoodIn wsL_law (wsV RL 57 RX5 yX5_clear wsX5_clear) := goodIn_app (goodIn_of _ (by decide +kernel)) ggL_law_X5_clear
set_option maxRecDepth 20000 in
theorem ggL_law_X6_clear : GoodIn wsL_law wsX6_clear := goodIn_r _ [436, 424, 782, 783, 784, 785, 786, 787, 788, 789, 790, 791, 792, 793, 794, 795, 796, 797, 798] (by decide +kernel) (by decide +kernel)
set_option maxRecDepth 20000 in
theorem gL_law_X6_clear : GoodIn wsL_law (wsV RL 60 RX6 yX6_clear wsX6_clear) := goodIn_app (goodIn_of _ (by decide +kernel)) ggL_law_X6_clear
set_option maxRecDepth 20000 in
theorem ggL_law_X5_fault : GoodIn wsL_law wsX5_fault := goodIn_r _ [440, 25, 81, 82, 2, 83, 441, 442, 443, 24, 444, 445, 415, 446, 447, 448, 449, 450, 451, 452, 453, 60, 454, 455, 456, 457, 458, 459, 460, 461, 462, 463, 464, 465, 466, 467, 468, 469, 470, 471, 472, 473, 474, 475, 476, 477, 478, 479, 480, 481, 482, 483, 484, 485, 486, 487, 488, 489, 490, 491, 492, 493, 494, 495, 496, 497, 498, 499, 775, 776, 777, 778, 779, 780, 781, 809, 810, 811, 812, 813, 814, 815, 816, 817, 818, 819, 820, 821, 822] (by decide +kernel) (by decide +kernel)
set_option maxRecDepth 20000 in
theorem gL_law_X5_fault : GoodIn wsL_law (wsV RL 61 RX5 yX5_fault wsX5_fault) := goodIn_app (goodIn_of _ (by decide +kernel)) ggL_law_X5_fault
set_option maxRecDepth 20000 in
theorem ggL_law_X6_fault : GoodIn wsL_law wsX6_fault := goodIn_r _ [503, 504, 137, 138, 5, 139, 505, 506, 507, 508, 509, 510, 424, 511, 512, 513, 514, 76, 515, 516, 517, 518, 519, 520, 521, 522, 523, 524, 525, 526, 73, 527, 528, 529, 530, 531, 532, 533, 534, 535, 536, 537, 538, 539, 540, 541, 542, 543, 544, 545, 546, 547, 548, 782, 783, 784, 785, 786, 787, 788, 789, 790, 791, 792, 793, 794, 795, 796, 797, 798] (by decide +kernel) (by decide +kernel)
set_option maxRecDepth 20000 in
theorem gL_law_X6_fault : GoodIn wsL_law (wsV RL 64 RX6 yX6_fault wsX6_fault) := goodIn_app (goodIn_of _ (by decide +kernel)) ggL_law_X6_fault
set_option maxRecDepth 20000 in
theorem ggL_law_X5_load : GoodIn wsL_law wsX5_load := goodIn_r _ [552, 25, 15, 21, 441, 442, 443, 24, 444, 445, 415, 446, 447, 448, 449, 450, 451, 452, 453, 60, 454, 455, 456, 457, 458, 459, 460, 461, 462, 463, 464, 465, 466, 467, 468, 469, 470, 471, 472, 473, 474, 475, 476, 477, 478, 479, 480, 481, 482, 483, 484, 485, 486, 487, 488, 489, 490, 491, 492, 493, 494, 495, 496, 497, 498, 499, 553, 84, 85, 86, 36, 87, 88, 89, 90, 91, 20, 92, 93, 51, 52, 53, 54, 94, 95, 96, 97, 98, 99, 100, 14, 101, 37, 38, 40, 102, 103, 104, 105, 106, 107, 108, 109, 110, 111, 46, 112, 113, 114, 115, 116, 554, 555, 117, 118, 119, 120, 121, 122, 123, 124, 45, 125, 126, 127, 128, 129, 130, 131, 132, 164, 556, 429, 430, 431, 432, 775, 776, 777, 778, 779, 780, 781, 799, 800, 801, 802, 803, 809, 810, 811, 812, 813, 814, 815, 816, 817, 818, 819, 820, 821, 822, 828, 829, 830, 804, 805, 806, 807, 808] (by decide +kernel) (by decide +kernel)
set_option maxRecDepth 20000 in
theorem gL_law_X5_load : GoodIn wsL_law (wsV RL 65 RX5 yX5_load wsX5_load) := goodIn_app (goodIn_of _ (by decide +kernel)) ggL_law_X5_load
set_option maxRecDepth 20000 in
theorem ggL_law_X6_load : GoodIn wsL_law wsX6_load := goodIn_r _ [560, 69, 510, 76, 424, 505, 506, 507, 5, 508, 504, 509, 511, 512, 513, 514, 515, 516, 517, 518, 519, 520, 521, 522, 523, 524, 525, 526, 73, 137, 138, 139, 527, 528, 529, 530, 531, 532, 533, 534, 535, 536, 537, 140, 141, 142, 143, 144, 71, 145, 146, 147, 148, 149, 150, 151, 152, 153, 154, 155, 782, 783, 784, 785, 786, 787, 788, 789, 790, 791, 792, 793, 794, 795, 796, 797, 798] (by decide +kernel) (by decide +kernel)
set_option maxRecDepth 20000 in
theorem gL_law_X6_load : GoodIn wsL_law (wsV RL 68 RX6 yX6_load wsX6_load) := goodIn_app (goodIn_of _ (by decide +kernel)) ggL_law_X6_load
set_option maxRecDepth 20000 in
theorem ggL_law_X5_play : GoodIn wsL_law wsX5_play := goodIn_r _ [564, 25, 21, 15, 441, 442, 443, 24, 444, 445, 415, 446, 447, 448, 449, 450, 451, 452, 453, 60, 454, 455, 456, 457, 458, 459, 460, 461, 462, 463, 464, 465, 466, 467, 468, 469, 470, 471, 472, 473, 474, 475, 476, 477, 478, 479, 480, 481, 482, 483, 484, 485, 486, 487, 488, 489, 490, 491, 492, 493, 494, 495, 496, 497, 498, 499, 89, 90, 91, 20, 92, 93, 51, 52, 53, 54, 94, 95, 96, 97, 98, 99, 100, 14, 101, 37, 38, 40, 102, 103, 104, 105, 106, 107, 108, 109, 110, 36, 111, 46, 112, 113, 114, 115, 116, 88, 394, 205, 206, 207, 553, 554, 565, 566, 567, 568, 2, 569, 235, 236, 237, 238, 239, 240, 241, 242, 193, 85, 86, 87, 194, 170, 171, 172, 45, 125, 126, 127, 128, 243, 244, 245, 246, 247, 248, 249, 250, 204, 251, 252, 253, 254, 255, 256, 257, 258, 195, 196, 197, 198, 199, 161, 162, 163, 200, 201, 202, 203, 208, 209, 210, 211, 259, 260, 261, 262, 263, 264, 265, 266, 121, 122, 123, 124, 267, 268, 269, 270, 315, 316, 317, 318, 331, 332, 333, 334, 347, 348, 349, 350, 351, 352, 353, 354, 355, 356, 357, 358, 556, 429, 430, 431, 432, 775, 776, 777, 778, 779, 780, 781, 809, 810, 811, 812, 813, 814, 815, 816, 817, 818, 819, 820, 821, 822, 804, 805, 806, 807, 808, 799, 800, 801, 802, 803, 828, 829, 830] (by decide +kernel) (by decide +kernel)
set_option maxRecDepth 20000 in
theorem gL_law_X5_play : GoodIn wsL_law (wsV RL 69 RX5 yX5_play wsX5_play) := goodIn_app (goodIn_of _ (by decide +kernel)) ggL_law_X5_play
set_option maxRecDepth 20000 in
theorem ggL_law_X6_play : GoodIn wsL_law wsX6_play := goodIn_r _ [573, 69, 504, 424, 538, 539, 540, 5, 541, 509, 542, 543, 544, 545, 546, 547, 548, 523, 524, 525, 526, 73, 530, 531, 532, 533, 519, 520, 521, 522, 137, 138, 139, 527, 528, 529, 140, 141, 142, 143, 144, 71, 145, 146, 147, 574, 575, 576, 577, 278, 279, 280, 281, 282, 75, 216, 217, 218, 219, 224, 225, 226, 227, 283, 284, 285, 286, 181, 182, 183, 184, 287, 288, 289, 290, 291, 292, 293, 294, 295, 296, 297, 298, 299, 300, 301, 302, 220, 221, 222, 223, 303, 304, 305, 306, 307, 308, 309, 310, 323, 324, 325, 326, 339, 340, 341, 342, 363, 364, 365, 366, 367, 368, 369, 370, 782, 783, 784, 785, 786, 787, 788, 789, 790, 791, 792, 793, 794, 795, 796, 797, 798] (by decide +kernel) (by decide +kernel)
set_option maxRecDepth 20000 in
theorem gL_law_X6_play : GoodIn wsL_law (wsV RL 72 RX6 yX6_play wsX6_play) := goodIn_app (goodIn_of _ (by decide +kernel)) ggL_law_X6_play
set_option maxRecDepth 20000 in
theorem ggL_law_X5_zoneOf : GoodIn wsL_law wsX5_zoneOf := goodIn_r _ [581, 15, 160, 161, 162, 36, 163, 88, 81, 82, 2, 83, 165, 166, 167, 168, 169, 170, 171, 172, 45, 46, 582, 583, 584, 14, 585, 37, 194, 243, 244, 245, 246, 247, 248, 249, 250, 193, 85, 86, 87, 204, 205, 206, 207, 40, 586, 775, 776, 777, 778, 779, 780, 781, 799, 800, 801, 802, 803, 828, 829, 830] (by decide +kernel) (by decide +kernel)
set_option maxRecDepth 20000 in
theorem gL_law_X5_zoneOf : GoodIn wsL_law (wsV RL 73 RX5 yX5_zoneOf wsX5_zoneOf) := goodIn_app (goodIn_of _ (by decide +kernel)) ggL_law_X5_zoneOf
set_option maxRecDepth 20000 in
theorem ggL_law_X6_zoneOf : GoodIn wsL_law wsX6_zoneOf := goodIn_r _ [590, 177, 178, 179, 5, 180, 69, 137, 138, 139, 181, 182, 183, 184, 591, 592, 593, 594, 216, 217, 218, 219, 595, 596, 597, 598, 283, 284, 285, 286, 287, 288, 289, 290, 291, 292, 293, 294, 782, 783, 784, 785, 786, 787, 788, 789, 790, 791, 792, 793, 794, 795, 796, 797, 798] (by decide +kernel) (by decide +kernel)
set_option maxRecDepth 20000 in
theorem gL_law_X6_zoneOf : GoodIn wsL_law (wsV RL 76 RX6 yX6_zoneOf wsX6_zoneOf) := goodIn_app (goodIn_of _ (by decide +kernel)) ggL_law_X6_zoneOf
set_option maxRecDepth 20000 in
theorem ggL_law_X5_voice : GoodIn wsL_law wsX5_voice := goodIn_r _ [602, 15, 160, 161, 162, 36, 163, 88, 81, 82, 2, 83, 603, 604, 605, 14, 606, 38, 263, 264, 265, 266, 204, 205, 206, 207, 40, 194, 170, 171, 172, 45, 46, 193, 85, 86, 87, 586, 775, 776, 777, 778, 779, 780, 781, 799, 800, 801, 802, 803, 828, 829, 830] (by decide +kernel) (by decide +kernel)
set_option maxRecDepth 20000 in
theorem gL_law_X5_voice : GoodIn wsL_law (wsV RL 77 RX5 yX5_voice wsX5_voice) := goodIn_app (goodIn_of _ (by decide +kernel)) ggL_law_X5_voice
set_option maxRecDepth 20000 in
theorem ggL_law_X6_voice : GoodIn wsL_law wsX6_voice := goodIn_r _ [610, 69, 137, 138, 5, 139, 216, 217, 218, 219, 611, 612, 613, 614, 307, 308, 309, 310, 782, 783, 784, 785, 786, 787, 788, 789, 790, 791, 792, 793, 794, 795, 796, 797, 798] (by decide +kernel) (by decide +kernel)
set_option maxRecDepth 20000 in
theorem gL_law_X6_voice : GoodIn wsL_law (wsV RL 80 RX6 yX6_voice wsX6_voice) := goodIn_app (goodIn_of _ (by decide +kernel)) ggL_law_X6_voice
set_option maxRecDepth 20000 in
theorem ggL_law_X5_answers : GoodIn wsL_law wsX5_answers := goodIn_r _ [618, 15, 232, 233, 2, 234, 81, 82, 83, 619, 620, 621, 14, 622, 37, 193, 85, 86, 36, 87, 88, 247, 248, 249, 250, 194, 170, 171, 172, 45, 46, 775, 776, 777, 778, 779, 780, 781, 799, 800, 801, 802, 803, 828, 829, 830] (by decide +kernel) (by decide +kernel)
set_option maxRecDepth 20000 in
theorem gL_law_X5_answers : GoodIn wsL_law (wsV RL 81 RX5 yX5_answers wsX5_answers) := goodIn_app (goodIn_of _ (by decide +kernel)) ggL_law_X5_answers
set_option maxRecDepth 20000 in
theorem ggL_law_X6_answers : GoodIn wsL_law wsX6_answers := goodIn_r _ [626, 275, 276, 5, 277, 137, 138, 139, 627, 628, 629, 630, 69, 287, 288, 289, 290, 181, 182, 183, 184, 782, 783, 784, 785, 786, 787, 788, 789, 790, 791, 792, 793, 794, 795, 796, 797, 798] (by decide +kernel) (by decide +kernel)
set_option maxRecDepth 20000 in
theorem gL_law_X6_answers : GoodIn wsL_law (wsV RL 84 RX6 yX6_answers wsX6_answers) := goodIn_app (goodIn_of _ (by decide +kernel)) ggL_law_X6_answers
set_option maxRecDepth 20000 in
theorem ggL_law_X5_map : GoodIn wsL_law wsX5_map := goodIn_r _ [634, 29, 15, 81, 82, 2, 83, 635, 636, 637, 28, 638, 639, 640, 641, 642, 64, 643, 644, 645, 646, 647, 620, 621, 14, 622, 37, 193, 85, 86, 36, 87, 88, 247, 248, 249, 250, 194, 170, 171, 172, 45, 46, 648, 649, 650, 651, 652, 653, 114, 654, 655, 656, 657, 658, 659, 660, 661, 662, 663, 664, 665, 666, 667, 668, 775, 776, 777, 778, 779, 780, 781, 823, 824, 825, 826, 827, 799, 800, 801, 802, 803, 828, 829, 830] (by decide +kernel) (by decide +kernel)
set_option maxRecDepth 20000 in
theorem gL_law_X5_map : GoodIn wsL_law (wsV RL 85 RX5 yX5_map wsX5_map) := goodIn_app (goodIn_of _ (by decide +kernel)) ggL_law_X5_map
set_option maxRecDepth 20000 in
theorem ggL_law_X6_map : GoodIn wsL_law wsX6_map := goodIn_r _ [672, 137, 138, 5, 139, 627, 628, 629, 630, 69, 287, 288, 289, 290, 181, 182, 183, 184, 782, 783, 784, 785, 786, 787, 788, 789, 790, 791, 792, 793, 794, 795, 796, 797, 798] (by decide +kernel) (by decide +kernel)
set_option maxRecDepth 20000 in
theorem gL_law_X6_map : GoodIn wsL_law (wsV RL 88 RX6 yX6_map wsX6_map) := goodIn_app (goodIn_of _ (by decide +kernel)) ggL_law_X6_map
set_option maxRecDepth 20000 in
theorem ggL_law_X5_count : GoodIn wsL_law wsX5_count := goodIn_r _ [676, 15, 25, 21, 81, 82, 2, 83, 394, 205, 206, 14, 207, 40, 84, 85, 86, 36, 87, 88, 165, 166, 167, 168, 169, 170, 171, 172, 45, 46, 677, 678, 679, 680, 411, 412, 413, 24, 414, 415, 681, 682, 683, 20, 684, 93, 775, 776, 777, 778, 779, 780, 781, 799, 800, 801, 802, 803, 828, 829, 830, 809, 810, 811, 812, 813, 814, 815, 816, 817, 818, 819, 820, 821, 822, 804, 805, 806, 807, 808] (by decide +kernel) (by decide +kernel)
set_option maxRecDepth 20000 in
theorem gL_law_X5_count : GoodIn wsL_law (wsV RL 89 RX5 yX5_count wsX5_count) := goodIn_app (goodIn_of _ (by decide +kernel)) ggL_law_X5_count
set_option maxRecDepth 20000 in
theorem ggL_law_X6_count : GoodIn wsL_law wsX6_count := goodIn_r _ [688, 69, 424, 144, 689, 690, 691, 5, 692, 216, 217, 218, 219, 693, 694, 695, 696, 137, 138, 139, 782, 783, 784, 785, 786, 787, 788, 789, 790, 791, 792, 793, 794, 795, 796, 797, 798] (by decide +kernel) (by decide +kernel)
set_option maxRecDepth 20000 in
theorem gL_law_X6_count : GoodIn wsL_law (wsV RL 92 RX6 yX6_count wsX6_count) := goodIn_app (goodIn_of _ (by decide +kernel)) ggL_law_X6_count
set_option maxRecDepth 20000 in
theorem ggL_law_X5_loudness : GoodIn wsL_law wsX5_loudness := goodIn_r _ [700, 15, 84, 85, 86, 36, 87, 88, 677, 678, 679, 680, 169, 170, 171, 172, 45, 46, 775, 776, 777, 778, 779, 780, 781, 799, 800, 801, 802, 803, 828, 829, 830] (by decide +kernel) (by decide +kernel)
set_option maxRecDepth 20000 in
theorem gL_law_X5_loudness : GoodIn wsL_law (wsV RL 93 RX5 yX5_loudness wsX5_loudness) := goodIn_app (goodIn_of _ (by decide +kernel)) ggL_law_X5_loudness
set_option maxRecDepth 20000 in
theorem ggL_law_X6_loudness : GoodIn wsL_law wsX6_loudness := goodIn_r _ [704, 69, 693, 694, 695, 5, 696, 216, 217, 218, 219, 782, 783, 784, 785, 786, 787, 788, 789, 790, 791, 792, 793, 794, 795, 796, 797, 798] (by decide +kernel) (by decide +kernel)
set_option maxRecDepth 20000 in
theorem gL_law_X6_loudness : GoodIn wsL_law (wsV RL 97 RX6 yX6_loudness wsX6_loudness) := goodIn_app (goodIn_of _ (by decide +kernel)) ggL_law_X6_loudness
set_option maxRecDepth 20000 in
theorem ggL_law_X5_ifHit : GoodIn wsL_law wsX5_ifHit := goodIn_r _ [708, 15, 16, 232, 233, 2, 234, 81, 82, 83, 709, 710, 711, 14, 712, 37, 193, 85, 86, 36, 87, 88, 243, 244, 245, 246, 247, 248, 249, 250, 194, 170, 171, 172, 45, 46, 204, 205, 206, 207, 40, 713, 99, 100, 101, 38, 102, 103, 104, 105, 106, 107, 108, 109, 110, 111, 112, 113, 114, 115, 116, 235, 236, 237, 238, 239, 240, 241, 242, 125, 126, 127, 128, 251, 252, 253, 254, 255, 256, 257, 258, 195, 196, 197, 198, 199, 161, 162, 163, 200, 201, 202, 203, 208, 209, 210, 211, 259, 260, 261, 262, 263, 264, 265, 266, 121, 122, 123, 124, 267, 268, 269, 270, 394, 84, 775, 776, 777, 778, 779, 780, 781, 799, 800, 801, 802, 803, 828, 829, 830] (by decide +kernel) (by decide +kernel)
set_option maxRecDepth 20000 in
theorem gL_law_X5_ifHit : GoodIn wsL_law (wsV RL 98 RX5 yX5_ifHit wsX5_ifHit) := goodIn_app (goodIn_of _ (by decide +kernel)) ggL_law_X5_ifHit
set_option maxRecDepth 20000 in
theorem ggL_law_X6_ifHit : GoodIn wsL_law wsX6_ifHit := goodIn_r _ [717, 69, 70, 282, 275, 276, 5, 277, 137, 138, 139, 145, 146, 147, 278, 279, 280, 281, 75, 216, 217, 218, 219, 224, 225, 226, 227, 283, 284, 285, 286, 181, 182, 183, 184, 287, 288, 289, 290, 291, 292, 293, 294, 295, 296, 297, 298, 299, 300, 301, 302, 220, 221, 222, 223, 303, 304, 305, 306, 307, 308, 309, 310, 782, 783, 784, 785, 786, 787, 788, 789, 790, 791, 792, 793, 794, 795, 796, 797, 798] (by decide +kernel) (by decide +kernel)
set_option maxRecDepth 20000 in
theorem gL_law_X6_ifHit : GoodIn wsL_law (wsV RL 102 RX6 yX6_ifHit wsX6_ifHit) := goodIn_app (goodIn_of _ (by decide +kernel)) ggL_law_X6_ifHit
set_option maxRecDepth 20000 in
theorem ggL_law_X5_silentIn : GoodIn wsL_law wsX5_silentIn := goodIn_r _ [721, 15, 722, 653, 114, 654, 84, 85, 86, 36, 87, 88, 723, 724, 725, 14, 726, 727, 38, 37, 728, 113, 115, 355, 356, 357, 358, 194, 170, 171, 172, 45, 46, 204, 205, 206, 207, 40, 775, 776, 777, 778, 779, 780, 781, 799, 800, 801, 802, 803, 828, 829, 830] (by decide +kernel) (by decide +kernel)
set_option maxRecDepth 20000 in
theorem gL_law_X5_silentIn : GoodIn wsL_law (wsV RL 103 RX5 yX5_silentIn wsX5_silentIn) := goodIn_app (goodIn_of _ (by decide +kernel)) ggL_law_X5_silentIn
set_option maxRecDepth 20000 in
theorem ggL_law_X6_silentIn : GoodIn wsL_law wsX6_silentIn := goodIn_r _ [732, 69, 70, 145, 146, 5, 147, 367, 368, 369, 370, 216, 217, 218, 219, 224, 225, 226, 227, 181, 182, 183, 184, 220, 221, 222, 223, 782, 783, 784, 785, 786, 787, 788, 789, 790, 791, 792, 793, 794, 795, 796, 797, 798] (by decide +kernel) (by decide +kernel)
set_option maxRecDepth 20000 in
theorem gL_law_X6_silentIn : GoodIn wsL_law (wsV RL 106 RX6 yX6_silentIn wsX6_silentIn) := goodIn_app (goodIn_of _ (by decide +kernel)) ggL_law_X6_silentIn
set_option maxRecDepth 20000 in
theorem ggL_law_X5_chord : GoodIn wsL_law wsX5_chord := goodIn_r _ [736, 15, 81, 82, 2, 83, 737, 738, 739, 14, 740, 37, 193, 85, 86, 36, 87, 88, 243, 244, 245, 246, 247, 248, 249, 250, 194, 170, 171, 172, 45, 46, 204, 205, 206, 207, 40, 775, 776, 777, 778, 779, 780, 781, 799, 800, 801, 802, 803, 828, 829, 830] (by decide +kernel) (by decide +kernel)
set_option maxRecDepth 20000 in
theorem gL_law_X5_chord : GoodIn wsL_law (wsV RL 107 RX5 yX5_chord wsX5_chord) := goodIn_app (goodIn_of _ (by decide +kernel)) ggL_law_X5_chord
set_option maxRecDepth 20000 in
theorem ggL_law_X6_chord : GoodIn wsL_law wsX6_chord := goodIn_r _ [744, 69, 70, 137, 138, 5, 139, 145, 146, 147, 278, 279, 280, 281, 282, 75, 216, 217, 218, 219, 224, 225, 226, 227, 283, 284, 285, 286, 181, 182, 183, 184, 287, 288, 289, 290, 291, 292, 293, 294, 295, 296, 297, 298, 299, 300, 301, 302, 220, 221, 222, 223, 303, 304, 305, 306, 307, 308, 309, 310, 782, 783, 784, 785, 786, 787, 788, 789, 790, 791, 792, 793, 794, 795, 796, 797, 798] (by decide +kernel) (by decide +kernel)
set_option maxRecDepth 20000 in
theorem gL_law_X6_chord : GoodIn wsL_law (wsV RL 110 RX6 yX6_chord wsX6_chord) := goodIn_app (goodIn_of _ (by decide +kernel)) ggL_law_X6_chord
set_option maxRecDepth 20000 in
theorem ggL_law_X5_undo : GoodIn wsL_law wsX5_undo := goodIn_r _ [748, 21, 15, 681, 682, 683, 20, 684, 93, 749, 750, 751, 752, 94, 95, 96, 97, 51, 52, 53, 54, 98, 99, 100, 14, 101, 37, 38, 40, 102, 103, 104, 105, 106, 107, 108, 109, 110, 36, 111, 46, 112, 113, 114, 115, 116, 88, 775, 776, 777, 778, 779, 780, 781, 804, 805, 806, 807, 808, 799, 800, 801, 802, 803, 828, 829, 830] (by decide +kernel) (by decide +kernel)
set_option maxRecDepth 20000 in
theorem gL_law_X5_undo : GoodIn wsL_law (wsV RL 111 RX5 yX5_undo wsX5_undo) := goodIn_app (goodIn_of _ (by decide +kernel)) ggL_law_X5_undo
set_option maxRecDepth 20000 in
theorem ggL_law_X6_undo : GoodIn wsL_law wsX6_undo := goodIn_r _ [756, 144, 71, 69, 145, 146, 5, 147, 782, 783, 784, 785, 786, 787, 788, 789, 790, 791, 792, 793, 794, 795, 796, 797, 798] (by decide +kernel) (by decide +kernel)
set_option maxRecDepth 20000 in
theorem gL_law_X6_undo : GoodIn wsL_law (wsV RL 114 RX6 yX6_undo wsX6_undo) := goodIn_app (goodIn_of _ (by decide +kernel)) ggL_law_X6_undo
set_option maxRecDepth 20000 in
theorem ggL_law_X5_save : GoodIn wsL_law wsX5_save := goodIn_r _ [760, 17, 15, 761, 713, 99, 100, 14, 101, 37, 38, 40, 102, 103, 104, 105, 106, 107, 108, 109, 110, 36, 111, 46, 112, 113, 114, 115, 116, 88, 84, 85, 86, 87, 775, 776, 777, 778, 779, 780, 781, 799, 800, 801, 802, 803, 828, 829, 830] (by decide +kernel) (by decide +kernel)
set_option maxRecDepth 20000 in
theorem gL_law_X5_save : GoodIn wsL_law (wsV RL 115 RX5 yX5_save wsX5_save) := goodIn_app (goodIn_of _ (by decide +kernel)) ggL_law_X5_save
set_option maxRecDepth 20000 in
theorem ggL_law_X6_save : GoodIn wsL_law wsX6_save := goodIn_r _ [765, 69, 72, 766, 145, 146, 5, 147, 782, 783, 784, 785, 786, 787, 788, 789, 790, 791, 792, 793, 794, 795, 796, 797, 798] (by decide +kernel) (by decide +kernel)
set_option maxRecDepth 20000 in
theorem gL_law_X6_save : GoodIn wsL_law (wsV RL 118 RX6 yX6_save wsX6_save) := goodIn_app (goodIn_of _ (by decide +kernel)) ggL_law_X6_save
set_option maxRecDepth 20000 in
theorem ggL_law_X5_restore : GoodIn wsL_law wsX5_restore := goodIn_r _ [770, 761, 21, 15, 17, 89, 90, 91, 20, 92, 93, 51, 52, 53, 54, 94, 95, 96, 97, 98, 99, 100, 14, 101, 37, 38, 40, 102, 103, 104, 105, 106, 107, 108, 109, 110, 36, 111, 46, 112, 113, 114, 115, 116, 88, 713, 84, 85, 86, 87, 775, 776, 777, 778, 779, 780, 781, 799, 800, 801, 802, 803, 804, 805, 806, 807, 808, 828, 829, 830] (by decide +kernel) (by decide +kernel)
set_option maxRecDepth 20000 in
theorem gL_law_X5_restore : GoodIn wsL_law (wsV RL 119 RX5 yX5_restore wsX5_restore) := goodIn_app (goodIn_of _ (by decide +kernel)) ggL_law_X5_restore
set_option maxRecDepth 20000 in
theorem ggL_law_X6_restore : GoodIn wsL_law wsX6_restore := goodIn_r _ [774, 766, 72, 69, 140, 141, 142, 5, 143, 144, 71, 145, 146, 147, 782, 783, 784, 785, 786, 787, 788, 789, 790, 791, 792, 793, 794, 795, 796, 797, 798] (by decide +kernel) (by decide +kernel)
set_option maxRecDepth 20000 in
theorem gL_law_X6_restore : GoodIn wsL_law (wsV RL 122 RX6 yX6_restore wsX6_restore) := goodIn_app (goodIn_of _ (by decide +kernel)) ggL_law_X6_restore
theorem dL_law_0 : decode cL_law 0 = .ok (.new 7, 3) := by decide +kernel
theorem dL_law_3 : decode cL_law 3 = .ok (.dup, 1) := by decide +kernel
theorem dL_law_4 : decode cL_law 4 = .ok (.invokespecial 9, 3) := by decide +kernel
theorem dL_law_7 : decode cL_law 7 = .ok (.astore_n 1, 1) := by decide +kernel
theorem dL_law_8 : decode cL_law 8 = .ok (.new 10, 3) := by decide +kernel
theorem dL_law_11 : decode cL_law 11 = .ok (.dup, 1) := by decide +kernel
theorem dL_law_12 : decode cL_law 12 = .ok (.invokespecial 12, 3) := by decide +kernel
theorem dL_law_15 : decode cL_law 15 = .ok (.astore_n 2, 1) := by decide +kernel
theorem dL_law_16 : decode cL_law 16 = .ok (.iconst 0, 1) := by decide +kernel
theorem dL_law_17 : decode cL_law 17 = .ok (.istore_n 3, 1) := by decide +kernel
theorem dL_law_18 : decode cL_law 18 = .ok (.iload_n 3, 1) := by decide +kernel
theorem dL_law_19 : decode cL_law 19 = .ok (.aload_n 0, 1) := by decide +kernel
theorem dL_law_20 : decode cL_law 20 = .ok (.arraylength, 1) := by decide +kernel
theorem dL_law_21 : decode cL_law 21 = .ok (.iconst 5, 1) := by decide +kernel
theorem dL_law_22 : decode cL_law 22 = .ok (.isub, 1) := by decide +kernel
theorem dL_law_23 : decode cL_law 23 = .ok (.if_icmp .gt 821, 3) := by decide +kernel
theorem dL_law_26 : decode cL_law 26 = .ok (.aload_n 0, 1) := by decide +kernel
theorem dL_law_27 : decode cL_law 27 = .ok (.iload_n 3, 1) := by decide +kernel
theorem dL_law_28 : decode cL_law 28 = .ok (.iaload, 1) := by decide +kernel
theorem dL_law_29 : decode cL_law 29 = .ok (.bipush 31, 2) := by decide +kernel
theorem dL_law_31 : decode cL_law 31 = .ok (.iand, 1) := by decide +kernel
theorem dL_law_32 : decode cL_law 32 = .ok (.tableswitch 806 0 25 #[120, 173, 226, 249, 282, 305, 318, 341, 354, 387, 410, 423, 446, 459, 472, 505, 538, 571, 604, 627, 668, 711, 724, 767, 780, 793], 120) := by decide +kernel
theorem dL_law_152 : decode cL_law 152 = .ok (.aload_n 1, 1) := by decide +kernel
theorem dL_law_153 : decode cL_law 153 = .ok (.aload_n 0, 1) := by decide +kernel
theorem dL_law_154 : decode cL_law 154 = .ok (.iload_n 3, 1) := by decide +kernel
theorem dL_law_155 : decode cL_law 155 = .ok (.iconst 1, 1) := by decide +kernel
theorem dL_law_156 : decode cL_law 156 = .ok (.iadd, 1) := by decide +kernel
theorem dL_law_157 : decode cL_law 157 = .ok (.iaload, 1) := by decide +kernel
theorem dL_law_158 : decode cL_law 158 = .ok (.aload_n 0, 1) := by decide +kernel
theorem dL_law_159 : decode cL_law 159 = .ok (.iload_n 3, 1) := by decide +kernel
theorem dL_law_160 : decode cL_law 160 = .ok (.iconst 2, 1) := by decide +kernel
theorem dL_law_161 : decode cL_law 161 = .ok (.iadd, 1) := by decide +kernel
theorem dL_law_162 : decode cL_law 162 = .ok (.iaload, 1) := by decide +kernel
theorem dL_law_163 : decode cL_law 163 = .ok (.aload_n 0, 1) := by decide +kernel
theorem dL_law_164 : decode cL_law 164 = .ok (.iload_n 3, 1) := by decide +kernel
theorem dL_law_165 : decode cL_law 165 = .ok (.iconst 3, 1) := by decide +kernel
theorem dL_law_166 : decode cL_law 166 = .ok (.iadd, 1) := by decide +kernel
theorem dL_law_167 : decode cL_law 167 = .ok (.iaload, 1) := by decide +kernel
theorem dL_law_168 : decode cL_law 168 = .ok (.aload_n 0, 1) := by decide +kernel
theorem dL_law_169 : decode cL_law 169 = .ok (.iload_n 3, 1) := by decide +kernel
theorem dL_law_170 : decode cL_law 170 = .ok (.iconst 4, 1) := by decide +kernel
theorem dL_law_171 : decode cL_law 171 = .ok (.iadd, 1) := by decide +kernel
theorem dL_law_172 : decode cL_law 172 = .ok (.iaload, 1) := by decide +kernel
theorem dL_law_173 : decode cL_law 173 = .ok (.invokevirtual 13, 3) := by decide +kernel
theorem dL_law_176 : decode cL_law 176 = .ok (.aload_n 2, 1) := by decide +kernel
theorem dL_law_177 : decode cL_law 177 = .ok (.aload_n 0, 1) := by decide +kernel
theorem dL_law_178 : decode cL_law 178 = .ok (.iload_n 3, 1) := by decide +kernel
theorem dL_law_179 : decode cL_law 179 = .ok (.iconst 1, 1) := by decide +kernel
theorem dL_law_180 : decode cL_law 180 = .ok (.iadd, 1) := by decide +kernel
theorem dL_law_181 : decode cL_law 181 = .ok (.iaload, 1) := by decide +kernel
theorem dL_law_182 : decode cL_law 182 = .ok (.aload_n 0, 1) := by decide +kernel
theorem dL_law_183 : decode cL_law 183 = .ok (.iload_n 3, 1) := by decide +kernel
theorem dL_law_184 : decode cL_law 184 = .ok (.iconst 2, 1) := by decide +kernel
theorem dL_law_185 : decode cL_law 185 = .ok (.iadd, 1) := by decide +kernel
theorem dL_law_186 : decode cL_law 186 = .ok (.iaload, 1) := by decide +kernel
theorem dL_law_187 : decode cL_law 187 = .ok (.aload_n 0, 1) := by decide +kernel
theorem dL_law_188 : decode cL_law 188 = .ok (.iload_n 3, 1) := by decide +kernel
theorem dL_law_189 : decode cL_law 189 = .ok (.iconst 3, 1) := by decide +kernel
theorem dL_law_190 : decode cL_law 190 = .ok (.iadd, 1) := by decide +kernel
theorem dL_law_191 : decode cL_law 191 = .ok (.iaload, 1) := by decide +kernel
theorem dL_law_192 : decode cL_law 192 = .ok (.aload_n 0, 1) := by decide +kernel
theorem dL_law_193 : decode cL_law 193 = .ok (.iload_n 3, 1) := by decide +kernel
theorem dL_law_194 : decode cL_law 194 = .ok (.iconst 4, 1) := by decide +kernel
theorem dL_law_195 : decode cL_law 195 = .ok (.iadd, 1) := by decide +kernel
theorem dL_law_196 : decode cL_law 196 = .ok (.iaload, 1) := by decide +kernel
theorem dL_law_197 : decode cL_law 197 = .ok (.invokevirtual 17, 3) := by decide +kernel
theorem dL_law_200 : decode cL_law 200 = .ok (.if_icmp .eq 638, 3) := by decide +kernel
theorem dL_law_203 : decode cL_law 203 = .ok (.iconst 0, 1) := by decide +kernel
theorem dL_law_204 : decode cL_law 204 = .ok (.ireturn, 1) := by decide +kernel
theorem dL_law_205 : decode cL_law 205 = .ok (.aload_n 1, 1) := by decide +kernel
theorem dL_law_206 : decode cL_law 206 = .ok (.aload_n 0, 1) := by decide +kernel
theorem dL_law_207 : decode cL_law 207 = .ok (.iload_n 3, 1) := by decide +kernel
theorem dL_law_208 : decode cL_law 208 = .ok (.iconst 1, 1) := by decide +kernel
theorem dL_law_209 : decode cL_law 209 = .ok (.iadd, 1) := by decide +kernel
theorem dL_law_210 : decode cL_law 210 = .ok (.iaload, 1) := by decide +kernel
theorem dL_law_211 : decode cL_law 211 = .ok (.aload_n 0, 1) := by decide +kernel
theorem dL_law_212 : decode cL_law 212 = .ok (.iload_n 3, 1) := by decide +kernel
theorem dL_law_213 : decode cL_law 213 = .ok (.iconst 2, 1) := by decide +kernel
theorem dL_law_214 : decode cL_law 214 = .ok (.iadd, 1) := by decide +kernel
theorem dL_law_215 : decode cL_law 215 = .ok (.iaload, 1) := by decide +kernel
theorem dL_law_216 : decode cL_law 216 = .ok (.aload_n 0, 1) := by decide +kernel
theorem dL_law_217 : decode cL_law 217 = .ok (.iload_n 3, 1) := by decide +kernel
theorem dL_law_218 : decode cL_law 218 = .ok (.iconst 3, 1) := by decide +kernel
theorem dL_law_219 : decode cL_law 219 = .ok (.iadd, 1) := by decide +kernel
theorem dL_law_220 : decode cL_law 220 = .ok (.iaload, 1) := by decide +kernel
theorem dL_law_221 : decode cL_law 221 = .ok (.aload_n 0, 1) := by decide +kernel
theorem dL_law_222 : decode cL_law 222 = .ok (.iload_n 3, 1) := by decide +kernel
theorem dL_law_223 : decode cL_law 223 = .ok (.iconst 4, 1) := by decide +kernel
theorem dL_law_224 : decode cL_law 224 = .ok (.iadd, 1) := by decide +kernel
theorem dL_law_225 : decode cL_law 225 = .ok (.iaload, 1) := by decide +kernel
theorem dL_law_226 : decode cL_law 226 = .ok (.invokevirtual 18, 3) := by decide +kernel
theorem dL_law_229 : decode cL_law 229 = .ok (.aload_n 2, 1) := by decide +kernel
theorem dL_law_230 : decode cL_law 230 = .ok (.aload_n 0, 1) := by decide +kernel
theorem dL_law_231 : decode cL_law 231 = .ok (.iload_n 3, 1) := by decide +kernel
theorem dL_law_232 : decode cL_law 232 = .ok (.iconst 1, 1) := by decide +kernel
theorem dL_law_233 : decode cL_law 233 = .ok (.iadd, 1) := by decide +kernel
theorem dL_law_234 : decode cL_law 234 = .ok (.iaload, 1) := by decide +kernel
theorem dL_law_235 : decode cL_law 235 = .ok (.aload_n 0, 1) := by decide +kernel
theorem dL_law_236 : decode cL_law 236 = .ok (.iload_n 3, 1) := by decide +kernel
theorem dL_law_237 : decode cL_law 237 = .ok (.iconst 2, 1) := by decide +kernel
theorem dL_law_238 : decode cL_law 238 = .ok (.iadd, 1) := by decide +kernel
theorem dL_law_239 : decode cL_law 239 = .ok (.iaload, 1) := by decide +kernel
theorem dL_law_240 : decode cL_law 240 = .ok (.aload_n 0, 1) := by decide +kernel
theorem dL_law_241 : decode cL_law 241 = .ok (.iload_n 3, 1) := by decide +kernel
theorem dL_law_242 : decode cL_law 242 = .ok (.iconst 3, 1) := by decide +kernel
theorem dL_law_243 : decode cL_law 243 = .ok (.iadd, 1) := by decide +kernel
theorem dL_law_244 : decode cL_law 244 = .ok (.iaload, 1) := by decide +kernel
theorem dL_law_245 : decode cL_law 245 = .ok (.aload_n 0, 1) := by decide +kernel
theorem dL_law_246 : decode cL_law 246 = .ok (.iload_n 3, 1) := by decide +kernel
theorem dL_law_247 : decode cL_law 247 = .ok (.iconst 4, 1) := by decide +kernel
theorem dL_law_248 : decode cL_law 248 = .ok (.iadd, 1) := by decide +kernel
theorem dL_law_249 : decode cL_law 249 = .ok (.iaload, 1) := by decide +kernel
theorem dL_law_250 : decode cL_law 250 = .ok (.invokevirtual 21, 3) := by decide +kernel
theorem dL_law_253 : decode cL_law 253 = .ok (.if_icmp .eq 585, 3) := by decide +kernel
theorem dL_law_256 : decode cL_law 256 = .ok (.iconst 0, 1) := by decide +kernel
theorem dL_law_257 : decode cL_law 257 = .ok (.ireturn, 1) := by decide +kernel
theorem dL_law_258 : decode cL_law 258 = .ok (.aload_n 1, 1) := by decide +kernel
theorem dL_law_259 : decode cL_law 259 = .ok (.aload_n 0, 1) := by decide +kernel
theorem dL_law_260 : decode cL_law 260 = .ok (.iload_n 3, 1) := by decide +kernel
theorem dL_law_261 : decode cL_law 261 = .ok (.iconst 1, 1) := by decide +kernel
theorem dL_law_262 : decode cL_law 262 = .ok (.iadd, 1) := by decide +kernel
theorem dL_law_263 : decode cL_law 263 = .ok (.iaload, 1) := by decide +kernel
theorem dL_law_264 : decode cL_law 264 = .ok (.invokevirtual 22, 3) := by decide +kernel
theorem dL_law_267 : decode cL_law 267 = .ok (.aload_n 2, 1) := by decide +kernel
theorem dL_law_268 : decode cL_law 268 = .ok (.aload_n 0, 1) := by decide +kernel
theorem dL_law_269 : decode cL_law 269 = .ok (.iload_n 3, 1) := by decide +kernel
theorem dL_law_270 : decode cL_law 270 = .ok (.iconst 1, 1) := by decide +kernel
theorem dL_law_271 : decode cL_law 271 = .ok (.iadd, 1) := by decide +kernel
theorem dL_law_272 : decode cL_law 272 = .ok (.iaload, 1) := by decide +kernel
theorem dL_law_273 : decode cL_law 273 = .ok (.invokevirtual 26, 3) := by decide +kernel
theorem dL_law_276 : decode cL_law 276 = .ok (.if_icmp .eq 562, 3) := by decide +kernel
theorem dL_law_279 : decode cL_law 279 = .ok (.iconst 0, 1) := by decide +kernel
theorem dL_law_280 : decode cL_law 280 = .ok (.ireturn, 1) := by decide +kernel
theorem dL_law_281 : decode cL_law 281 = .ok (.aload_n 1, 1) := by decide +kernel
theorem dL_law_282 : decode cL_law 282 = .ok (.aload_n 0, 1) := by decide +kernel
theorem dL_law_283 : decode cL_law 283 = .ok (.iload_n 3, 1) := by decide +kernel
theorem dL_law_284 : decode cL_law 284 = .ok (.iconst 1, 1) := by decide +kernel
theorem dL_law_285 : decode cL_law 285 = .ok (.iadd, 1) := by decide +kernel
theorem dL_law_286 : decode cL_law 286 = .ok (.iaload, 1) := by decide +kernel
theorem dL_law_287 : decode cL_law 287 = .ok (.aload_n 0, 1) := by decide +kernel
theorem dL_law_288 : decode cL_law 288 = .ok (.iload_n 3, 1) := by decide +kernel
theorem dL_law_289 : decode cL_law 289 = .ok (.iconst 2, 1) := by decide +kernel
theorem dL_law_290 : decode cL_law 290 = .ok (.iadd, 1) := by decide +kernel
theorem dL_law_291 : decode cL_law 291 = .ok (.iaload, 1) := by decide +kernel
theorem dL_law_292 : decode cL_law 292 = .ok (.invokevirtual 27, 3) := by decide +kernel
theorem dL_law_295 : decode cL_law 295 = .ok (.aload_n 2, 1) := by decide +kernel
theorem dL_law_296 : decode cL_law 296 = .ok (.aload_n 0, 1) := by decide +kernel
theorem dL_law_297 : decode cL_law 297 = .ok (.iload_n 3, 1) := by decide +kernel
theorem dL_law_298 : decode cL_law 298 = .ok (.iconst 1, 1) := by decide +kernel
theorem dL_law_299 : decode cL_law 299 = .ok (.iadd, 1) := by decide +kernel
theorem dL_law_300 : decode cL_law 300 = .ok (.iaload, 1) := by decide +kernel
theorem dL_law_301 : decode cL_law 301 = .ok (.aload_n 0, 1) := by decide +kernel
theorem dL_law_302 : decode cL_law 302 = .ok (.iload_n 3, 1) := by decide +kernel
theorem dL_law_303 : decode cL_law 303 = .ok (.iconst 2, 1) := by decide +kernel
theorem dL_law_304 : decode cL_law 304 = .ok (.iadd, 1) := by decide +kernel
theorem dL_law_305 : decode cL_law 305 = .ok (.iaload, 1) := by decide +kernel
theorem dL_law_306 : decode cL_law 306 = .ok (.invokevirtual 31, 3) := by decide +kernel
theorem dL_law_309 : decode cL_law 309 = .ok (.if_icmp .eq 529, 3) := by decide +kernel
theorem dL_law_312 : decode cL_law 312 = .ok (.iconst 0, 1) := by decide +kernel
theorem dL_law_313 : decode cL_law 313 = .ok (.ireturn, 1) := by decide +kernel
theorem dL_law_314 : decode cL_law 314 = .ok (.aload_n 1, 1) := by decide +kernel
theorem dL_law_315 : decode cL_law 315 = .ok (.aload_n 0, 1) := by decide +kernel
theorem dL_law_316 : decode cL_law 316 = .ok (.iload_n 3, 1) := by decide +kernel
theorem dL_law_317 : decode cL_law 317 = .ok (.iconst 1, 1) := by decide +kernel
theorem dL_law_318 : decode cL_law 318 = .ok (.iadd, 1) := by decide +kernel
theorem dL_law_319 : decode cL_law 319 = .ok (.iaload, 1) := by decide +kernel
theorem dL_law_320 : decode cL_law 320 = .ok (.invokevirtual 32, 3) := by decide +kernel
theorem dL_law_323 : decode cL_law 323 = .ok (.aload_n 2, 1) := by decide +kernel
theorem dL_law_324 : decode cL_law 324 = .ok (.aload_n 0, 1) := by decide +kernel
theorem dL_law_325 : decode cL_law 325 = .ok (.iload_n 3, 1) := by decide +kernel
theorem dL_law_326 : decode cL_law 326 = .ok (.iconst 1, 1) := by decide +kernel
theorem dL_law_327 : decode cL_law 327 = .ok (.iadd, 1) := by decide +kernel
theorem dL_law_328 : decode cL_law 328 = .ok (.iaload, 1) := by decide +kernel
theorem dL_law_329 : decode cL_law 329 = .ok (.invokevirtual 35, 3) := by decide +kernel
theorem dL_law_332 : decode cL_law 332 = .ok (.if_icmp .eq 506, 3) := by decide +kernel
theorem dL_law_335 : decode cL_law 335 = .ok (.iconst 0, 1) := by decide +kernel
theorem dL_law_336 : decode cL_law 336 = .ok (.ireturn, 1) := by decide +kernel
theorem dL_law_337 : decode cL_law 337 = .ok (.aload_n 1, 1) := by decide +kernel
theorem dL_law_338 : decode cL_law 338 = .ok (.invokevirtual 36, 3) := by decide +kernel
theorem dL_law_341 : decode cL_law 341 = .ok (.aload_n 2, 1) := by decide +kernel
theorem dL_law_342 : decode cL_law 342 = .ok (.invokevirtual 40, 3) := by decide +kernel
theorem dL_law_345 : decode cL_law 345 = .ok (.if_icmp .eq 493, 3) := by decide +kernel
theorem dL_law_348 : decode cL_law 348 = .ok (.iconst 0, 1) := by decide +kernel
theorem dL_law_349 : decode cL_law 349 = .ok (.ireturn, 1) := by decide +kernel
theorem dL_law_350 : decode cL_law 350 = .ok (.aload_n 1, 1) := by decide +kernel
theorem dL_law_351 : decode cL_law 351 = .ok (.aload_n 0, 1) := by decide +kernel
theorem dL_law_352 : decode cL_law 352 = .ok (.iload_n 3, 1) := by decide +kernel
theorem dL_law_353 : decode cL_law 353 = .ok (.iconst 1, 1) := by decide +kernel
theorem dL_law_354 : decode cL_law 354 = .ok (.iadd, 1) := by decide +kernel
theorem dL_law_355 : decode cL_law 355 = .ok (.iaload, 1) := by decide +kernel
theorem dL_law_356 : decode cL_law 356 = .ok (.invokevirtual 41, 3) := by decide +kernel
theorem dL_law_359 : decode cL_law 359 = .ok (.aload_n 2, 1) := by decide +kernel
theorem dL_law_360 : decode cL_law 360 = .ok (.aload_n 0, 1) := by decide +kernel
theorem dL_law_361 : decode cL_law 361 = .ok (.iload_n 3, 1) := by decide +kernel
theorem dL_law_362 : decode cL_law 362 = .ok (.iconst 1, 1) := by decide +kernel
theorem dL_law_363 : decode cL_law 363 = .ok (.iadd, 1) := by decide +kernel
theorem dL_law_364 : decode cL_law 364 = .ok (.iaload, 1) := by decide +kernel
theorem dL_law_365 : decode cL_law 365 = .ok (.invokevirtual 44, 3) := by decide +kernel
theorem dL_law_368 : decode cL_law 368 = .ok (.if_icmp .eq 470, 3) := by decide +kernel
theorem dL_law_371 : decode cL_law 371 = .ok (.iconst 0, 1) := by decide +kernel
theorem dL_law_372 : decode cL_law 372 = .ok (.ireturn, 1) := by decide +kernel
theorem dL_law_373 : decode cL_law 373 = .ok (.aload_n 1, 1) := by decide +kernel
theorem dL_law_374 : decode cL_law 374 = .ok (.invokevirtual 45, 3) := by decide +kernel
theorem dL_law_377 : decode cL_law 377 = .ok (.aload_n 2, 1) := by decide +kernel
theorem dL_law_378 : decode cL_law 378 = .ok (.invokevirtual 48, 3) := by decide +kernel
theorem dL_law_381 : decode cL_law 381 = .ok (.if_icmp .eq 457, 3) := by decide +kernel
theorem dL_law_384 : decode cL_law 384 = .ok (.iconst 0, 1) := by decide +kernel
theorem dL_law_385 : decode cL_law 385 = .ok (.ireturn, 1) := by decide +kernel
theorem dL_law_386 : decode cL_law 386 = .ok (.aload_n 1, 1) := by decide +kernel
theorem dL_law_387 : decode cL_law 387 = .ok (.aload_n 0, 1) := by decide +kernel
theorem dL_law_388 : decode cL_law 388 = .ok (.iload_n 3, 1) := by decide +kernel
theorem dL_law_389 : decode cL_law 389 = .ok (.iconst 1, 1) := by decide +kernel
theorem dL_law_390 : decode cL_law 390 = .ok (.iadd, 1) := by decide +kernel
theorem dL_law_391 : decode cL_law 391 = .ok (.iaload, 1) := by decide +kernel
theorem dL_law_392 : decode cL_law 392 = .ok (.aload_n 0, 1) := by decide +kernel
theorem dL_law_393 : decode cL_law 393 = .ok (.iload_n 3, 1) := by decide +kernel
theorem dL_law_394 : decode cL_law 394 = .ok (.iconst 2, 1) := by decide +kernel
theorem dL_law_395 : decode cL_law 395 = .ok (.iadd, 1) := by decide +kernel
theorem dL_law_396 : decode cL_law 396 = .ok (.iaload, 1) := by decide +kernel
theorem dL_law_397 : decode cL_law 397 = .ok (.invokevirtual 49, 3) := by decide +kernel
theorem dL_law_400 : decode cL_law 400 = .ok (.aload_n 2, 1) := by decide +kernel
theorem dL_law_401 : decode cL_law 401 = .ok (.aload_n 0, 1) := by decide +kernel
theorem dL_law_402 : decode cL_law 402 = .ok (.iload_n 3, 1) := by decide +kernel
theorem dL_law_403 : decode cL_law 403 = .ok (.iconst 1, 1) := by decide +kernel
theorem dL_law_404 : decode cL_law 404 = .ok (.iadd, 1) := by decide +kernel
theorem dL_law_405 : decode cL_law 405 = .ok (.iaload, 1) := by decide +kernel
theorem dL_law_406 : decode cL_law 406 = .ok (.aload_n 0, 1) := by decide +kernel
theorem dL_law_407 : decode cL_law 407 = .ok (.iload_n 3, 1) := by decide +kernel
theorem dL_law_408 : decode cL_law 408 = .ok (.iconst 2, 1) := by decide +kernel
theorem dL_law_409 : decode cL_law 409 = .ok (.iadd, 1) := by decide +kernel
theorem dL_law_410 : decode cL_law 410 = .ok (.iaload, 1) := by decide +kernel
theorem dL_law_411 : decode cL_law 411 = .ok (.invokevirtual 52, 3) := by decide +kernel
theorem dL_law_414 : decode cL_law 414 = .ok (.if_icmp .eq 424, 3) := by decide +kernel
theorem dL_law_417 : decode cL_law 417 = .ok (.iconst 0, 1) := by decide +kernel
theorem dL_law_418 : decode cL_law 418 = .ok (.ireturn, 1) := by decide +kernel
theorem dL_law_419 : decode cL_law 419 = .ok (.aload_n 1, 1) := by decide +kernel
theorem dL_law_420 : decode cL_law 420 = .ok (.aload_n 0, 1) := by decide +kernel
theorem dL_law_421 : decode cL_law 421 = .ok (.iload_n 3, 1) := by decide +kernel
theorem dL_law_422 : decode cL_law 422 = .ok (.iconst 1, 1) := by decide +kernel
theorem dL_law_423 : decode cL_law 423 = .ok (.iadd, 1) := by decide +kernel
theorem dL_law_424 : decode cL_law 424 = .ok (.iaload, 1) := by decide +kernel
theorem dL_law_425 : decode cL_law 425 = .ok (.invokevirtual 53, 3) := by decide +kernel
theorem dL_law_428 : decode cL_law 428 = .ok (.aload_n 2, 1) := by decide +kernel
theorem dL_law_429 : decode cL_law 429 = .ok (.aload_n 0, 1) := by decide +kernel
theorem dL_law_430 : decode cL_law 430 = .ok (.iload_n 3, 1) := by decide +kernel
theorem dL_law_431 : decode cL_law 431 = .ok (.iconst 1, 1) := by decide +kernel
theorem dL_law_432 : decode cL_law 432 = .ok (.iadd, 1) := by decide +kernel
theorem dL_law_433 : decode cL_law 433 = .ok (.iaload, 1) := by decide +kernel
theorem dL_law_434 : decode cL_law 434 = .ok (.invokevirtual 56, 3) := by decide +kernel
theorem dL_law_437 : decode cL_law 437 = .ok (.if_icmp .eq 401, 3) := by decide +kernel
theorem dL_law_440 : decode cL_law 440 = .ok (.iconst 0, 1) := by decide +kernel
theorem dL_law_441 : decode cL_law 441 = .ok (.ireturn, 1) := by decide +kernel
theorem dL_law_442 : decode cL_law 442 = .ok (.aload_n 1, 1) := by decide +kernel
theorem dL_law_443 : decode cL_law 443 = .ok (.invokevirtual 57, 3) := by decide +kernel
theorem dL_law_446 : decode cL_law 446 = .ok (.aload_n 2, 1) := by decide +kernel
theorem dL_law_447 : decode cL_law 447 = .ok (.invokevirtual 60, 3) := by decide +kernel
theorem dL_law_450 : decode cL_law 450 = .ok (.if_icmp .eq 388, 3) := by decide +kernel
theorem dL_law_453 : decode cL_law 453 = .ok (.iconst 0, 1) := by decide +kernel
theorem dL_law_454 : decode cL_law 454 = .ok (.ireturn, 1) := by decide +kernel
theorem dL_law_455 : decode cL_law 455 = .ok (.aload_n 1, 1) := by decide +kernel
theorem dL_law_456 : decode cL_law 456 = .ok (.aload_n 0, 1) := by decide +kernel
theorem dL_law_457 : decode cL_law 457 = .ok (.iload_n 3, 1) := by decide +kernel
theorem dL_law_458 : decode cL_law 458 = .ok (.iconst 1, 1) := by decide +kernel
theorem dL_law_459 : decode cL_law 459 = .ok (.iadd, 1) := by decide +kernel
theorem dL_law_460 : decode cL_law 460 = .ok (.iaload, 1) := by decide +kernel
theorem dL_law_461 : decode cL_law 461 = .ok (.invokevirtual 61, 3) := by decide +kernel
theorem dL_law_464 : decode cL_law 464 = .ok (.aload_n 2, 1) := by decide +kernel
theorem dL_law_465 : decode cL_law 465 = .ok (.aload_n 0, 1) := by decide +kernel
theorem dL_law_466 : decode cL_law 466 = .ok (.iload_n 3, 1) := by decide +kernel
theorem dL_law_467 : decode cL_law 467 = .ok (.iconst 1, 1) := by decide +kernel
theorem dL_law_468 : decode cL_law 468 = .ok (.iadd, 1) := by decide +kernel
theorem dL_law_469 : decode cL_law 469 = .ok (.iaload, 1) := by decide +kernel
theorem dL_law_470 : decode cL_law 470 = .ok (.invokevirtual 64, 3) := by decide +kernel
theorem dL_law_473 : decode cL_law 473 = .ok (.if_icmp .eq 365, 3) := by decide +kernel
theorem dL_law_476 : decode cL_law 476 = .ok (.iconst 0, 1) := by decide +kernel
theorem dL_law_477 : decode cL_law 477 = .ok (.ireturn, 1) := by decide +kernel
theorem dL_law_478 : decode cL_law 478 = .ok (.aload_n 1, 1) := by decide +kernel
theorem dL_law_479 : decode cL_law 479 = .ok (.invokevirtual 65, 3) := by decide +kernel
theorem dL_law_482 : decode cL_law 482 = .ok (.aload_n 2, 1) := by decide +kernel
theorem dL_law_483 : decode cL_law 483 = .ok (.invokevirtual 68, 3) := by decide +kernel
theorem dL_law_486 : decode cL_law 486 = .ok (.if_icmp .eq 352, 3) := by decide +kernel
theorem dL_law_489 : decode cL_law 489 = .ok (.iconst 0, 1) := by decide +kernel
theorem dL_law_490 : decode cL_law 490 = .ok (.ireturn, 1) := by decide +kernel
theorem dL_law_491 : decode cL_law 491 = .ok (.aload_n 1, 1) := by decide +kernel
theorem dL_law_492 : decode cL_law 492 = .ok (.invokevirtual 69, 3) := by decide +kernel
theorem dL_law_495 : decode cL_law 495 = .ok (.aload_n 2, 1) := by decide +kernel
theorem dL_law_496 : decode cL_law 496 = .ok (.invokevirtual 72, 3) := by decide +kernel
theorem dL_law_499 : decode cL_law 499 = .ok (.if_icmp .eq 339, 3) := by decide +kernel
theorem dL_law_502 : decode cL_law 502 = .ok (.iconst 0, 1) := by decide +kernel
theorem dL_law_503 : decode cL_law 503 = .ok (.ireturn, 1) := by decide +kernel
theorem dL_law_504 : decode cL_law 504 = .ok (.aload_n 1, 1) := by decide +kernel
theorem dL_law_505 : decode cL_law 505 = .ok (.aload_n 0, 1) := by decide +kernel
theorem dL_law_506 : decode cL_law 506 = .ok (.iload_n 3, 1) := by decide +kernel
theorem dL_law_507 : decode cL_law 507 = .ok (.iconst 1, 1) := by decide +kernel
theorem dL_law_508 : decode cL_law 508 = .ok (.iadd, 1) := by decide +kernel
theorem dL_law_509 : decode cL_law 509 = .ok (.iaload, 1) := by decide +kernel
theorem dL_law_510 : decode cL_law 510 = .ok (.aload_n 0, 1) := by decide +kernel
theorem dL_law_511 : decode cL_law 511 = .ok (.iload_n 3, 1) := by decide +kernel
theorem dL_law_512 : decode cL_law 512 = .ok (.iconst 2, 1) := by decide +kernel
theorem dL_law_513 : decode cL_law 513 = .ok (.iadd, 1) := by decide +kernel
theorem dL_law_514 : decode cL_law 514 = .ok (.iaload, 1) := by decide +kernel
theorem dL_law_515 : decode cL_law 515 = .ok (.invokevirtual 73, 3) := by decide +kernel
theorem dL_law_518 : decode cL_law 518 = .ok (.aload_n 2, 1) := by decide +kernel
theorem dL_law_519 : decode cL_law 519 = .ok (.aload_n 0, 1) := by decide +kernel
theorem dL_law_520 : decode cL_law 520 = .ok (.iload_n 3, 1) := by decide +kernel
theorem dL_law_521 : decode cL_law 521 = .ok (.iconst 1, 1) := by decide +kernel
theorem dL_law_522 : decode cL_law 522 = .ok (.iadd, 1) := by decide +kernel
theorem dL_law_523 : decode cL_law 523 = .ok (.iaload, 1) := by decide +kernel
theorem dL_law_524 : decode cL_law 524 = .ok (.aload_n 0, 1) := by decide +kernel
theorem dL_law_525 : decode cL_law 525 = .ok (.iload_n 3, 1) := by decide +kernel
theorem dL_law_526 : decode cL_law 526 = .ok (.iconst 2, 1) := by decide +kernel
theorem dL_law_527 : decode cL_law 527 = .ok (.iadd, 1) := by decide +kernel
theorem dL_law_528 : decode cL_law 528 = .ok (.iaload, 1) := by decide +kernel
theorem dL_law_529 : decode cL_law 529 = .ok (.invokevirtual 76, 3) := by decide +kernel
theorem dL_law_532 : decode cL_law 532 = .ok (.if_icmp .eq 306, 3) := by decide +kernel
theorem dL_law_535 : decode cL_law 535 = .ok (.iconst 0, 1) := by decide +kernel
theorem dL_law_536 : decode cL_law 536 = .ok (.ireturn, 1) := by decide +kernel
theorem dL_law_537 : decode cL_law 537 = .ok (.aload_n 1, 1) := by decide +kernel
theorem dL_law_538 : decode cL_law 538 = .ok (.aload_n 0, 1) := by decide +kernel
theorem dL_law_539 : decode cL_law 539 = .ok (.iload_n 3, 1) := by decide +kernel
theorem dL_law_540 : decode cL_law 540 = .ok (.iconst 1, 1) := by decide +kernel
theorem dL_law_541 : decode cL_law 541 = .ok (.iadd, 1) := by decide +kernel
theorem dL_law_542 : decode cL_law 542 = .ok (.iaload, 1) := by decide +kernel
theorem dL_law_543 : decode cL_law 543 = .ok (.aload_n 0, 1) := by decide +kernel
theorem dL_law_544 : decode cL_law 544 = .ok (.iload_n 3, 1) := by decide +kernel
theorem dL_law_545 : decode cL_law 545 = .ok (.iconst 2, 1) := by decide +kernel
theorem dL_law_546 : decode cL_law 546 = .ok (.iadd, 1) := by decide +kernel
theorem dL_law_547 : decode cL_law 547 = .ok (.iaload, 1) := by decide +kernel
theorem dL_law_548 : decode cL_law 548 = .ok (.invokevirtual 77, 3) := by decide +kernel
theorem dL_law_551 : decode cL_law 551 = .ok (.aload_n 2, 1) := by decide +kernel
theorem dL_law_552 : decode cL_law 552 = .ok (.aload_n 0, 1) := by decide +kernel
theorem dL_law_553 : decode cL_law 553 = .ok (.iload_n 3, 1) := by decide +kernel
theorem dL_law_554 : decode cL_law 554 = .ok (.iconst 1, 1) := by decide +kernel
theorem dL_law_555 : decode cL_law 555 = .ok (.iadd, 1) := by decide +kernel
theorem dL_law_556 : decode cL_law 556 = .ok (.iaload, 1) := by decide +kernel
theorem dL_law_557 : decode cL_law 557 = .ok (.aload_n 0, 1) := by decide +kernel
theorem dL_law_558 : decode cL_law 558 = .ok (.iload_n 3, 1) := by decide +kernel
theorem dL_law_559 : decode cL_law 559 = .ok (.iconst 2, 1) := by decide +kernel
theorem dL_law_560 : decode cL_law 560 = .ok (.iadd, 1) := by decide +kernel
theorem dL_law_561 : decode cL_law 561 = .ok (.iaload, 1) := by decide +kernel
theorem dL_law_562 : decode cL_law 562 = .ok (.invokevirtual 80, 3) := by decide +kernel
theorem dL_law_565 : decode cL_law 565 = .ok (.if_icmp .eq 273, 3) := by decide +kernel
theorem dL_law_568 : decode cL_law 568 = .ok (.iconst 0, 1) := by decide +kernel
theorem dL_law_569 : decode cL_law 569 = .ok (.ireturn, 1) := by decide +kernel
theorem dL_law_570 : decode cL_law 570 = .ok (.aload_n 1, 1) := by decide +kernel
theorem dL_law_571 : decode cL_law 571 = .ok (.aload_n 0, 1) := by decide +kernel
theorem dL_law_572 : decode cL_law 572 = .ok (.iload_n 3, 1) := by decide +kernel
theorem dL_law_573 : decode cL_law 573 = .ok (.iconst 1, 1) := by decide +kernel
theorem dL_law_574 : decode cL_law 574 = .ok (.iadd, 1) := by decide +kernel
theorem dL_law_575 : decode cL_law 575 = .ok (.iaload, 1) := by decide +kernel
theorem dL_law_576 : decode cL_law 576 = .ok (.aload_n 0, 1) := by decide +kernel
theorem dL_law_577 : decode cL_law 577 = .ok (.iload_n 3, 1) := by decide +kernel
theorem dL_law_578 : decode cL_law 578 = .ok (.iconst 2, 1) := by decide +kernel
theorem dL_law_579 : decode cL_law 579 = .ok (.iadd, 1) := by decide +kernel
theorem dL_law_580 : decode cL_law 580 = .ok (.iaload, 1) := by decide +kernel
theorem dL_law_581 : decode cL_law 581 = .ok (.invokevirtual 81, 3) := by decide +kernel
theorem dL_law_584 : decode cL_law 584 = .ok (.aload_n 2, 1) := by decide +kernel
theorem dL_law_585 : decode cL_law 585 = .ok (.aload_n 0, 1) := by decide +kernel
theorem dL_law_586 : decode cL_law 586 = .ok (.iload_n 3, 1) := by decide +kernel
theorem dL_law_587 : decode cL_law 587 = .ok (.iconst 1, 1) := by decide +kernel
theorem dL_law_588 : decode cL_law 588 = .ok (.iadd, 1) := by decide +kernel
theorem dL_law_589 : decode cL_law 589 = .ok (.iaload, 1) := by decide +kernel
theorem dL_law_590 : decode cL_law 590 = .ok (.aload_n 0, 1) := by decide +kernel
theorem dL_law_591 : decode cL_law 591 = .ok (.iload_n 3, 1) := by decide +kernel
theorem dL_law_592 : decode cL_law 592 = .ok (.iconst 2, 1) := by decide +kernel
theorem dL_law_593 : decode cL_law 593 = .ok (.iadd, 1) := by decide +kernel
theorem dL_law_594 : decode cL_law 594 = .ok (.iaload, 1) := by decide +kernel
theorem dL_law_595 : decode cL_law 595 = .ok (.invokevirtual 84, 3) := by decide +kernel
theorem dL_law_598 : decode cL_law 598 = .ok (.if_icmp .eq 240, 3) := by decide +kernel
theorem dL_law_601 : decode cL_law 601 = .ok (.iconst 0, 1) := by decide +kernel
theorem dL_law_602 : decode cL_law 602 = .ok (.ireturn, 1) := by decide +kernel
theorem dL_law_603 : decode cL_law 603 = .ok (.aload_n 1, 1) := by decide +kernel
theorem dL_law_604 : decode cL_law 604 = .ok (.aload_n 0, 1) := by decide +kernel
theorem dL_law_605 : decode cL_law 605 = .ok (.iload_n 3, 1) := by decide +kernel
theorem dL_law_606 : decode cL_law 606 = .ok (.iconst 1, 1) := by decide +kernel
theorem dL_law_607 : decode cL_law 607 = .ok (.iadd, 1) := by decide +kernel
theorem dL_law_608 : decode cL_law 608 = .ok (.iaload, 1) := by decide +kernel
theorem dL_law_609 : decode cL_law 609 = .ok (.aload_n 0, 1) := by decide +kernel
theorem dL_law_610 : decode cL_law 610 = .ok (.iload_n 3, 1) := by decide +kernel
theorem dL_law_611 : decode cL_law 611 = .ok (.iconst 2, 1) := by decide +kernel
theorem dL_law_612 : decode cL_law 612 = .ok (.iadd, 1) := by decide +kernel
theorem dL_law_613 : decode cL_law 613 = .ok (.iaload, 1) := by decide +kernel
theorem dL_law_614 : decode cL_law 614 = .ok (.invokevirtual 85, 3) := by decide +kernel
theorem dL_law_617 : decode cL_law 617 = .ok (.aload_n 2, 1) := by decide +kernel
theorem dL_law_618 : decode cL_law 618 = .ok (.aload_n 0, 1) := by decide +kernel
theorem dL_law_619 : decode cL_law 619 = .ok (.iload_n 3, 1) := by decide +kernel
theorem dL_law_620 : decode cL_law 620 = .ok (.iconst 1, 1) := by decide +kernel
theorem dL_law_621 : decode cL_law 621 = .ok (.iadd, 1) := by decide +kernel
theorem dL_law_622 : decode cL_law 622 = .ok (.iaload, 1) := by decide +kernel
theorem dL_law_623 : decode cL_law 623 = .ok (.aload_n 0, 1) := by decide +kernel
theorem dL_law_624 : decode cL_law 624 = .ok (.iload_n 3, 1) := by decide +kernel
theorem dL_law_625 : decode cL_law 625 = .ok (.iconst 2, 1) := by decide +kernel
theorem dL_law_626 : decode cL_law 626 = .ok (.iadd, 1) := by decide +kernel
theorem dL_law_627 : decode cL_law 627 = .ok (.iaload, 1) := by decide +kernel
theorem dL_law_628 : decode cL_law 628 = .ok (.invokevirtual 88, 3) := by decide +kernel
theorem dL_law_631 : decode cL_law 631 = .ok (.if_icmp .eq 207, 3) := by decide +kernel
theorem dL_law_634 : decode cL_law 634 = .ok (.iconst 0, 1) := by decide +kernel
theorem dL_law_635 : decode cL_law 635 = .ok (.ireturn, 1) := by decide +kernel
theorem dL_law_636 : decode cL_law 636 = .ok (.aload_n 1, 1) := by decide +kernel
theorem dL_law_637 : decode cL_law 637 = .ok (.aload_n 0, 1) := by decide +kernel
theorem dL_law_638 : decode cL_law 638 = .ok (.iload_n 3, 1) := by decide +kernel
theorem dL_law_639 : decode cL_law 639 = .ok (.iconst 1, 1) := by decide +kernel
theorem dL_law_640 : decode cL_law 640 = .ok (.iadd, 1) := by decide +kernel
theorem dL_law_641 : decode cL_law 641 = .ok (.iaload, 1) := by decide +kernel
theorem dL_law_642 : decode cL_law 642 = .ok (.invokevirtual 89, 3) := by decide +kernel
theorem dL_law_645 : decode cL_law 645 = .ok (.aload_n 2, 1) := by decide +kernel
theorem dL_law_646 : decode cL_law 646 = .ok (.aload_n 0, 1) := by decide +kernel
theorem dL_law_647 : decode cL_law 647 = .ok (.iload_n 3, 1) := by decide +kernel
theorem dL_law_648 : decode cL_law 648 = .ok (.iconst 1, 1) := by decide +kernel
theorem dL_law_649 : decode cL_law 649 = .ok (.iadd, 1) := by decide +kernel
theorem dL_law_650 : decode cL_law 650 = .ok (.iaload, 1) := by decide +kernel
theorem dL_law_651 : decode cL_law 651 = .ok (.invokevirtual 92, 3) := by decide +kernel
theorem dL_law_654 : decode cL_law 654 = .ok (.if_icmp .eq 184, 3) := by decide +kernel
theorem dL_law_657 : decode cL_law 657 = .ok (.iconst 0, 1) := by decide +kernel
theorem dL_law_658 : decode cL_law 658 = .ok (.ireturn, 1) := by decide +kernel
theorem dL_law_659 : decode cL_law 659 = .ok (.aload_n 1, 1) := by decide +kernel
theorem dL_law_660 : decode cL_law 660 = .ok (.invokevirtual 93, 3) := by decide +kernel
theorem dL_law_663 : decode cL_law 663 = .ok (.dstore 4, 2) := by decide +kernel
theorem dL_law_665 : decode cL_law 665 = .ok (.aload_n 2, 1) := by decide +kernel
theorem dL_law_666 : decode cL_law 666 = .ok (.invokevirtual 97, 3) := by decide +kernel
theorem dL_law_669 : decode cL_law 669 = .ok (.dstore 6, 2) := by decide +kernel
theorem dL_law_671 : decode cL_law 671 = .ok (.dload 4, 2) := by decide +kernel
theorem dL_law_673 : decode cL_law 673 = .ok (.dload 6, 2) := by decide +kernel
theorem dL_law_675 : decode cL_law 675 = .ok (.dcmp .l, 1) := by decide +kernel
theorem dL_law_676 : decode cL_law 676 = .ok (.ifCond .eq 21, 3) := by decide +kernel
theorem dL_law_679 : decode cL_law 679 = .ok (.dload 4, 2) := by decide +kernel
theorem dL_law_681 : decode cL_law 681 = .ok (.dload 4, 2) := by decide +kernel
theorem dL_law_683 : decode cL_law 683 = .ok (.dcmp .l, 1) := by decide +kernel
theorem dL_law_684 : decode cL_law 684 = .ok (.ifCond .eq 11, 3) := by decide +kernel
theorem dL_law_687 : decode cL_law 687 = .ok (.dload 6, 2) := by decide +kernel
theorem dL_law_689 : decode cL_law 689 = .ok (.dload 6, 2) := by decide +kernel
theorem dL_law_691 : decode cL_law 691 = .ok (.dcmp .l, 1) := by decide +kernel
theorem dL_law_692 : decode cL_law 692 = .ok (.ifCond .ne 5, 3) := by decide +kernel
theorem dL_law_695 : decode cL_law 695 = .ok (.iconst 0, 1) := by decide +kernel
theorem dL_law_696 : decode cL_law 696 = .ok (.ireturn, 1) := by decide +kernel
theorem dL_law_697 : decode cL_law 697 = .ok (.goto 141, 3) := by decide +kernel
theorem dL_law_700 : decode cL_law 700 = .ok (.aload_n 1, 1) := by decide +kernel
theorem dL_law_701 : decode cL_law 701 = .ok (.aload_n 0, 1) := by decide +kernel
theorem dL_law_702 : decode cL_law 702 = .ok (.iload_n 3, 1) := by decide +kernel
theorem dL_law_703 : decode cL_law 703 = .ok (.iconst 1, 1) := by decide +kernel
theorem dL_law_704 : decode cL_law 704 = .ok (.iadd, 1) := by decide +kernel
theorem dL_law_705 : decode cL_law 705 = .ok (.iaload, 1) := by decide +kernel
theorem dL_law_706 : decode cL_law 706 = .ok (.aload_n 0, 1) := by decide +kernel
theorem dL_law_707 : decode cL_law 707 = .ok (.iload_n 3, 1) := by decide +kernel
theorem dL_law_708 : decode cL_law 708 = .ok (.iconst 2, 1) := by decide +kernel
theorem dL_law_709 : decode cL_law 709 = .ok (.iadd, 1) := by decide +kernel
theorem dL_law_710 : decode cL_law 710 = .ok (.iaload, 1) := by decide +kernel
theorem dL_law_711 : decode cL_law 711 = .ok (.aload_n 0, 1) := by decide +kernel
theorem dL_law_712 : decode cL_law 712 = .ok (.iload_n 3, 1) := by decide +kernel
theorem dL_law_713 : decode cL_law 713 = .ok (.iconst 3, 1) := by decide +kernel
theorem dL_law_714 : decode cL_law 714 = .ok (.iadd, 1) := by decide +kernel
theorem dL_law_715 : decode cL_law 715 = .ok (.iaload, 1) := by decide +kernel
theorem dL_law_716 : decode cL_law 716 = .ok (.invokevirtual 98, 3) := by decide +kernel
theorem dL_law_719 : decode cL_law 719 = .ok (.aload_n 2, 1) := by decide +kernel
theorem dL_law_720 : decode cL_law 720 = .ok (.aload_n 0, 1) := by decide +kernel
theorem dL_law_721 : decode cL_law 721 = .ok (.iload_n 3, 1) := by decide +kernel
theorem dL_law_722 : decode cL_law 722 = .ok (.iconst 1, 1) := by decide +kernel
theorem dL_law_723 : decode cL_law 723 = .ok (.iadd, 1) := by decide +kernel
theorem dL_law_724 : decode cL_law 724 = .ok (.iaload, 1) := by decide +kernel
theorem dL_law_725 : decode cL_law 725 = .ok (.aload_n 0, 1) := by decide +kernel
theorem dL_law_726 : decode cL_law 726 = .ok (.iload_n 3, 1) := by decide +kernel
theorem dL_law_727 : decode cL_law 727 = .ok (.iconst 2, 1) := by decide +kernel
theorem dL_law_728 : decode cL_law 728 = .ok (.iadd, 1) := by decide +kernel
theorem dL_law_729 : decode cL_law 729 = .ok (.iaload, 1) := by decide +kernel
theorem dL_law_730 : decode cL_law 730 = .ok (.aload_n 0, 1) := by decide +kernel
theorem dL_law_731 : decode cL_law 731 = .ok (.iload_n 3, 1) := by decide +kernel
theorem dL_law_732 : decode cL_law 732 = .ok (.iconst 3, 1) := by decide +kernel
theorem dL_law_733 : decode cL_law 733 = .ok (.iadd, 1) := by decide +kernel
theorem dL_law_734 : decode cL_law 734 = .ok (.iaload, 1) := by decide +kernel
theorem dL_law_735 : decode cL_law 735 = .ok (.invokevirtual 102, 3) := by decide +kernel
theorem dL_law_738 : decode cL_law 738 = .ok (.if_icmp .eq 100, 3) := by decide +kernel
theorem dL_law_741 : decode cL_law 741 = .ok (.iconst 0, 1) := by decide +kernel
theorem dL_law_742 : decode cL_law 742 = .ok (.ireturn, 1) := by decide +kernel
theorem dL_law_743 : decode cL_law 743 = .ok (.aload_n 1, 1) := by decide +kernel
theorem dL_law_744 : decode cL_law 744 = .ok (.invokevirtual 103, 3) := by decide +kernel
theorem dL_law_747 : decode cL_law 747 = .ok (.aload_n 2, 1) := by decide +kernel
theorem dL_law_748 : decode cL_law 748 = .ok (.invokevirtual 106, 3) := by decide +kernel
theorem dL_law_751 : decode cL_law 751 = .ok (.if_icmp .eq 87, 3) := by decide +kernel
theorem dL_law_754 : decode cL_law 754 = .ok (.iconst 0, 1) := by decide +kernel
theorem dL_law_755 : decode cL_law 755 = .ok (.ireturn, 1) := by decide +kernel
theorem dL_law_756 : decode cL_law 756 = .ok (.aload_n 1, 1) := by decide +kernel
theorem dL_law_757 : decode cL_law 757 = .ok (.aload_n 0, 1) := by decide +kernel
theorem dL_law_758 : decode cL_law 758 = .ok (.iload_n 3, 1) := by decide +kernel
theorem dL_law_759 : decode cL_law 759 = .ok (.iconst 1, 1) := by decide +kernel
theorem dL_law_760 : decode cL_law 760 = .ok (.iadd, 1) := by decide +kernel
theorem dL_law_761 : decode cL_law 761 = .ok (.iaload, 1) := by decide +kernel
theorem dL_law_762 : decode cL_law 762 = .ok (.aload_n 0, 1) := by decide +kernel
theorem dL_law_763 : decode cL_law 763 = .ok (.iload_n 3, 1) := by decide +kernel
theorem dL_law_764 : decode cL_law 764 = .ok (.iconst 2, 1) := by decide +kernel
theorem dL_law_765 : decode cL_law 765 = .ok (.iadd, 1) := by decide +kernel
theorem dL_law_766 : decode cL_law 766 = .ok (.iaload, 1) := by decide +kernel
theorem dL_law_767 : decode cL_law 767 = .ok (.aload_n 0, 1) := by decide +kernel
theorem dL_law_768 : decode cL_law 768 = .ok (.iload_n 3, 1) := by decide +kernel
theorem dL_law_769 : decode cL_law 769 = .ok (.iconst 3, 1) := by decide +kernel
theorem dL_law_770 : decode cL_law 770 = .ok (.iadd, 1) := by decide +kernel
theorem dL_law_771 : decode cL_law 771 = .ok (.iaload, 1) := by decide +kernel
theorem dL_law_772 : decode cL_law 772 = .ok (.invokevirtual 107, 3) := by decide +kernel
theorem dL_law_775 : decode cL_law 775 = .ok (.aload_n 2, 1) := by decide +kernel
theorem dL_law_776 : decode cL_law 776 = .ok (.aload_n 0, 1) := by decide +kernel
theorem dL_law_777 : decode cL_law 777 = .ok (.iload_n 3, 1) := by decide +kernel
theorem dL_law_778 : decode cL_law 778 = .ok (.iconst 1, 1) := by decide +kernel
theorem dL_law_779 : decode cL_law 779 = .ok (.iadd, 1) := by decide +kernel
theorem dL_law_780 : decode cL_law 780 = .ok (.iaload, 1) := by decide +kernel
theorem dL_law_781 : decode cL_law 781 = .ok (.aload_n 0, 1) := by decide +kernel
theorem dL_law_782 : decode cL_law 782 = .ok (.iload_n 3, 1) := by decide +kernel
theorem dL_law_783 : decode cL_law 783 = .ok (.iconst 2, 1) := by decide +kernel
theorem dL_law_784 : decode cL_law 784 = .ok (.iadd, 1) := by decide +kernel
theorem dL_law_785 : decode cL_law 785 = .ok (.iaload, 1) := by decide +kernel
theorem dL_law_786 : decode cL_law 786 = .ok (.aload_n 0, 1) := by decide +kernel
theorem dL_law_787 : decode cL_law 787 = .ok (.iload_n 3, 1) := by decide +kernel
theorem dL_law_788 : decode cL_law 788 = .ok (.iconst 3, 1) := by decide +kernel
theorem dL_law_789 : decode cL_law 789 = .ok (.iadd, 1) := by decide +kernel
theorem dL_law_790 : decode cL_law 790 = .ok (.iaload, 1) := by decide +kernel
theorem dL_law_791 : decode cL_law 791 = .ok (.invokevirtual 110, 3) := by decide +kernel
theorem dL_law_794 : decode cL_law 794 = .ok (.if_icmp .eq 44, 3) := by decide +kernel
theorem dL_law_797 : decode cL_law 797 = .ok (.iconst 0, 1) := by decide +kernel
theorem dL_law_798 : decode cL_law 798 = .ok (.ireturn, 1) := by decide +kernel
theorem dL_law_799 : decode cL_law 799 = .ok (.aload_n 1, 1) := by decide +kernel
theorem dL_law_800 : decode cL_law 800 = .ok (.invokevirtual 111, 3) := by decide +kernel
theorem dL_law_803 : decode cL_law 803 = .ok (.aload_n 2, 1) := by decide +kernel
theorem dL_law_804 : decode cL_law 804 = .ok (.invokevirtual 114, 3) := by decide +kernel
theorem dL_law_807 : decode cL_law 807 = .ok (.if_icmp .eq 31, 3) := by decide +kernel
theorem dL_law_810 : decode cL_law 810 = .ok (.iconst 0, 1) := by decide +kernel
theorem dL_law_811 : decode cL_law 811 = .ok (.ireturn, 1) := by decide +kernel
theorem dL_law_812 : decode cL_law 812 = .ok (.aload_n 1, 1) := by decide +kernel
theorem dL_law_813 : decode cL_law 813 = .ok (.invokevirtual 115, 3) := by decide +kernel
theorem dL_law_816 : decode cL_law 816 = .ok (.aload_n 2, 1) := by decide +kernel
theorem dL_law_817 : decode cL_law 817 = .ok (.invokevirtual 118, 3) := by decide +kernel
theorem dL_law_820 : decode cL_law 820 = .ok (.if_icmp .eq 18, 3) := by decide +kernel
theorem dL_law_823 : decode cL_law 823 = .ok (.iconst 0, 1) := by decide +kernel
theorem dL_law_824 : decode cL_law 824 = .ok (.ireturn, 1) := by decide +kernel
theorem dL_law_825 : decode cL_law 825 = .ok (.aload_n 1, 1) := by decide +kernel
theorem dL_law_826 : decode cL_law 826 = .ok (.invokevirtual 119, 3) := by decide +kernel
theorem dL_law_829 : decode cL_law 829 = .ok (.aload_n 2, 1) := by decide +kernel
theorem dL_law_830 : decode cL_law 830 = .ok (.invokevirtual 122, 3) := by decide +kernel
theorem dL_law_833 : decode cL_law 833 = .ok (.if_icmp .eq 5, 3) := by decide +kernel
theorem dL_law_836 : decode cL_law 836 = .ok (.iconst 0, 1) := by decide +kernel
theorem dL_law_837 : decode cL_law 837 = .ok (.ireturn, 1) := by decide +kernel
theorem dL_law_838 : decode cL_law 838 = .ok (.iinc 3 5, 3) := by decide +kernel
theorem dL_law_841 : decode cL_law 841 = .ok (.goto (-823), 3) := by decide +kernel
theorem dL_law_844 : decode cL_law 844 = .ok (.iconst 1, 1) := by decide +kernel
theorem dL_law_845 : decode cL_law 845 = .ok (.ireturn, 1) := by decide +kernel
abbrev vwCl : List vw_C := [(RX0, TX0, 5), (RX1, TX1, 14), (RX2, TX2, 5), (RX3, TX3, 5), (RX4, TX4, 3), (RX5, TX5, 7), (RX6, TX6, 17)]
end
section
theorem zz_probe : True := trivial
end
