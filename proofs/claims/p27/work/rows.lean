section
/-- a private method of a class that the tables say can be made, by its rows of tables_1 -/
def lw_okq (q : MethodName × Nat) : Prop := (q.1.cls ≠ "java/lang/invoke/MethodHandle" ∧ q.1.cls ≠ "java/lang/invoke/VarHandle") ∧ Cond.instantiable q.1.cls q.2 ∈ tables_1 ∧ Cond.privateMethod q.1 ∈ tables_1 ∧ Cond.instanceMethod q.1 ∈ tables_1
theorem lw_p0 : lw_okq (⟨"ZoneSampler$History", "stateAt", "(I)LZoneSampler$State;"⟩, 5) := ⟨⟨by decide +kernel, by decide +kernel⟩, List.mem_of_getElem? (i := 66) (by decide +kernel), List.mem_of_getElem? (i := 209) (by decide +kernel), List.mem_of_getElem? (i := 210) (by decide +kernel)⟩
theorem lw_p1 : lw_okq (⟨"ZoneSampler$State", "grow", "(II)V"⟩, 5) := ⟨⟨by decide +kernel, by decide +kernel⟩, List.mem_of_getElem? (i := 19) (by decide +kernel), List.mem_of_getElem? (i := 277) (by decide +kernel), List.mem_of_getElem? (i := 278) (by decide +kernel)⟩
theorem lw_p2 : lw_okq (⟨"ZoneSampler$State", "moveHeld", "(II)I"⟩, 5) := ⟨⟨by decide +kernel, by decide +kernel⟩, List.mem_of_getElem? (i := 19) (by decide +kernel), List.mem_of_getElem? (i := 296) (by decide +kernel), List.mem_of_getElem? (i := 297) (by decide +kernel)⟩
theorem lw_p3 : lw_okq (⟨"ZoneSampler$State", "begin", "(III)V"⟩, 5) := ⟨⟨by decide +kernel, by decide +kernel⟩, List.mem_of_getElem? (i := 19) (by decide +kernel), List.mem_of_getElem? (i := 308) (by decide +kernel), List.mem_of_getElem? (i := 309) (by decide +kernel)⟩
theorem lw_p4 : lw_okq (⟨"ZoneSampler$State", "choke", "(I)V"⟩, 5) := ⟨⟨by decide +kernel, by decide +kernel⟩, List.mem_of_getElem? (i := 19) (by decide +kernel), List.mem_of_getElem? (i := 312) (by decide +kernel), List.mem_of_getElem? (i := 313) (by decide +kernel)⟩
theorem lw_p5 : lw_okq (⟨"ZoneSampler$State", "stealRank", "(I)I"⟩, 5) := ⟨⟨by decide +kernel, by decide +kernel⟩, List.mem_of_getElem? (i := 19) (by decide +kernel), List.mem_of_getElem? (i := 320) (by decide +kernel), List.mem_of_getElem? (i := 321) (by decide +kernel)⟩
theorem lw_p6 : lw_okq (⟨"ZoneSampler$State", "passTurns", "(II)V"⟩, 5) := ⟨⟨by decide +kernel, by decide +kernel⟩, List.mem_of_getElem? (i := 19) (by decide +kernel), List.mem_of_getElem? (i := 324) (by decide +kernel), List.mem_of_getElem? (i := 325) (by decide +kernel)⟩
theorem lw_p7 : lw_okq (⟨"ZoneSampler$State", "wear", "(I)V"⟩, 5) := ⟨⟨by decide +kernel, by decide +kernel⟩, List.mem_of_getElem? (i := 19) (by decide +kernel), List.mem_of_getElem? (i := 352) (by decide +kernel), List.mem_of_getElem? (i := 353) (by decide +kernel)⟩
theorem lw_p8 : lw_okq (⟨"ZoneSampler$State", "fadeOf", "(I)I"⟩, 5) := ⟨⟨by decide +kernel, by decide +kernel⟩, List.mem_of_getElem? (i := 19) (by decide +kernel), List.mem_of_getElem? (i := 356) (by decide +kernel), List.mem_of_getElem? (i := 357) (by decide +kernel)⟩
theorem lw_p9 : lw_okq (⟨"ZoneSampler$Pad", "readNumber", "(II)Z"⟩, 14) := ⟨⟨by decide +kernel, by decide +kernel⟩, List.mem_of_getElem? (i := 90) (by decide +kernel), List.mem_of_getElem? (i := 422) (by decide +kernel), List.mem_of_getElem? (i := 423) (by decide +kernel)⟩
theorem lw_p10 : lw_okq (⟨"ZoneSampler$Pad", "sign", "()I"⟩, 14) := ⟨⟨by decide +kernel, by decide +kernel⟩, List.mem_of_getElem? (i := 90) (by decide +kernel), List.mem_of_getElem? (i := 426) (by decide +kernel), List.mem_of_getElem? (i := 427) (by decide +kernel)⟩
theorem lw_p11 : lw_okq (⟨"ZoneSampler$Pad", "readMark", "(II)Z"⟩, 14) := ⟨⟨by decide +kernel, by decide +kernel⟩, List.mem_of_getElem? (i := 90) (by decide +kernel), List.mem_of_getElem? (i := 437) (by decide +kernel), List.mem_of_getElem? (i := 438) (by decide +kernel)⟩
theorem lw_p12 : lw_okq (⟨"ZoneSampler$Pad", "readDeedKey", "()Z"⟩, 14) := ⟨⟨by decide +kernel, by decide +kernel⟩, List.mem_of_getElem? (i := 90) (by decide +kernel), List.mem_of_getElem? (i := 445) (by decide +kernel), List.mem_of_getElem? (i := 446) (by decide +kernel)⟩
theorem lw_p13 : lw_okq (⟨"ZoneSampler$Pad", "readAmount", "(I)Z"⟩, 14) := ⟨⟨by decide +kernel, by decide +kernel⟩, List.mem_of_getElem? (i := 90) (by decide +kernel), List.mem_of_getElem? (i := 449) (by decide +kernel), List.mem_of_getElem? (i := 450) (by decide +kernel)⟩
theorem lw_p14 : lw_okq (⟨"ZoneSampler", "doDeed", "()V"⟩, 7) := ⟨⟨by decide +kernel, by decide +kernel⟩, List.mem_of_getElem? (i := 11) (by decide +kernel), List.mem_of_getElem? (i := 466) (by decide +kernel), List.mem_of_getElem? (i := 467) (by decide +kernel)⟩
theorem lw_p15 : lw_okq (⟨"ZoneSampler$Survey", "start", "()V"⟩, 5) := ⟨⟨by decide +kernel, by decide +kernel⟩, List.mem_of_getElem? (i := 150) (by decide +kernel), List.mem_of_getElem? (i := 503) (by decide +kernel), List.mem_of_getElem? (i := 504) (by decide +kernel)⟩
def lw_privs_1 : List (MethodName × Nat) := [(⟨"ZoneSampler$History", "stateAt", "(I)LZoneSampler$State;"⟩, 5), (⟨"ZoneSampler$State", "grow", "(II)V"⟩, 5), (⟨"ZoneSampler$State", "moveHeld", "(II)I"⟩, 5), (⟨"ZoneSampler$State", "begin", "(III)V"⟩, 5), (⟨"ZoneSampler$State", "choke", "(I)V"⟩, 5), (⟨"ZoneSampler$State", "stealRank", "(I)I"⟩, 5), (⟨"ZoneSampler$State", "passTurns", "(II)V"⟩, 5), (⟨"ZoneSampler$State", "wear", "(I)V"⟩, 5), (⟨"ZoneSampler$State", "fadeOf", "(I)I"⟩, 5), (⟨"ZoneSampler$Pad", "readNumber", "(II)Z"⟩, 14), (⟨"ZoneSampler$Pad", "sign", "()I"⟩, 14), (⟨"ZoneSampler$Pad", "readMark", "(II)Z"⟩, 14), (⟨"ZoneSampler$Pad", "readDeedKey", "()Z"⟩, 14), (⟨"ZoneSampler$Pad", "readAmount", "(I)Z"⟩, 14), (⟨"ZoneSampler", "doDeed", "()V"⟩, 7), (⟨"ZoneSampler$Survey", "start", "()V"⟩, 5)]
theorem lw_r1 : ∀ q ∈ lw_privs_1, lw_okq q := List.forall_mem_cons.mpr ⟨lw_p0, List.forall_mem_cons.mpr ⟨lw_p1, List.forall_mem_cons.mpr ⟨lw_p2, List.forall_mem_cons.mpr ⟨lw_p3, List.forall_mem_cons.mpr ⟨lw_p4, List.forall_mem_cons.mpr ⟨lw_p5, List.forall_mem_cons.mpr ⟨lw_p6, List.forall_mem_cons.mpr ⟨lw_p7, List.forall_mem_cons.mpr ⟨lw_p8, List.forall_mem_cons.mpr ⟨lw_p9, List.forall_mem_cons.mpr ⟨lw_p10, List.forall_mem_cons.mpr ⟨lw_p11, List.forall_mem_cons.mpr ⟨lw_p12, List.forall_mem_cons.mpr ⟨lw_p13, List.forall_mem_cons.mpr ⟨lw_p14, List.forall_mem_cons.mpr ⟨lw_p15, fun _ h => absurd h List.not_mem_nil⟩⟩⟩⟩⟩⟩⟩⟩⟩⟩⟩⟩⟩⟩⟩⟩
theorem lw_p16 : lw_okq (⟨"ZoneSampler$Survey", "see", "(II)V"⟩, 5) := ⟨⟨by decide +kernel, by decide +kernel⟩, List.mem_of_getElem? (i := 150) (by decide +kernel), List.mem_of_getElem? (i := 508) (by decide +kernel), List.mem_of_getElem? (i := 509) (by decide +kernel)⟩
theorem lw_p17 : lw_okq (⟨"ZoneSampler$Survey", "deepen", "(LZoneSampler$Table;II)V"⟩, 5) := ⟨⟨by decide +kernel, by decide +kernel⟩, List.mem_of_getElem? (i := 150) (by decide +kernel), List.mem_of_getElem? (i := 521) (by decide +kernel), List.mem_of_getElem? (i := 522) (by decide +kernel)⟩
theorem lw_p18 : lw_okq (⟨"ZoneSamplerModel", "records", "()V"⟩, 17) := ⟨⟨by decide +kernel, by decide +kernel⟩, List.mem_of_getElem? (i := 588) (by decide +kernel), List.mem_of_getElem? (i := 654) (by decide +kernel), List.mem_of_getElem? (i := 655) (by decide +kernel)⟩
theorem lw_p19 : lw_okq (⟨"ZoneSamplerModel", "addsZone", "(IIII)V"⟩, 17) := ⟨⟨by decide +kernel, by decide +kernel⟩, List.mem_of_getElem? (i := 588) (by decide +kernel), List.mem_of_getElem? (i := 661) (by decide +kernel), List.mem_of_getElem? (i := 662) (by decide +kernel)⟩
theorem lw_p20 : lw_okq (⟨"ZoneSamplerModel", "laysZone", "(III)V"⟩, 17) := ⟨⟨by decide +kernel, by decide +kernel⟩, List.mem_of_getElem? (i := 588) (by decide +kernel), List.mem_of_getElem? (i := 665) (by decide +kernel), List.mem_of_getElem? (i := 666) (by decide +kernel)⟩
theorem lw_p21 : lw_okq (⟨"ZoneSamplerModel", "isZone", "(I)Z"⟩, 17) := ⟨⟨by decide +kernel, by decide +kernel⟩, List.mem_of_getElem? (i := 588) (by decide +kernel), List.mem_of_getElem? (i := 673) (by decide +kernel), List.mem_of_getElem? (i := 674) (by decide +kernel)⟩
theorem lw_p22 : lw_okq (⟨"ZoneSamplerModel", "ofZone", "(II)I"⟩, 17) := ⟨⟨by decide +kernel, by decide +kernel⟩, List.mem_of_getElem? (i := 588) (by decide +kernel), List.mem_of_getElem? (i := 677) (by decide +kernel), List.mem_of_getElem? (i := 678) (by decide +kernel)⟩
theorem lw_p23 : lw_okq (⟨"ZoneSamplerModel", "of", "(II)I"⟩, 17) := ⟨⟨by decide +kernel, by decide +kernel⟩, List.mem_of_getElem? (i := 588) (by decide +kernel), List.mem_of_getElem? (i := 685) (by decide +kernel), List.mem_of_getElem? (i := 686) (by decide +kernel)⟩
theorem lw_p24 : lw_okq (⟨"ZoneSamplerModel", "dropsVoice", "(I)V"⟩, 17) := ⟨⟨by decide +kernel, by decide +kernel⟩, List.mem_of_getElem? (i := 588) (by decide +kernel), List.mem_of_getElem? (i := 689) (by decide +kernel), List.mem_of_getElem? (i := 690) (by decide +kernel)⟩
theorem lw_p25 : lw_okq (⟨"ZoneSamplerModel", "lays", "(III)V"⟩, 17) := ⟨⟨by decide +kernel, by decide +kernel⟩, List.mem_of_getElem? (i := 588) (by decide +kernel), List.mem_of_getElem? (i := 693) (by decide +kernel), List.mem_of_getElem? (i := 694) (by decide +kernel)⟩
theorem lw_p26 : lw_okq (⟨"ZoneSamplerModel", "goHit", "(II)I"⟩, 17) := ⟨⟨by decide +kernel, by decide +kernel⟩, List.mem_of_getElem? (i := 588) (by decide +kernel), List.mem_of_getElem? (i := 704) (by decide +kernel), List.mem_of_getElem? (i := 705) (by decide +kernel)⟩
theorem lw_p27 : lw_okq (⟨"ZoneSamplerModel", "isSounding", "(III)Z"⟩, 17) := ⟨⟨by decide +kernel, by decide +kernel⟩, List.mem_of_getElem? (i := 588) (by decide +kernel), List.mem_of_getElem? (i := 708) (by decide +kernel), List.mem_of_getElem? (i := 709) (by decide +kernel)⟩
theorem lw_p28 : lw_okq (⟨"ZoneSamplerModel", "isAnswer", "(III)Z"⟩, 17) := ⟨⟨by decide +kernel, by decide +kernel⟩, List.mem_of_getElem? (i := 588) (by decide +kernel), List.mem_of_getElem? (i := 712) (by decide +kernel), List.mem_of_getElem? (i := 713) (by decide +kernel)⟩
theorem lw_p29 : lw_okq (⟨"ZoneSamplerModel", "ofRobin", "(IIII)I"⟩, 17) := ⟨⟨by decide +kernel, by decide +kernel⟩, List.mem_of_getElem? (i := 588) (by decide +kernel), List.mem_of_getElem? (i := 716) (by decide +kernel), List.mem_of_getElem? (i := 717) (by decide +kernel)⟩
theorem lw_p30 : lw_okq (⟨"ZoneSamplerModel", "begins", "(III)V"⟩, 17) := ⟨⟨by decide +kernel, by decide +kernel⟩, List.mem_of_getElem? (i := 588) (by decide +kernel), List.mem_of_getElem? (i := 720) (by decide +kernel), List.mem_of_getElem? (i := 721) (by decide +kernel)⟩
theorem lw_p31 : lw_okq (⟨"ZoneSamplerModel", "chokes", "(I)V"⟩, 17) := ⟨⟨by decide +kernel, by decide +kernel⟩, List.mem_of_getElem? (i := 588) (by decide +kernel), List.mem_of_getElem? (i := 724) (by decide +kernel), List.mem_of_getElem? (i := 725) (by decide +kernel)⟩
def lw_privs_2 : List (MethodName × Nat) := [(⟨"ZoneSampler$Survey", "see", "(II)V"⟩, 5), (⟨"ZoneSampler$Survey", "deepen", "(LZoneSampler$Table;II)V"⟩, 5), (⟨"ZoneSamplerModel", "records", "()V"⟩, 17), (⟨"ZoneSamplerModel", "addsZone", "(IIII)V"⟩, 17), (⟨"ZoneSamplerModel", "laysZone", "(III)V"⟩, 17), (⟨"ZoneSamplerModel", "isZone", "(I)Z"⟩, 17), (⟨"ZoneSamplerModel", "ofZone", "(II)I"⟩, 17), (⟨"ZoneSamplerModel", "of", "(II)I"⟩, 17), (⟨"ZoneSamplerModel", "dropsVoice", "(I)V"⟩, 17), (⟨"ZoneSamplerModel", "lays", "(III)V"⟩, 17), (⟨"ZoneSamplerModel", "goHit", "(II)I"⟩, 17), (⟨"ZoneSamplerModel", "isSounding", "(III)Z"⟩, 17), (⟨"ZoneSamplerModel", "isAnswer", "(III)Z"⟩, 17), (⟨"ZoneSamplerModel", "ofRobin", "(IIII)I"⟩, 17), (⟨"ZoneSamplerModel", "begins", "(III)V"⟩, 17), (⟨"ZoneSamplerModel", "chokes", "(I)V"⟩, 17)]
theorem lw_r2 : ∀ q ∈ lw_privs_2, lw_okq q := List.forall_mem_cons.mpr ⟨lw_p16, List.forall_mem_cons.mpr ⟨lw_p17, List.forall_mem_cons.mpr ⟨lw_p18, List.forall_mem_cons.mpr ⟨lw_p19, List.forall_mem_cons.mpr ⟨lw_p20, List.forall_mem_cons.mpr ⟨lw_p21, List.forall_mem_cons.mpr ⟨lw_p22, List.forall_mem_cons.mpr ⟨lw_p23, List.forall_mem_cons.mpr ⟨lw_p24, List.forall_mem_cons.mpr ⟨lw_p25, List.forall_mem_cons.mpr ⟨lw_p26, List.forall_mem_cons.mpr ⟨lw_p27, List.forall_mem_cons.mpr ⟨lw_p28, List.forall_mem_cons.mpr ⟨lw_p29, List.forall_mem_cons.mpr ⟨lw_p30, List.forall_mem_cons.mpr ⟨lw_p31, fun _ h => absurd h List.not_mem_nil⟩⟩⟩⟩⟩⟩⟩⟩⟩⟩⟩⟩⟩⟩⟩⟩
theorem lw_p32 : lw_okq (⟨"ZoneSamplerModel", "steals", "()V"⟩, 17) := ⟨⟨by decide +kernel, by decide +kernel⟩, List.mem_of_getElem? (i := 588) (by decide +kernel), List.mem_of_getElem? (i := 728) (by decide +kernel), List.mem_of_getElem? (i := 729) (by decide +kernel)⟩
theorem lw_p33 : lw_okq (⟨"ZoneSamplerModel", "soon", "(I)I"⟩, 17) := ⟨⟨by decide +kernel, by decide +kernel⟩, List.mem_of_getElem? (i := 588) (by decide +kernel), List.mem_of_getElem? (i := 732) (by decide +kernel), List.mem_of_getElem? (i := 733) (by decide +kernel)⟩
theorem lw_p34 : lw_okq (⟨"ZoneSamplerModel", "goLet", "(I)I"⟩, 17) := ⟨⟨by decide +kernel, by decide +kernel⟩, List.mem_of_getElem? (i := 588) (by decide +kernel), List.mem_of_getElem? (i := 740) (by decide +kernel), List.mem_of_getElem? (i := 741) (by decide +kernel)⟩
theorem lw_p35 : lw_okq (⟨"ZoneSamplerModel", "goPedal", "()I"⟩, 17) := ⟨⟨by decide +kernel, by decide +kernel⟩, List.mem_of_getElem? (i := 588) (by decide +kernel), List.mem_of_getElem? (i := 748) (by decide +kernel), List.mem_of_getElem? (i := 749) (by decide +kernel)⟩
theorem lw_p36 : lw_okq (⟨"ZoneSamplerModel", "goPass", "(I)I"⟩, 17) := ⟨⟨by decide +kernel, by decide +kernel⟩, List.mem_of_getElem? (i := 588) (by decide +kernel), List.mem_of_getElem? (i := 756) (by decide +kernel), List.mem_of_getElem? (i := 757) (by decide +kernel)⟩
theorem lw_p37 : lw_okq (⟨"ZoneSamplerModel", "tick", "()I"⟩, 17) := ⟨⟨by decide +kernel, by decide +kernel⟩, List.mem_of_getElem? (i := 588) (by decide +kernel), List.mem_of_getElem? (i := 760) (by decide +kernel), List.mem_of_getElem? (i := 761) (by decide +kernel)⟩
theorem lw_p38 : lw_okq (⟨"ZoneSamplerModel", "areZones", "()Z"⟩, 17) := ⟨⟨by decide +kernel, by decide +kernel⟩, List.mem_of_getElem? (i := 588) (by decide +kernel), List.mem_of_getElem? (i := 790) (by decide +kernel), List.mem_of_getElem? (i := 791) (by decide +kernel)⟩
theorem lw_p39 : lw_okq (⟨"ZoneSamplerModel", "takesZone", "()V"⟩, 17) := ⟨⟨by decide +kernel, by decide +kernel⟩, List.mem_of_getElem? (i := 588) (by decide +kernel), List.mem_of_getElem? (i := 794) (by decide +kernel), List.mem_of_getElem? (i := 795) (by decide +kernel)⟩
theorem lw_p40 : lw_okq (⟨"ZoneSamplerModel", "takesRange", "(III)V"⟩, 17) := ⟨⟨by decide +kernel, by decide +kernel⟩, List.mem_of_getElem? (i := 588) (by decide +kernel), List.mem_of_getElem? (i := 798) (by decide +kernel), List.mem_of_getElem? (i := 799) (by decide +kernel)⟩
theorem lw_p41 : lw_okq (⟨"ZoneSamplerModel", "takesNumber", "(II)I"⟩, 17) := ⟨⟨by decide +kernel, by decide +kernel⟩, List.mem_of_getElem? (i := 588) (by decide +kernel), List.mem_of_getElem? (i := 802) (by decide +kernel), List.mem_of_getElem? (i := 803) (by decide +kernel)⟩
theorem lw_p42 : lw_okq (⟨"ZoneSamplerModel", "here", "()I"⟩, 17) := ⟨⟨by decide +kernel, by decide +kernel⟩, List.mem_of_getElem? (i := 588) (by decide +kernel), List.mem_of_getElem? (i := 806) (by decide +kernel), List.mem_of_getElem? (i := 807) (by decide +kernel)⟩
theorem lw_p43 : lw_okq (⟨"ZoneSamplerModel", "takes", "(Z)V"⟩, 17) := ⟨⟨by decide +kernel, by decide +kernel⟩, List.mem_of_getElem? (i := 588) (by decide +kernel), List.mem_of_getElem? (i := 813) (by decide +kernel), List.mem_of_getElem? (i := 814) (by decide +kernel)⟩
theorem lw_p44 : lw_okq (⟨"ZoneSamplerModel", "takesMark", "(II)I"⟩, 17) := ⟨⟨by decide +kernel, by decide +kernel⟩, List.mem_of_getElem? (i := 588) (by decide +kernel), List.mem_of_getElem? (i := 817) (by decide +kernel), List.mem_of_getElem? (i := 818) (by decide +kernel)⟩
theorem lw_p45 : lw_okq (⟨"ZoneSamplerModel", "isScore", "()Z"⟩, 17) := ⟨⟨by decide +kernel, by decide +kernel⟩, List.mem_of_getElem? (i := 588) (by decide +kernel), List.mem_of_getElem? (i := 821) (by decide +kernel), List.mem_of_getElem? (i := 822) (by decide +kernel)⟩
theorem lw_p46 : lw_okq (⟨"ZoneSamplerModel", "takesDeed", "()V"⟩, 17) := ⟨⟨by decide +kernel, by decide +kernel⟩, List.mem_of_getElem? (i := 588) (by decide +kernel), List.mem_of_getElem? (i := 825) (by decide +kernel), List.mem_of_getElem? (i := 826) (by decide +kernel)⟩
theorem lw_p47 : lw_okq (⟨"ZoneSamplerModel", "doesDeed", "()V"⟩, 17) := ⟨⟨by decide +kernel, by decide +kernel⟩, List.mem_of_getElem? (i := 588) (by decide +kernel), List.mem_of_getElem? (i := 837) (by decide +kernel), List.mem_of_getElem? (i := 838) (by decide +kernel)⟩
def lw_privs_3 : List (MethodName × Nat) := [(⟨"ZoneSamplerModel", "steals", "()V"⟩, 17), (⟨"ZoneSamplerModel", "soon", "(I)I"⟩, 17), (⟨"ZoneSamplerModel", "goLet", "(I)I"⟩, 17), (⟨"ZoneSamplerModel", "goPedal", "()I"⟩, 17), (⟨"ZoneSamplerModel", "goPass", "(I)I"⟩, 17), (⟨"ZoneSamplerModel", "tick", "()I"⟩, 17), (⟨"ZoneSamplerModel", "areZones", "()Z"⟩, 17), (⟨"ZoneSamplerModel", "takesZone", "()V"⟩, 17), (⟨"ZoneSamplerModel", "takesRange", "(III)V"⟩, 17), (⟨"ZoneSamplerModel", "takesNumber", "(II)I"⟩, 17), (⟨"ZoneSamplerModel", "here", "()I"⟩, 17), (⟨"ZoneSamplerModel", "takes", "(Z)V"⟩, 17), (⟨"ZoneSamplerModel", "takesMark", "(II)I"⟩, 17), (⟨"ZoneSamplerModel", "isScore", "()Z"⟩, 17), (⟨"ZoneSamplerModel", "takesDeed", "()V"⟩, 17), (⟨"ZoneSamplerModel", "doesDeed", "()V"⟩, 17)]
theorem lw_r3 : ∀ q ∈ lw_privs_3, lw_okq q := List.forall_mem_cons.mpr ⟨lw_p32, List.forall_mem_cons.mpr ⟨lw_p33, List.forall_mem_cons.mpr ⟨lw_p34, List.forall_mem_cons.mpr ⟨lw_p35, List.forall_mem_cons.mpr ⟨lw_p36, List.forall_mem_cons.mpr ⟨lw_p37, List.forall_mem_cons.mpr ⟨lw_p38, List.forall_mem_cons.mpr ⟨lw_p39, List.forall_mem_cons.mpr ⟨lw_p40, List.forall_mem_cons.mpr ⟨lw_p41, List.forall_mem_cons.mpr ⟨lw_p42, List.forall_mem_cons.mpr ⟨lw_p43, List.forall_mem_cons.mpr ⟨lw_p44, List.forall_mem_cons.mpr ⟨lw_p45, List.forall_mem_cons.mpr ⟨lw_p46, List.forall_mem_cons.mpr ⟨lw_p47, fun _ h => absurd h List.not_mem_nil⟩⟩⟩⟩⟩⟩⟩⟩⟩⟩⟩⟩⟩⟩⟩⟩
theorem lw_p48 : lw_okq (⟨"ZoneSamplerModel", "voicesOf", "(I)I"⟩, 17) := ⟨⟨by decide +kernel, by decide +kernel⟩, List.mem_of_getElem? (i := 588) (by decide +kernel), List.mem_of_getElem? (i := 845) (by decide +kernel), List.mem_of_getElem? (i := 846) (by decide +kernel)⟩
theorem lw_p49 : lw_okq (⟨"ZoneSamplerModel", "canSound", "(I)Z"⟩, 17) := ⟨⟨by decide +kernel, by decide +kernel⟩, List.mem_of_getElem? (i := 588) (by decide +kernel), List.mem_of_getElem? (i := 849) (by decide +kernel), List.mem_of_getElem? (i := 850) (by decide +kernel)⟩
theorem lw_p50 : lw_okq (⟨"ZoneSamplerModel", "rankOf", "(I)I"⟩, 17) := ⟨⟨by decide +kernel, by decide +kernel⟩, List.mem_of_getElem? (i := 588) (by decide +kernel), List.mem_of_getElem? (i := 857) (by decide +kernel), List.mem_of_getElem? (i := 858) (by decide +kernel)⟩
theorem lw_p51 : lw_okq (⟨"ZoneSamplerModel", "answering", "(II)I"⟩, 17) := ⟨⟨by decide +kernel, by decide +kernel⟩, List.mem_of_getElem? (i := 588) (by decide +kernel), List.mem_of_getElem? (i := 865) (by decide +kernel), List.mem_of_getElem? (i := 866) (by decide +kernel)⟩
theorem lw_p52 : lw_okq (⟨"ZoneSamplerModel", "inState", "(I)I"⟩, 17) := ⟨⟨by decide +kernel, by decide +kernel⟩, List.mem_of_getElem? (i := 588) (by decide +kernel), List.mem_of_getElem? (i := 877) (by decide +kernel), List.mem_of_getElem? (i := 878) (by decide +kernel)⟩
theorem lw_p53 : lw_okq (⟨"ZoneSamplerModel", "allLoud", "()I"⟩, 17) := ⟨⟨by decide +kernel, by decide +kernel⟩, List.mem_of_getElem? (i := 588) (by decide +kernel), List.mem_of_getElem? (i := 881) (by decide +kernel), List.mem_of_getElem? (i := 882) (by decide +kernel)⟩
def lw_privs_4 : List (MethodName × Nat) := [(⟨"ZoneSamplerModel", "voicesOf", "(I)I"⟩, 17), (⟨"ZoneSamplerModel", "canSound", "(I)Z"⟩, 17), (⟨"ZoneSamplerModel", "rankOf", "(I)I"⟩, 17), (⟨"ZoneSamplerModel", "answering", "(II)I"⟩, 17), (⟨"ZoneSamplerModel", "inState", "(I)I"⟩, 17), (⟨"ZoneSamplerModel", "allLoud", "()I"⟩, 17)]
theorem lw_r4 : ∀ q ∈ lw_privs_4, lw_okq q := List.forall_mem_cons.mpr ⟨lw_p48, List.forall_mem_cons.mpr ⟨lw_p49, List.forall_mem_cons.mpr ⟨lw_p50, List.forall_mem_cons.mpr ⟨lw_p51, List.forall_mem_cons.mpr ⟨lw_p52, List.forall_mem_cons.mpr ⟨lw_p53, fun _ h => absurd h List.not_mem_nil⟩⟩⟩⟩⟩⟩
def lw_privs : List (MethodName × Nat) := lw_privs_1 ++ (lw_privs_2 ++ (lw_privs_3 ++ (lw_privs_4)))
def lw_tbl : List Cond := k2_sels lw_privs ++ tables_1
theorem lw_privs_ok : ∀ q ∈ lw_privs, lw_okq q := by
  show ∀ q ∈ lw_privs_1 ++ (lw_privs_2 ++ (lw_privs_3 ++ (lw_privs_4))), lw_okq q
  exact List.forall_mem_append.mpr ⟨lw_r1, List.forall_mem_append.mpr ⟨lw_r2, List.forall_mem_append.mpr ⟨lw_r3, lw_r4⟩⟩⟩
theorem goodIn_r {big : List Cond} (ws : List Cond) (ps : List Nat) (hp : ws = ps.filterMap (fun i => big[i]?)) (h : ws.all goodWord = true) : GoodIn big ws := by
  intro w hw
  have h1 := List.all_eq_true.mp h w hw
  rw [hp] at hw
  obtain ⟨i, -, hi⟩ := List.mem_filterMap.mp hw
  have hm : w ∈ big := by first | exact List.mem_of_getElem? hi | exact List.getElem?_mem hi
  exact ⟨hm, good_of_word h1⟩
theorem goodIn_app {big a b : List Cond} (ha : GoodIn big a) (hb : GoodIn big b) : GoodIn big (a ++ b) := fun w h => (List.mem_append.mp h).elim (ha w) (hb w)
def RX0 : String := "ZoneSampler$History"
def TX0 : u_T := fun k => match k with
  | 0 => ("ZoneSampler$History", "first", "LZoneSampler$State;", false)
  | 1 => ("ZoneSampler$History", "second", "LZoneSampler$State;", false)
  | 2 => ("ZoneSampler$History", "third", "LZoneSampler$State;", false)
  | 3 => ("ZoneSampler$History", "fourth", "LZoneSampler$State;", false)
  | _ => ("ZoneSampler$History", "kept", "I", false)
def tyX0 : Nat → FieldType := fun k => match k with
  | 0 => .object "ZoneSampler$State"
  | 1 => .object "ZoneSampler$State"
  | 2 => .object "ZoneSampler$State"
  | 3 => .object "ZoneSampler$State"
  | _ => .int
abbrev wsX00 : List Cond := u_ws RX0 TX0 5
theorem nmX0 : ∀ a, a < 5 → ∀ b, b < 5 → a ≠ b → (TX0 a).2.1 ≠ (TX0 b).2.1 := by decide +kernel
theorem tyX0_ok : ∀ k, k < 5 → parseFieldDescriptor (TX0 k).2.2.1 = some (tyX0 k) := by decide +kernel
abbrev cX0_init : ByteArray := prog_2_method_1_code
def yX0_init : MethodName := ⟨RX0, "<init>", "()V"⟩
def RX1 : String := "ZoneSampler$Pad"
def TX1 : u_T := fun k => match k with
  | 0 => ("ZoneSampler$Pad", "signs", "[C", true)
  | 1 => ("ZoneSampler$Pad", "length", "I", false)
  | 2 => ("ZoneSampler$Pad", "at", "I", false)
  | 3 => ("ZoneSampler$Pad", "value", "I", false)
  | 4 => ("ZoneSampler$Pad", "low", "I", false)
  | 5 => ("ZoneSampler$Pad", "high", "I", false)
  | 6 => ("ZoneSampler$Pad", "softest", "I", false)
  | 7 => ("ZoneSampler$Pad", "hardest", "I", false)
  | 8 => ("ZoneSampler$Pad", "lasting", "I", false)
  | 9 => ("ZoneSampler$Pad", "group", "I", false)
  | 10 => ("ZoneSampler$Pad", "robin", "I", false)
  | 11 => ("ZoneSampler$Pad", "deed", "I", false)
  | 12 => ("ZoneSampler$Pad", "deedKey", "I", false)
  | _ => ("ZoneSampler$Pad", "amount", "I", false)
def tyX1 : Nat → FieldType := fun k => match k with
  | 0 => .array .char
  | 1 => .int
  | 2 => .int
  | 3 => .int
  | 4 => .int
  | 5 => .int
  | 6 => .int
  | 7 => .int
  | 8 => .int
  | 9 => .int
  | 10 => .int
  | 11 => .int
  | 12 => .int
  | _ => .int
abbrev wsX10 : List Cond := u_ws RX1 TX1 14
theorem nmX1 : ∀ a, a < 14 → ∀ b, b < 14 → a ≠ b → (TX1 a).2.1 ≠ (TX1 b).2.1 := by decide +kernel
theorem tyX1_ok : ∀ k, k < 14 → parseFieldDescriptor (TX1 k).2.2.1 = some (tyX1 k) := by decide +kernel
abbrev cX1_init : ByteArray := prog_3_method_1_code
def yX1_init : MethodName := ⟨RX1, "<init>", "()V"⟩
def RX2 : String := "ZoneSampler$State"
def TX2 : u_T := fun k => match k with
  | 0 => ("ZoneSampler$State", "zones", "LZoneSampler$Table;", true)
  | 1 => ("ZoneSampler$State", "voices", "LZoneSampler$Table;", true)
  | 2 => ("ZoneSampler$State", "numbers", "[I", true)
  | 3 => ("ZoneSampler$State", "pedalDown", "Z", false)
  | _ => ("ZoneSampler$State", "notes", "I", false)
def tyX2 : Nat → FieldType := fun k => match k with
  | 0 => .object "ZoneSampler$Table"
  | 1 => .object "ZoneSampler$Table"
  | 2 => .array .int
  | 3 => .boolean
  | _ => .int
abbrev wsX20 : List Cond := u_ws RX2 TX2 5
theorem nmX2 : ∀ a, a < 5 → ∀ b, b < 5 → a ≠ b → (TX2 a).2.1 ≠ (TX2 b).2.1 := by decide +kernel
theorem tyX2_ok : ∀ k, k < 5 → parseFieldDescriptor (TX2 k).2.2.1 = some (tyX2 k) := by decide +kernel
abbrev cX2_init : ByteArray := prog_4_method_1_code
def yX2_init : MethodName := ⟨RX2, "<init>", "()V"⟩
abbrev cX2_putNumber : ByteArray := prog_4_method_4_code
def yX2_putNumber : MethodName := ⟨RX2, "putNumber", "(II)V"⟩
def RX3 : String := "ZoneSampler$Survey"
def TX3 : u_T := fun k => match k with
  | 0 => ("ZoneSampler$Survey", "depths", "[I", true)
  | 1 => ("ZoneSampler$Survey", "holes", "I", false)
  | 2 => ("ZoneSampler$Survey", "overlaps", "I", false)
  | 3 => ("ZoneSampler$Survey", "deepest", "I", false)
  | _ => ("ZoneSampler$Survey", "firstHole", "I", false)
def tyX3 : Nat → FieldType := fun k => match k with
  | 0 => .array .int
  | 1 => .int
  | 2 => .int
  | 3 => .int
  | _ => .int
abbrev wsX30 : List Cond := u_ws RX3 TX3 5
theorem nmX3 : ∀ a, a < 5 → ∀ b, b < 5 → a ≠ b → (TX3 a).2.1 ≠ (TX3 b).2.1 := by decide +kernel
theorem tyX3_ok : ∀ k, k < 5 → parseFieldDescriptor (TX3 k).2.2.1 = some (tyX3 k) := by decide +kernel
abbrev cX3_init : ByteArray := prog_5_method_1_code
def yX3_init : MethodName := ⟨RX3, "<init>", "()V"⟩
def RX4 : String := "ZoneSampler$Table"
def TX4 : u_T := fun k => match k with
  | 0 => ("ZoneSampler$Table", "width", "I", true)
  | 1 => ("ZoneSampler$Table", "cells", "[I", true)
  | _ => ("ZoneSampler$Table", "rows", "I", false)
def tyX4 : Nat → FieldType := fun k => match k with
  | 0 => .int
  | 1 => .array .int
  | _ => .int
abbrev wsX40 : List Cond := u_ws RX4 TX4 3
theorem nmX4 : ∀ a, a < 3 → ∀ b, b < 3 → a ≠ b → (TX4 a).2.1 ≠ (TX4 b).2.1 := by decide +kernel
theorem tyX4_ok : ∀ k, k < 3 → parseFieldDescriptor (TX4 k).2.2.1 = some (tyX4 k) := by decide +kernel
abbrev cX4_init : ByteArray := prog_6_method_1_code
def yX4_init : MethodName := ⟨RX4, "<init>", "(II)V"⟩
def RX5 : String := "ZoneSampler"
def TX5 : u_T := fun k => match k with
  | 0 => ("ZoneSampler", "now", "LZoneSampler$State;", true)
  | 1 => ("ZoneSampler", "trial", "LZoneSampler$State;", true)
  | 2 => ("ZoneSampler", "snapshot", "LZoneSampler$State;", true)
  | 3 => ("ZoneSampler", "history", "LZoneSampler$History;", true)
  | 4 => ("ZoneSampler", "pad", "LZoneSampler$Pad;", true)
  | 5 => ("ZoneSampler", "survey", "LZoneSampler$Survey;", true)
  | _ => ("ZoneSampler", "hasSnapshot", "Z", false)
def tyX5 : Nat → FieldType := fun k => match k with
  | 0 => .object "ZoneSampler$State"
  | 1 => .object "ZoneSampler$State"
  | 2 => .object "ZoneSampler$State"
  | 3 => .object "ZoneSampler$History"
  | 4 => .object "ZoneSampler$Pad"
  | 5 => .object "ZoneSampler$Survey"
  | _ => .boolean
abbrev wsX50 : List Cond := u_ws RX5 TX5 7
theorem nmX5 : ∀ a, a < 7 → ∀ b, b < 7 → a ≠ b → (TX5 a).2.1 ≠ (TX5 b).2.1 := by decide +kernel
theorem tyX5_ok : ∀ k, k < 7 → parseFieldDescriptor (TX5 k).2.2.1 = some (tyX5 k) := by decide +kernel
abbrev cX5_init : ByteArray := prog_1_method_1_code
def yX5_init : MethodName := ⟨RX5, "<init>", "()V"⟩
def RX6 : String := "ZoneSamplerModel"
def TX6 : u_T := fun k => match k with
  | 0 => ("ZoneSamplerModel", "s", "[I", true)
  | 1 => ("ZoneSamplerModel", "aside", "[I", true)
  | 2 => ("ZoneSamplerModel", "past", "[I", true)
  | 3 => ("ZoneSamplerModel", "known", "I", false)
  | 4 => ("ZoneSamplerModel", "kept", "[I", true)
  | 5 => ("ZoneSamplerModel", "isKept", "Z", false)
  | 6 => ("ZoneSamplerModel", "pad", "[I", true)
  | 7 => ("ZoneSamplerModel", "length", "I", false)
  | 8 => ("ZoneSamplerModel", "sounds", "[Z", true)
  | 9 => ("ZoneSamplerModel", "firstZone", "I", false)
  | 10 => ("ZoneSamplerModel", "spot", "I", false)
  | 11 => ("ZoneSamplerModel", "isForm", "Z", false)
  | 12 => ("ZoneSamplerModel", "read", "[I", true)
  | 13 => ("ZoneSamplerModel", "reads", "I", false)
  | 14 => ("ZoneSamplerModel", "letter", "I", false)
  | 15 => ("ZoneSamplerModel", "first", "I", false)
  | _ => ("ZoneSamplerModel", "second", "I", false)
def tyX6 : Nat → FieldType := fun k => match k with
  | 0 => .array .int
  | 1 => .array .int
  | 2 => .array .int
  | 3 => .int
  | 4 => .array .int
  | 5 => .boolean
  | 6 => .array .int
  | 7 => .int
  | 8 => .array .boolean
  | 9 => .int
  | 10 => .int
  | 11 => .boolean
  | 12 => .array .int
  | 13 => .int
  | 14 => .int
  | 15 => .int
  | _ => .int
abbrev wsX60 : List Cond := u_ws RX6 TX6 17
theorem nmX6 : ∀ a, a < 17 → ∀ b, b < 17 → a ≠ b → (TX6 a).2.1 ≠ (TX6 b).2.1 := by decide +kernel
theorem tyX6_ok : ∀ k, k < 17 → parseFieldDescriptor (TX6 k).2.2.1 = some (tyX6 k) := by decide +kernel
abbrev cX6_init : ByteArray := prog_8_method_1_code
def yX6_init : MethodName := ⟨RX6, "<init>", "()V"⟩
def RL : String := "ZoneSamplerLaw"
def wsX4_init : List Cond := .code yX4_init cX4_init 3 none :: ([.methodLink RX4 1 objectInit, .instanceMethod objectInit, .code objectInit ⟨#[0xb1]⟩ 1 none, .fieldLink RX4 7 "ZoneSampler$Table" "width" "I", .arrayClass .int, .fieldLink RX4 13 "ZoneSampler$Table" "cells" "[I"] ++ wsX40)
def wsX2_putNumber : List Cond := .code yX2_putNumber cX2_putNumber 3 none :: ([.fieldLink RX2 23 "ZoneSampler$State" "numbers" "[I"] ++ wsX20)
def wsX2_init : List Cond := .code yX2_init cX2_init 1 none :: ([.methodLink RX2 3 objectInit, .instanceMethod objectInit, .code objectInit ⟨#[0xb1]⟩ 1 none, .classLink RX2 9 RX4, .instantiable RX4 3, .initialized RX4, .fieldLink RX2 14 "ZoneSampler$State" "zones" "LZoneSampler$Table;", .fieldLink RX2 20 "ZoneSampler$State" "voices" "LZoneSampler$Table;", .arrayClass .int, .fieldLink RX2 23 "ZoneSampler$State" "numbers" "[I", .methodLink RX2 11 yX4_init, .instanceMethod yX4_init, .code yX4_init cX4_init 3 none, .methodLink RX4 1 objectInit, .fieldLink RX4 7 "ZoneSampler$Table" "width" "I", .fieldLink RX4 13 "ZoneSampler$Table" "cells" "[I", .methodLink RX2 27 yX2_putNumber, .instanceMethod yX2_putNumber, .selects RX2 yX2_putNumber yX2_putNumber, .initialized RX2, .code yX2_putNumber cX2_putNumber 3 none] ++ wsX40 ++ wsX20)
def wsX0_init_r1 : List Cond := [Cond.methodLink RX0 3 objectInit, Cond.instanceMethod objectInit, Cond.code objectInit ⟨#[0xb1]⟩ 1 none, Cond.classLink RX0 9 RX2, Cond.instantiable RX2 5, Cond.initialized RX2, Cond.fieldLink RX0 12 "ZoneSampler$History" "first" "LZoneSampler$State;", Cond.fieldLink RX0 18 "ZoneSampler$History" "second" "LZoneSampler$State;", Cond.fieldLink RX0 21 "ZoneSampler$History" "third" "LZoneSampler$State;", Cond.fieldLink RX0 24 "ZoneSampler$History" "fourth" "LZoneSampler$State;", Cond.methodLink RX0 11 yX2_init, Cond.instanceMethod yX2_init, Cond.code yX2_init cX2_init 1 none, Cond.methodLink RX2 3 objectInit, Cond.classLink RX2 9 RX4, Cond.instantiable RX4 3, Cond.initialized RX4, Cond.fieldLink RX2 14 "ZoneSampler$State" "zones" "LZoneSampler$Table;", Cond.fieldLink RX2 20 "ZoneSampler$State" "voices" "LZoneSampler$Table;", Cond.arrayClass .int, Cond.fieldLink RX2 23 "ZoneSampler$State" "numbers" "[I", Cond.methodLink RX2 11 yX4_init, Cond.instanceMethod yX4_init, Cond.code yX4_init cX4_init 3 none]
def wsX0_init_r2 : List Cond := [Cond.methodLink RX4 1 objectInit, Cond.fieldLink RX4 7 "ZoneSampler$Table" "width" "I", Cond.fieldLink RX4 13 "ZoneSampler$Table" "cells" "[I", Cond.methodLink RX2 27 yX2_putNumber, Cond.instanceMethod yX2_putNumber, Cond.selects RX2 yX2_putNumber yX2_putNumber, Cond.code yX2_putNumber cX2_putNumber 3 none]
def wsX0_init : List Cond := .code yX0_init cX0_init 1 none :: ((wsX0_init_r1 ++ wsX0_init_r2) ++ wsX20 ++ wsX00 ++ wsX40)
def wsX1_init : List Cond := .code yX1_init cX1_init 1 none :: ([.methodLink RX1 3 objectInit, .instanceMethod objectInit, .code objectInit ⟨#[0xb1]⟩ 1 none, .arrayClass .char, .fieldLink RX1 9 "ZoneSampler$Pad" "signs" "[C"] ++ wsX10)
def wsX3_init : List Cond := .code yX3_init cX3_init 1 none :: ([.methodLink RX3 3 objectInit, .instanceMethod objectInit, .code objectInit ⟨#[0xb1]⟩ 1 none, .arrayClass .int, .fieldLink RX3 9 "ZoneSampler$Survey" "depths" "[I"] ++ wsX30)
def wsX5_init_r1 : List Cond := [Cond.methodLink RX5 1 objectInit, Cond.instanceMethod objectInit, Cond.code objectInit ⟨#[0xb1]⟩ 1 none, Cond.classLink RX5 7 RX2, Cond.instantiable RX2 5, Cond.initialized RX2, Cond.fieldLink RX5 10 "ZoneSampler" "now" "LZoneSampler$State;", Cond.fieldLink RX5 16 "ZoneSampler" "trial" "LZoneSampler$State;", Cond.fieldLink RX5 19 "ZoneSampler" "snapshot" "LZoneSampler$State;", Cond.classLink RX5 22 RX0, Cond.instantiable RX0 5, Cond.initialized RX0, Cond.fieldLink RX5 25 "ZoneSampler" "history" "LZoneSampler$History;", Cond.classLink RX5 29 RX1, Cond.instantiable RX1 14, Cond.initialized RX1, Cond.fieldLink RX5 32 "ZoneSampler" "pad" "LZoneSampler$Pad;", Cond.classLink RX5 36 RX3, Cond.instantiable RX3 5, Cond.initialized RX3, Cond.fieldLink RX5 39 "ZoneSampler" "survey" "LZoneSampler$Survey;", Cond.methodLink RX5 9 yX2_init, Cond.instanceMethod yX2_init, Cond.code yX2_init cX2_init 1 none]
def wsX5_init_r2 : List Cond := [Cond.methodLink RX2 3 objectInit, Cond.classLink RX2 9 RX4, Cond.instantiable RX4 3, Cond.initialized RX4, Cond.fieldLink RX2 14 "ZoneSampler$State" "zones" "LZoneSampler$Table;", Cond.fieldLink RX2 20 "ZoneSampler$State" "voices" "LZoneSampler$Table;", Cond.arrayClass .int, Cond.fieldLink RX2 23 "ZoneSampler$State" "numbers" "[I", Cond.methodLink RX2 11 yX4_init, Cond.instanceMethod yX4_init, Cond.code yX4_init cX4_init 3 none, Cond.methodLink RX4 1 objectInit, Cond.fieldLink RX4 7 "ZoneSampler$Table" "width" "I", Cond.fieldLink RX4 13 "ZoneSampler$Table" "cells" "[I", Cond.methodLink RX2 27 yX2_putNumber, Cond.instanceMethod yX2_putNumber, Cond.selects RX2 yX2_putNumber yX2_putNumber, Cond.code yX2_putNumber cX2_putNumber 3 none, Cond.instanceMethod yX0_init, Cond.code yX0_init cX0_init 1 none, Cond.methodLink RX0 3 objectInit, Cond.classLink RX0 9 RX2, Cond.fieldLink RX0 12 "ZoneSampler$History" "first" "LZoneSampler$State;", Cond.fieldLink RX0 18 "ZoneSampler$History" "second" "LZoneSampler$State;"]
def wsX5_init_r3 : List Cond := [Cond.fieldLink RX0 21 "ZoneSampler$History" "third" "LZoneSampler$State;", Cond.fieldLink RX0 24 "ZoneSampler$History" "fourth" "LZoneSampler$State;", Cond.methodLink RX0 11 yX2_init, Cond.instanceMethod yX1_init, Cond.code yX1_init cX1_init 1 none, Cond.methodLink RX1 3 objectInit, Cond.arrayClass .char, Cond.fieldLink RX1 9 "ZoneSampler$Pad" "signs" "[C", Cond.instanceMethod yX3_init, Cond.code yX3_init cX3_init 1 none, Cond.methodLink RX3 3 objectInit, Cond.fieldLink RX3 9 "ZoneSampler$Survey" "depths" "[I"]
def wsX5_init : List Cond := .code yX5_init cX5_init 1 none :: ((wsX5_init_r1 ++ (wsX5_init_r2 ++ wsX5_init_r3)) ++ wsX20 ++ wsX50 ++ wsX00 ++ wsX10 ++ wsX30 ++ wsX40)
def wsX6_init : List Cond := .code yX6_init cX6_init 1 none :: ([.methodLink RX6 1 objectInit, .instanceMethod objectInit, .code objectInit ⟨#[0xb1]⟩ 1 none, .arrayClass .int, .fieldLink RX6 7 "ZoneSamplerModel" "s" "[I", .fieldLink RX6 13 "ZoneSamplerModel" "aside" "[I", .fieldLink RX6 16 "ZoneSamplerModel" "past" "[I", .fieldLink RX6 19 "ZoneSamplerModel" "kept" "[I", .fieldLink RX6 22 "ZoneSamplerModel" "pad" "[I", .arrayClass .boolean, .fieldLink RX6 25 "ZoneSamplerModel" "sounds" "[Z", .fieldLink RX6 29 "ZoneSamplerModel" "read" "[I"] ++ wsX60)
set_option maxRecDepth 20000 in
theorem ggX0_init_X2_init : GoodIn wsX0_init wsX2_init := goodIn_r _ [13, 14, 2, 3, 15, 16, 17, 18, 19, 20, 21, 22, 23, 24, 25, 26, 27, 28, 29, 30, 6, 31, 42, 43, 44, 32, 33, 34, 35, 36] (by decide +kernel) (by decide +kernel)
set_option maxRecDepth 20000 in
theorem gX0_init_X2_init : GoodIn wsX0_init (wsX2_init) := ggX0_init_X2_init
theorem dX0_init_0 : decode cX0_init 0 = .ok (.aload_n 0, 1) := by decide +kernel
theorem dX0_init_1 : decode cX0_init 1 = .ok (.invokespecial 3, 3) := by decide +kernel
theorem dX0_init_4 : decode cX0_init 4 = .ok (.aload_n 0, 1) := by decide +kernel
theorem dX0_init_5 : decode cX0_init 5 = .ok (.new 9, 3) := by decide +kernel
theorem dX0_init_8 : decode cX0_init 8 = .ok (.dup, 1) := by decide +kernel
theorem dX0_init_9 : decode cX0_init 9 = .ok (.invokespecial 11, 3) := by decide +kernel
theorem dX0_init_12 : decode cX0_init 12 = .ok (.putfield 12, 3) := by decide +kernel
theorem dX0_init_15 : decode cX0_init 15 = .ok (.aload_n 0, 1) := by decide +kernel
theorem dX0_init_16 : decode cX0_init 16 = .ok (.new 9, 3) := by decide +kernel
theorem dX0_init_19 : decode cX0_init 19 = .ok (.dup, 1) := by decide +kernel
theorem dX0_init_20 : decode cX0_init 20 = .ok (.invokespecial 11, 3) := by decide +kernel
theorem dX0_init_23 : decode cX0_init 23 = .ok (.putfield 18, 3) := by decide +kernel
theorem dX0_init_26 : decode cX0_init 26 = .ok (.aload_n 0, 1) := by decide +kernel
theorem dX0_init_27 : decode cX0_init 27 = .ok (.new 9, 3) := by decide +kernel
theorem dX0_init_30 : decode cX0_init 30 = .ok (.dup, 1) := by decide +kernel
theorem dX0_init_31 : decode cX0_init 31 = .ok (.invokespecial 11, 3) := by decide +kernel
theorem dX0_init_34 : decode cX0_init 34 = .ok (.putfield 21, 3) := by decide +kernel
theorem dX0_init_37 : decode cX0_init 37 = .ok (.aload_n 0, 1) := by decide +kernel
theorem dX0_init_38 : decode cX0_init 38 = .ok (.new 9, 3) := by decide +kernel
theorem dX0_init_41 : decode cX0_init 41 = .ok (.dup, 1) := by decide +kernel
theorem dX0_init_42 : decode cX0_init 42 = .ok (.invokespecial 11, 3) := by decide +kernel
theorem dX0_init_45 : decode cX0_init 45 = .ok (.putfield 24, 3) := by decide +kernel
theorem dX0_init_48 : decode cX0_init 48 = .ok (.return_, 1) := by decide +kernel
theorem dX1_init_0 : decode cX1_init 0 = .ok (.aload_n 0, 1) := by decide +kernel
theorem dX1_init_1 : decode cX1_init 1 = .ok (.invokespecial 3, 3) := by decide +kernel
theorem dX1_init_4 : decode cX1_init 4 = .ok (.aload_n 0, 1) := by decide +kernel
theorem dX1_init_5 : decode cX1_init 5 = .ok (.bipush 60, 2) := by decide +kernel
theorem dX1_init_7 : decode cX1_init 7 = .ok (.newarray .char, 2) := by decide +kernel
theorem dX1_init_9 : decode cX1_init 9 = .ok (.putfield 9, 3) := by decide +kernel
theorem dX1_init_12 : decode cX1_init 12 = .ok (.return_, 1) := by decide +kernel
set_option maxRecDepth 20000 in
theorem ggX2_init_X4_init : GoodIn wsX2_init wsX4_init := goodIn_r _ [13, 14, 2, 3, 15, 9, 16, 22, 23, 24] (by decide +kernel) (by decide +kernel)
set_option maxRecDepth 20000 in
theorem gX2_init_X4_init : GoodIn wsX2_init (wsX4_init) := ggX2_init_X4_init
set_option maxRecDepth 20000 in
theorem ggX2_init_X2_putNumber : GoodIn wsX2_init wsX2_putNumber := goodIn_r _ [21, 10, 25, 26, 27, 28, 29] (by decide +kernel) (by decide +kernel)
set_option maxRecDepth 20000 in
theorem gX2_init_X2_putNumber : GoodIn wsX2_init (wsV RX2 27 RX2 yX2_putNumber wsX2_putNumber) := goodIn_app (goodIn_of _ (by decide +kernel)) ggX2_init_X2_putNumber
theorem dX2_init_0 : decode cX2_init 0 = .ok (.aload_n 0, 1) := by decide +kernel
theorem dX2_init_1 : decode cX2_init 1 = .ok (.invokespecial 3, 3) := by decide +kernel
theorem dX2_init_4 : decode cX2_init 4 = .ok (.aload_n 0, 1) := by decide +kernel
theorem dX2_init_5 : decode cX2_init 5 = .ok (.new 9, 3) := by decide +kernel
theorem dX2_init_8 : decode cX2_init 8 = .ok (.dup, 1) := by decide +kernel
theorem dX2_init_9 : decode cX2_init 9 = .ok (.bipush 10, 2) := by decide +kernel
theorem dX2_init_11 : decode cX2_init 11 = .ok (.bipush 7, 2) := by decide +kernel
theorem dX2_init_13 : decode cX2_init 13 = .ok (.invokespecial 11, 3) := by decide +kernel
theorem dX2_init_16 : decode cX2_init 16 = .ok (.putfield 14, 3) := by decide +kernel
theorem dX2_init_19 : decode cX2_init 19 = .ok (.aload_n 0, 1) := by decide +kernel
theorem dX2_init_20 : decode cX2_init 20 = .ok (.new 9, 3) := by decide +kernel
theorem dX2_init_23 : decode cX2_init 23 = .ok (.dup, 1) := by decide +kernel
theorem dX2_init_24 : decode cX2_init 24 = .ok (.bipush 8, 2) := by decide +kernel
theorem dX2_init_26 : decode cX2_init 26 = .ok (.bipush 7, 2) := by decide +kernel
theorem dX2_init_28 : decode cX2_init 28 = .ok (.invokespecial 11, 3) := by decide +kernel
theorem dX2_init_31 : decode cX2_init 31 = .ok (.putfield 20, 3) := by decide +kernel
theorem dX2_init_34 : decode cX2_init 34 = .ok (.aload_n 0, 1) := by decide +kernel
theorem dX2_init_35 : decode cX2_init 35 = .ok (.bipush 13, 2) := by decide +kernel
theorem dX2_init_37 : decode cX2_init 37 = .ok (.newarray .int, 2) := by decide +kernel
theorem dX2_init_39 : decode cX2_init 39 = .ok (.putfield 23, 3) := by decide +kernel
theorem dX2_init_42 : decode cX2_init 42 = .ok (.aload_n 0, 1) := by decide +kernel
theorem dX2_init_43 : decode cX2_init 43 = .ok (.bipush 6, 2) := by decide +kernel
theorem dX2_init_45 : decode cX2_init 45 = .ok (.bipush 6, 2) := by decide +kernel
theorem dX2_init_47 : decode cX2_init 47 = .ok (.invokevirtual 27, 3) := by decide +kernel
theorem dX2_init_50 : decode cX2_init 50 = .ok (.aload_n 0, 1) := by decide +kernel
theorem dX2_init_51 : decode cX2_init 51 = .ok (.bipush 7, 2) := by decide +kernel
theorem dX2_init_53 : decode cX2_init 53 = .ok (.iconst 0, 1) := by decide +kernel
theorem dX2_init_54 : decode cX2_init 54 = .ok (.invokevirtual 27, 3) := by decide +kernel
theorem dX2_init_57 : decode cX2_init 57 = .ok (.aload_n 0, 1) := by decide +kernel
theorem dX2_init_58 : decode cX2_init 58 = .ok (.bipush 8, 2) := by decide +kernel
theorem dX2_init_60 : decode cX2_init 60 = .ok (.bipush 10, 2) := by decide +kernel
theorem dX2_init_62 : decode cX2_init 62 = .ok (.invokevirtual 27, 3) := by decide +kernel
theorem dX2_init_65 : decode cX2_init 65 = .ok (.return_, 1) := by decide +kernel
theorem dX2_putNumber_0 : decode cX2_putNumber 0 = .ok (.iload_n 1, 1) := by decide +kernel
theorem dX2_putNumber_1 : decode cX2_putNumber 1 = .ok (.ifCond .lt 19, 3) := by decide +kernel
theorem dX2_putNumber_4 : decode cX2_putNumber 4 = .ok (.iload_n 1, 1) := by decide +kernel
theorem dX2_putNumber_5 : decode cX2_putNumber 5 = .ok (.aload_n 0, 1) := by decide +kernel
theorem dX2_putNumber_6 : decode cX2_putNumber 6 = .ok (.getfield 23, 3) := by decide +kernel
theorem dX2_putNumber_9 : decode cX2_putNumber 9 = .ok (.arraylength, 1) := by decide +kernel
theorem dX2_putNumber_10 : decode cX2_putNumber 10 = .ok (.if_icmp .ge 10, 3) := by decide +kernel
theorem dX2_putNumber_13 : decode cX2_putNumber 13 = .ok (.aload_n 0, 1) := by decide +kernel
theorem dX2_putNumber_14 : decode cX2_putNumber 14 = .ok (.getfield 23, 3) := by decide +kernel
theorem dX2_putNumber_17 : decode cX2_putNumber 17 = .ok (.iload_n 1, 1) := by decide +kernel
theorem dX2_putNumber_18 : decode cX2_putNumber 18 = .ok (.iload_n 2, 1) := by decide +kernel
theorem dX2_putNumber_19 : decode cX2_putNumber 19 = .ok (.iastore, 1) := by decide +kernel
theorem dX2_putNumber_20 : decode cX2_putNumber 20 = .ok (.return_, 1) := by decide +kernel
theorem dX3_init_0 : decode cX3_init 0 = .ok (.aload_n 0, 1) := by decide +kernel
theorem dX3_init_1 : decode cX3_init 1 = .ok (.invokespecial 3, 3) := by decide +kernel
theorem dX3_init_4 : decode cX3_init 4 = .ok (.aload_n 0, 1) := by decide +kernel
theorem dX3_init_5 : decode cX3_init 5 = .ok (.bipush 9, 2) := by decide +kernel
theorem dX3_init_7 : decode cX3_init 7 = .ok (.newarray .int, 2) := by decide +kernel
theorem dX3_init_9 : decode cX3_init 9 = .ok (.putfield 9, 3) := by decide +kernel
theorem dX3_init_12 : decode cX3_init 12 = .ok (.return_, 1) := by decide +kernel
theorem dX4_init_0 : decode cX4_init 0 = .ok (.aload_n 0, 1) := by decide +kernel
theorem dX4_init_1 : decode cX4_init 1 = .ok (.invokespecial 1, 3) := by decide +kernel
theorem dX4_init_4 : decode cX4_init 4 = .ok (.aload_n 0, 1) := by decide +kernel
theorem dX4_init_5 : decode cX4_init 5 = .ok (.iload_n 2, 1) := by decide +kernel
theorem dX4_init_6 : decode cX4_init 6 = .ok (.ifCond .le 7, 3) := by decide +kernel
theorem dX4_init_9 : decode cX4_init 9 = .ok (.iload_n 2, 1) := by decide +kernel
theorem dX4_init_10 : decode cX4_init 10 = .ok (.goto 4, 3) := by decide +kernel
theorem dX4_init_14 : decode cX4_init 14 = .ok (.putfield 7, 3) := by decide +kernel
theorem dX4_init_17 : decode cX4_init 17 = .ok (.aload_n 0, 1) := by decide +kernel
theorem dX4_init_18 : decode cX4_init 18 = .ok (.iload_n 1, 1) := by decide +kernel
theorem dX4_init_19 : decode cX4_init 19 = .ok (.ifCond .le 12, 3) := by decide +kernel
theorem dX4_init_22 : decode cX4_init 22 = .ok (.iload_n 1, 1) := by decide +kernel
theorem dX4_init_23 : decode cX4_init 23 = .ok (.aload_n 0, 1) := by decide +kernel
theorem dX4_init_24 : decode cX4_init 24 = .ok (.getfield 7, 3) := by decide +kernel
theorem dX4_init_27 : decode cX4_init 27 = .ok (.imul, 1) := by decide +kernel
theorem dX4_init_28 : decode cX4_init 28 = .ok (.goto 4, 3) := by decide +kernel
theorem dX4_init_32 : decode cX4_init 32 = .ok (.newarray .int, 2) := by decide +kernel
theorem dX4_init_34 : decode cX4_init 34 = .ok (.putfield 13, 3) := by decide +kernel
theorem dX4_init_37 : decode cX4_init 37 = .ok (.return_, 1) := by decide +kernel
set_option maxRecDepth 20000 in
theorem ggX5_init_X2_init : GoodIn wsX5_init wsX2_init := goodIn_r _ [24, 25, 2, 3, 26, 27, 28, 29, 30, 31, 32, 33, 34, 35, 36, 37, 38, 39, 40, 41, 6, 42, 97, 98, 99, 61, 62, 63, 64, 65] (by decide +kernel) (by decide +kernel)
set_option maxRecDepth 20000 in
theorem gX5_init_X2_init : GoodIn wsX5_init (wsX2_init) := ggX5_init_X2_init
set_option maxRecDepth 20000 in
theorem ggX5_init_X0_init : GoodIn wsX5_init wsX0_init := goodIn_r _ [44, 45, 2, 3, 46, 5, 6, 47, 48, 49, 50, 51, 23, 24, 25, 26, 27, 28, 29, 30, 31, 32, 33, 34, 35, 36, 37, 38, 39, 40, 41, 42, 61, 62, 63, 64, 65, 73, 74, 75, 76, 77, 97, 98, 99] (by decide +kernel) (by decide +kernel)
set_option maxRecDepth 20000 in
theorem gX5_init_X0_init_n24 : GoodIn wsX5_init (wsX0_init) := ggX5_init_X0_init
set_option maxRecDepth 20000 in
theorem ggX5_init_X1_init : GoodIn wsX5_init wsX1_init := goodIn_r _ [53, 54, 2, 3, 55, 56, 78, 79, 80, 81, 82, 83, 84, 85, 86, 87, 88, 89, 90, 91] (by decide +kernel) (by decide +kernel)
set_option maxRecDepth 20000 in
theorem gX5_init_X1_init_n31 : GoodIn wsX5_init (wsX1_init) := ggX5_init_X1_init
set_option maxRecDepth 20000 in
theorem ggX5_init_X3_init : GoodIn wsX5_init wsX3_init := goodIn_r _ [58, 59, 2, 3, 31, 60, 92, 93, 94, 95, 96] (by decide +kernel) (by decide +kernel)
set_option maxRecDepth 20000 in
theorem gX5_init_X3_init_n38 : GoodIn wsX5_init (wsX3_init) := ggX5_init_X3_init
theorem dX5_init_0 : decode cX5_init 0 = .ok (.aload_n 0, 1) := by decide +kernel
theorem dX5_init_1 : decode cX5_init 1 = .ok (.invokespecial 1, 3) := by decide +kernel
theorem dX5_init_4 : decode cX5_init 4 = .ok (.aload_n 0, 1) := by decide +kernel
theorem dX5_init_5 : decode cX5_init 5 = .ok (.new 7, 3) := by decide +kernel
theorem dX5_init_8 : decode cX5_init 8 = .ok (.dup, 1) := by decide +kernel
theorem dX5_init_9 : decode cX5_init 9 = .ok (.invokespecial 9, 3) := by decide +kernel
theorem dX5_init_12 : decode cX5_init 12 = .ok (.putfield 10, 3) := by decide +kernel
theorem dX5_init_15 : decode cX5_init 15 = .ok (.aload_n 0, 1) := by decide +kernel
theorem dX5_init_16 : decode cX5_init 16 = .ok (.new 7, 3) := by decide +kernel
theorem dX5_init_19 : decode cX5_init 19 = .ok (.dup, 1) := by decide +kernel
theorem dX5_init_20 : decode cX5_init 20 = .ok (.invokespecial 9, 3) := by decide +kernel
theorem dX5_init_23 : decode cX5_init 23 = .ok (.putfield 16, 3) := by decide +kernel
theorem dX5_init_26 : decode cX5_init 26 = .ok (.aload_n 0, 1) := by decide +kernel
theorem dX5_init_27 : decode cX5_init 27 = .ok (.new 7, 3) := by decide +kernel
theorem dX5_init_30 : decode cX5_init 30 = .ok (.dup, 1) := by decide +kernel
theorem dX5_init_31 : decode cX5_init 31 = .ok (.invokespecial 9, 3) := by decide +kernel
theorem dX5_init_34 : decode cX5_init 34 = .ok (.putfield 19, 3) := by decide +kernel
theorem dX5_init_37 : decode cX5_init 37 = .ok (.aload_n 0, 1) := by decide +kernel
theorem dX5_init_38 : decode cX5_init 38 = .ok (.new 22, 3) := by decide +kernel
theorem dX5_init_41 : decode cX5_init 41 = .ok (.dup, 1) := by decide +kernel
theorem dX5_init_42 : decode cX5_init 42 = .ok (.invokespecial 24, 3) := by decide +kernel
theorem dX5_init_45 : decode cX5_init 45 = .ok (.putfield 25, 3) := by decide +kernel
theorem dX5_init_48 : decode cX5_init 48 = .ok (.aload_n 0, 1) := by decide +kernel
theorem dX5_init_49 : decode cX5_init 49 = .ok (.new 29, 3) := by decide +kernel
theorem dX5_init_52 : decode cX5_init 52 = .ok (.dup, 1) := by decide +kernel
theorem dX5_init_53 : decode cX5_init 53 = .ok (.invokespecial 31, 3) := by decide +kernel
theorem dX5_init_56 : decode cX5_init 56 = .ok (.putfield 32, 3) := by decide +kernel
theorem dX5_init_59 : decode cX5_init 59 = .ok (.aload_n 0, 1) := by decide +kernel
theorem dX5_init_60 : decode cX5_init 60 = .ok (.new 36, 3) := by decide +kernel
theorem dX5_init_63 : decode cX5_init 63 = .ok (.dup, 1) := by decide +kernel
theorem dX5_init_64 : decode cX5_init 64 = .ok (.invokespecial 38, 3) := by decide +kernel
theorem dX5_init_67 : decode cX5_init 67 = .ok (.putfield 39, 3) := by decide +kernel
theorem dX5_init_70 : decode cX5_init 70 = .ok (.return_, 1) := by decide +kernel
theorem dX6_init_0 : decode cX6_init 0 = .ok (.aload_n 0, 1) := by decide +kernel
theorem dX6_init_1 : decode cX6_init 1 = .ok (.invokespecial 1, 3) := by decide +kernel
theorem dX6_init_4 : decode cX6_init 4 = .ok (.aload_n 0, 1) := by decide +kernel
theorem dX6_init_5 : decode cX6_init 5 = .ok (.sipush 150, 3) := by decide +kernel
theorem dX6_init_8 : decode cX6_init 8 = .ok (.newarray .int, 2) := by decide +kernel
theorem dX6_init_10 : decode cX6_init 10 = .ok (.putfield 7, 3) := by decide +kernel
theorem dX6_init_13 : decode cX6_init 13 = .ok (.aload_n 0, 1) := by decide +kernel
theorem dX6_init_14 : decode cX6_init 14 = .ok (.sipush 150, 3) := by decide +kernel
theorem dX6_init_17 : decode cX6_init 17 = .ok (.newarray .int, 2) := by decide +kernel
theorem dX6_init_19 : decode cX6_init 19 = .ok (.putfield 13, 3) := by decide +kernel
theorem dX6_init_22 : decode cX6_init 22 = .ok (.aload_n 0, 1) := by decide +kernel
theorem dX6_init_23 : decode cX6_init 23 = .ok (.sipush 600, 3) := by decide +kernel
theorem dX6_init_26 : decode cX6_init 26 = .ok (.newarray .int, 2) := by decide +kernel
theorem dX6_init_28 : decode cX6_init 28 = .ok (.putfield 16, 3) := by decide +kernel
theorem dX6_init_31 : decode cX6_init 31 = .ok (.aload_n 0, 1) := by decide +kernel
theorem dX6_init_32 : decode cX6_init 32 = .ok (.sipush 150, 3) := by decide +kernel
theorem dX6_init_35 : decode cX6_init 35 = .ok (.newarray .int, 2) := by decide +kernel
theorem dX6_init_37 : decode cX6_init 37 = .ok (.putfield 19, 3) := by decide +kernel
theorem dX6_init_40 : decode cX6_init 40 = .ok (.aload_n 0, 1) := by decide +kernel
theorem dX6_init_41 : decode cX6_init 41 = .ok (.bipush 60, 2) := by decide +kernel
theorem dX6_init_43 : decode cX6_init 43 = .ok (.newarray .int, 2) := by decide +kernel
theorem dX6_init_45 : decode cX6_init 45 = .ok (.putfield 22, 3) := by decide +kernel
theorem dX6_init_48 : decode cX6_init 48 = .ok (.aload_n 0, 1) := by decide +kernel
theorem dX6_init_49 : decode cX6_init 49 = .ok (.bipush 10, 2) := by decide +kernel
theorem dX6_init_51 : decode cX6_init 51 = .ok (.newarray .boolean, 2) := by decide +kernel
theorem dX6_init_53 : decode cX6_init 53 = .ok (.putfield 25, 3) := by decide +kernel
theorem dX6_init_56 : decode cX6_init 56 = .ok (.aload_n 0, 1) := by decide +kernel
theorem dX6_init_57 : decode cX6_init 57 = .ok (.bipush 84, 2) := by decide +kernel
theorem dX6_init_59 : decode cX6_init 59 = .ok (.newarray .int, 2) := by decide +kernel
theorem dX6_init_61 : decode cX6_init 61 = .ok (.putfield 29, 3) := by decide +kernel
theorem dX6_init_64 : decode cX6_init 64 = .ok (.aload_n 0, 1) := by decide +kernel
theorem dX6_init_65 : decode cX6_init 65 = .ok (.getfield 7, 3) := by decide +kernel
theorem dX6_init_68 : decode cX6_init 68 = .ok (.bipush 9, 2) := by decide +kernel
theorem dX6_init_70 : decode cX6_init 70 = .ok (.bipush 6, 2) := by decide +kernel
theorem dX6_init_72 : decode cX6_init 72 = .ok (.iastore, 1) := by decide +kernel
theorem dX6_init_73 : decode cX6_init 73 = .ok (.aload_n 0, 1) := by decide +kernel
theorem dX6_init_74 : decode cX6_init 74 = .ok (.getfield 7, 3) := by decide +kernel
theorem dX6_init_77 : decode cX6_init 77 = .ok (.bipush 11, 2) := by decide +kernel
theorem dX6_init_79 : decode cX6_init 79 = .ok (.bipush 10, 2) := by decide +kernel
theorem dX6_init_81 : decode cX6_init 81 = .ok (.iastore, 1) := by decide +kernel
theorem dX6_init_82 : decode cX6_init 82 = .ok (.return_, 1) := by decide +kernel
abbrev vwCl : List vw_C := [(RX0, TX0, 5), (RX1, TX1, 14), (RX2, TX2, 5), (RX3, TX3, 5), (RX4, TX4, 3), (RX5, TX5, 7), (RX6, TX6, 17)]
abbrev zR2 : Type := Nat × Nat
abbrev zR6 : Type := Nat × Nat × zR2 × zR2
abbrev zTb : Type := Int32 × (Nat → Int32)
abbrev zSt : Type := zTb × zTb × (Nat → Int32) × Int32 × Int32
/-- a table: its object (width 7), its cells -/
abbrev zwT (cI : ClassId) (n : Nat) (o : zR2) (t : zTb) : va_W := [(o.1, .inr (4, [.int 7, .ref o.2, .int t.1])), (o.2, .inl (cI, n, .inl t.2))]
/-- a state: its object, its numbers, its zones, its voices -/
abbrev zwS (cI : ClassId) (o : zR6) (S : zSt) : va_W := [(o.1, .inr (2, [.ref o.2.2.1.1, .ref o.2.2.2.1, .ref o.2.1, .int S.2.2.2.1, .int S.2.2.2.2])), (o.2.1, .inl (cI, 13, .inl S.2.2.1)), (o.2.2.1.1, .inr (4, [.int 7, .ref o.2.2.1.2, .int S.1.1])), (o.2.2.1.2, .inl (cI, 70, .inl S.1.2)), (o.2.2.2.1, .inr (4, [.int 7, .ref o.2.2.2.2, .int S.2.1.1])), (o.2.2.2.2, .inl (cI, 56, .inl S.2.1.2))]
theorem z_s1 {α : Type} {a b : α} (h : some a = some b) : a = b := Option.some.inj h
theorem z_pos {c : Prop} {dc : Decidable c} {α : Type} {a b r : α} (hc : c) (h : (@ite α c dc a b) = r) : a = r := by rw [if_pos hc] at h; exact h
theorem z_neg {c : Prop} {dc : Decidable c} {α : Type} {a b r : α} (hc : ¬ c) (h : (@ite α c dc a b) = r) : b = r := by rw [if_neg hc] at h; exact h
abbrev zPd : Type := (Nat → Int32) × Int32 × Int32 × Int32 × Int32 × Int32 × Int32 × Int32 × Int32 × Int32 × Int32 × Int32 × Int32 × Int32
abbrev zwP (cC : ClassId) (o : zR2) (P : zPd) : va_W := [(o.1, .inr (1, [.ref o.2, .int P.2.1, .int P.2.2.1, .int P.2.2.2.1, .int P.2.2.2.2.1, .int P.2.2.2.2.2.1, .int P.2.2.2.2.2.2.1, .int P.2.2.2.2.2.2.2.1, .int P.2.2.2.2.2.2.2.2.1, .int P.2.2.2.2.2.2.2.2.2.1, .int P.2.2.2.2.2.2.2.2.2.2.1, .int P.2.2.2.2.2.2.2.2.2.2.2.1, .int P.2.2.2.2.2.2.2.2.2.2.2.2.1, .int P.2.2.2.2.2.2.2.2.2.2.2.2.2])), (o.2, .inl (cC, 60, .inl P.1))]
abbrev zSv : Type := (Nat → Int32) × Int32 × Int32 × Int32 × Int32
abbrev zwV (cI : ClassId) (o : zR2) (V : zSv) : va_W := [(o.1, .inr (3, [.ref o.2, .int V.2.1, .int V.2.2.1, .int V.2.2.2.1, .int V.2.2.2.2])), (o.2, .inl (cI, 9, .inl V.1))]
abbrev zR8 : Type := Nat × Nat × Nat × Nat × Nat × Nat × Nat × Nat
abbrev zMd : Type := (Nat → Int32) × (Nat → Int32) × (Nat → Int32) × Int32 × (Nat → Int32) × Int32 × (Nat → Int32) × Int32 × (Nat → Int32) × Int32 × Int32 × Int32 × (Nat → Int32) × Int32 × Int32 × Int32 × Int32
/-- the reference: s, aside, past, known, kept, isKept, pad, length, sounds, firstZone, spot, isForm, read, reads, letter, first, second -/
abbrev zwM (cI cZ : ClassId) (o : zR8) (M : zMd) : va_W := [(o.1, .inr (6, [.ref o.2.1, .ref o.2.2.1, .ref o.2.2.2.1, .int M.2.2.2.1, .ref o.2.2.2.2.1, .int M.2.2.2.2.2.1, .ref o.2.2.2.2.2.1, .int M.2.2.2.2.2.2.2.1, .ref o.2.2.2.2.2.2.1, .int M.2.2.2.2.2.2.2.2.2.1, .int M.2.2.2.2.2.2.2.2.2.2.1, .int M.2.2.2.2.2.2.2.2.2.2.2.1, .ref o.2.2.2.2.2.2.2, .int M.2.2.2.2.2.2.2.2.2.2.2.2.2.1, .int M.2.2.2.2.2.2.2.2.2.2.2.2.2.2.1, .int M.2.2.2.2.2.2.2.2.2.2.2.2.2.2.2.1, .int M.2.2.2.2.2.2.2.2.2.2.2.2.2.2.2.2])),
  (o.2.1, .inl (cI, 150, .inl M.1)), (o.2.2.1, .inl (cI, 150, .inl M.2.1)), (o.2.2.2.1, .inl (cI, 600, .inl M.2.2.1)), (o.2.2.2.2.1, .inl (cI, 150, .inl M.2.2.2.2.1)), (o.2.2.2.2.2.1, .inl (cI, 60, .inl M.2.2.2.2.2.2.1)), (o.2.2.2.2.2.2.1, .inl (cZ, 10, .inl M.2.2.2.2.2.2.2.2.1)), (o.2.2.2.2.2.2.2, .inl (cI, 84, .inl M.2.2.2.2.2.2.2.2.2.2.2.2.1))]
abbrev zT3 : Type := ClassId × ClassId × ClassId
abbrev zty (c3 : zT3) : List (ClassId × FieldType) := [(c3.1, .int), (c3.2.1, .char), (c3.2.2, .boolean)]
/-- the links between nest mates, which no word list holds -/
def zNW : List Cond := [.fieldLinkNest "ZoneSampler" 47 "ZoneSampler$State" "zones" "LZoneSampler$Table;" "ZoneSampler", .fieldLinkNest "ZoneSampler$Survey" 41 "ZoneSampler$State" "zones" "LZoneSampler$Table;" "ZoneSampler", .fieldLinkNest "ZoneSampler" 168 "ZoneSampler$State" "voices" "LZoneSampler$Table;" "ZoneSampler", .fieldLinkNest "ZoneSampler" 195 "ZoneSampler$State" "pedalDown" "Z" "ZoneSampler", .fieldLinkNest "ZoneSampler" 137 "ZoneSampler$Pad" "low" "I" "ZoneSampler", .fieldLinkNest "ZoneSampler" 141 "ZoneSampler$Pad" "high" "I" "ZoneSampler", .fieldLinkNest "ZoneSampler" 144 "ZoneSampler$Pad" "softest" "I" "ZoneSampler", .fieldLinkNest "ZoneSampler" 147 "ZoneSampler$Pad" "hardest" "I" "ZoneSampler", .fieldLinkNest "ZoneSampler" 156 "ZoneSampler$Pad" "lasting" "I" "ZoneSampler", .fieldLinkNest "ZoneSampler" 150 "ZoneSampler$Pad" "group" "I" "ZoneSampler", .fieldLinkNest "ZoneSampler" 153 "ZoneSampler$Pad" "robin" "I" "ZoneSampler", .fieldLinkNest "ZoneSampler" 225 "ZoneSampler$Pad" "deed" "I" "ZoneSampler", .fieldLinkNest "ZoneSampler" 228 "ZoneSampler$Pad" "deedKey" "I" "ZoneSampler", .fieldLinkNest "ZoneSampler" 231 "ZoneSampler$Pad" "amount" "I" "ZoneSampler"]
theorem zNW_tbl : ∀ w ∈ zNW, w ∈ tables_1 := by decide +kernel
def zNs (U : State) : Prop := ∀ w ∈ zNW, va_Nw w U
theorem zNW_fl : ∀ w ∈ zNW, ∃ (a : String) (i : Nat) (b n d h : String), w = .fieldLinkNest a i b n d h := by
  intro w hw
  simp only [zNW, List.mem_cons, List.not_mem_nil, or_false] at hw
  rcases hw with rfl | rfl | rfl | rfl | rfl | rfl | rfl | rfl | rfl | rfl | rfl | rfl | rfl | rfl <;> exact ⟨_, _, _, _, _, _, rfl⟩
theorem zNs.warm {s U : State} (hW : s.WarmedH U.vm) (h : zNs s) : zNs U := by
  intro w hw
  obtain ⟨a, i, b, n, d, k, rfl⟩ := zNW_fl w hw
  exact va_Nw.warmF hW (h _ hw)
theorem zNs.same {u U : State} (hv : u.vm = U.vm) (h : zNs u) : zNs U := by
  intro w hw
  have h1 := h _ hw
  obtain ⟨a, i, b, n, d, k, rfl⟩ := zNW_fl w hw
  exact va_Nw.same rfl hv h1
def zK (G : va_G) (c3 : zT3) (U : State) : Prop := va_K G vwCl (zty c3) U ∧ zNs U
theorem zK.warm {G : va_G} {c3 : zT3} {s U : State} (hW : s.WarmedH U.vm) (h : zK G c3 s) : zK G c3 U := ⟨va_K.moved hW.alike h.1, h.2.warm hW⟩
/-- what is known at a point of a walk: the tables, the cells, that they are apart, what was touched -/
def zC (G : va_G) (c3 : zT3) (A : Nat → Prop) (s : State) (ws : va_W) (H : Heap) (locs : List Loc) : Prop := zK G c3 s ∧ va_P G vwCl ws H ∧ va_D A ws ∧ va_S A s.heap H locs ∧ ∀ q : Nat, s.heap.size ≤ q → A q
def zPre (G : va_G) (c3 : zT3) (WS : va_W) (sz : Nat) (av : List Value) : Array Value → State → Prop := va_Pc av (fun U => U.heap.size = sz ∧ va_P G vwCl WS U.heap ∧ zK G c3 U ∧ va_D (fun _ => True) WS)
def zPost (G : va_G) (WS : va_W) (rv : Option Value) (A : Nat → Prop) : Array Value → State → Outcome → State → Prop := fun _ st oc t => (oc = .returned rv ∧ va_P G vwCl WS t.heap ∧ va_D A WS) ∧ va_F A st t
/-- a contract: from the world WS with the arguments av the method answers rv and leaves WS1 -/
def zM (l : Launch) (y : MethodName) (ws : List Cond) (rm : Room) (G : va_G) (c3 : zT3) (WS : va_W) (av : List Value) (rv : Option Value) (WS1 : va_W) : Prop := ∀ sz : Nat, Met l y ws rm (zPre G c3 WS sz av) (zPost G WS1 rv (va_A WS sz)) 0 0 (va_A WS sz)
theorem zPre.blind {G : va_G} {c3 : zT3} {WS : va_W} {sz : Nat} {av : List Value} : FrameBlind (zPre G c3 WS sz av) := by
  intro a U g mk q
  obtain ⟨q0, q1, qP, qK, qD⟩ := q
  exact ⟨q0, q1, qP, ⟨va_K.moved (u := U) (U := U.calling g mk a) (Vm.Alike.refl U.vm) qK.1, zNs.same (u := U) rfl qK.2⟩, qD⟩
theorem zC.pre {G : va_G} {c3 : zT3} {A : Nat → Prop} {s : State} {ws wc : va_W} {H : Heap} {locs : List Loc} (h : zC G c3 A s ws H locs) (isC : List Nat) (hn : va_nd isC = true) (hc : isC.map (fun i => ws[i]?) = wc.map some) {av : List Value} (U : State) (hU : U.heap = H) (hW : s.WarmedH U.vm) : zPre G c3 wc H.size av av.toArray U := by
  obtain ⟨hK, hP, hD, hS, hA⟩ := h
  refine ⟨rfl, by rw [hU], ?_, hK.warm hW, (hD.sub isC hn hc).weaken (fun _ _ _ _ => trivial)⟩
  rw [hU]
  intro k q hk
  have h1 : (isC.map (fun i => ws[i]?))[k]? = some (some q) := by rw [hc, List.getElem?_map, hk]; rfl
  rw [List.getElem?_map] at h1
  cases hi : isC[k]? with
  | none => rw [hi] at h1; cases h1
  | some i => rw [hi] at h1; exact hP i q (Option.some.inj h1)
theorem zM.of {l : Launch} {y : MethodName} {ws ws' : List Cond} {rm : Room} {G : va_G} {c3 : zT3} {WS : va_W} {av : List Value} {rv : Option Value} {WS1 : va_W} {cc : ByteArray} {maxL : Nat} {ret : Option FieldType}
    (hy : plainName y.cls = true) (hw : ws = Cond.code y cc maxL ret :: ws') (hlen : (lg_sl av).length ≤ maxL)
    (body : ∀ (p : Program) (e : Env) (s : State) (m : MethodId) (args : Array Value) (below : List Frame) (meth : Method) (c : Code) (A : Nat → Prop) (ls : Array Slot), CallFix p m c cc maxL s args ws y.cls → meth.sig.returnType = ret → meth.locks = false → zC G c3 A s WS s.heap [] → lv_has ls maxL (lv_args 0 av) →
      W p l e rm s m args below meth c s.heap [] 0 0 (MQ below (zPost G WS1 rv A) args s 0 0 A) (F0 m 0 ls [])) : zM l y ws rm G c3 WS av rv WS1 := by
  intro sz
  refine Met.ofW (cc := cc) (maxL := maxL) (ret := ret) hy hw ?_
  intro p e s m args below meth c s₁ B hml hv
  obtain ⟨rfl, hsz, hP, hK, hD0⟩ := hv
  have hts := atoms_spec (ws := ws) B.pre
  subst hsz
  have hl := lv_entry av (n := maxL) hlen
  rw [lg_entry_eq]
  exact body p e s m av.toArray below meth c _ _ ⟨B.exec, B.bytes, hml, findClass_of_methodNamed B.named, hts⟩ B.returns B.notSynchronized ⟨hK, hP, hD0.self, va_S.rf, fun q h => Or.inr h⟩ hl
theorem z_bind {α β : Type} {x : Option α} {f : α → Option β} {r : β} (h : x.bind f = some r) : ∃ a, x = some a ∧ f a = some r := Option.bind_eq_some_iff.mp h
def zast (n : Nat) (f : Nat → Int32) (i x : Int32) : Option (Nat → Int32) := if 0 ≤ i ∧ i.toNatClampNeg < n then some (upd f i.toNatClampNeg x) else none
theorem zast_spec {n : Nat} {f g : Nat → Int32} {i x : Int32} (h : zast n f i x = some g) : vp_in i n ∧ upd f i.toNatClampNeg x = g := by
  unfold zast at h
  split at h
  · rename_i hc
    exact ⟨fun q => q.elim (fun q => absurd hc.1 (Int32.not_le.mpr q)) (fun q => absurd hc.2 (Nat.not_lt.mpr q)), Option.some.inj h⟩
  · cases h
section ZROWS
variable {p : Program} {l : Launch} {e : Env} {R : Room} {s : State} {m : MethodId} {args : Array Value} {below : List Frame} {meth : Method} {c : Code} {H : Heap} {locs : List Loc} {Q : State → Prop}
variable {cc : ByteArray} {nL pc : Nat} {Ts : List Cond} {own : String} {ls : Array Slot} {rest st0 : List Value} {G : va_G} {c3 : zT3} {A : Nat → Prop} {a : Nat} {ws : va_W}
theorem z_get (S : CallFix p m c cc nL s args Ts own) (hC : zC G c3 A s ws H locs) {ref C : String} {T : u_T} {N ci index : Nat} (hin : ∀ w ∈ u_ws C T N, w ∈ Ts) (q0 : Nat) {fs : List Value} (he : ws[q0]? = some (a, .inr (ci, fs))) (hc : vwCl[ci]? = some (C, T, N)) (k : Nat) (hk : k < N) (hlink : Cond.fieldLink own index ref (T k).2.1 (T k).2.2.1 ∈ Ts) (hsame : ref = (T k).1) {v : Value} (hv : fs[k]? = some v) (hdg : decode cc pc = .ok (.getfield index, 3))
    (kk : W p l e R s m args below meth c H locs 0 0 Q (F0 m (pc + 3) ls (v :: rest))) : W p l e R s m args below meth c H locs 0 0 Q (F0 m pc ls (.ref a :: rest)) :=
  va_get S.1 S.2.1 S.2.2.2.2 hin S.2.2.2.1 hC.1.1 hC.2.1 q0 he hc k hk (S.2.2.2.2 _ hlink) (fun _ h => by rw [hsame]; exact h) hv hdg kk
theorem z_iast (S : CallFix p m c cc nL s args Ts own) (hC : zC G c3 A s ws H locs) (q0 : Nat) {n : Nat} {f g : Nat → Int32} (ha : ws[q0]? = some (a, .inl (c3.1, n, .inl f))) {i x : Int32} (hx : zast n f i x = some g) (hdg : decode cc pc = .ok (.iastore, 1)) {ws2 : va_W} (hws : ws.set q0 (a, .inl (c3.1, n, .inl g)) = ws2)
    (kk : ∀ (H1 : Heap) (locs1 : List Loc), zC G c3 A s ws2 H1 locs1 → W p l e R s m args below meth c H1 locs1 0 0 Q (F0 m (pc + 1) ls rest)) : W p l e R s m args below meth c H locs 0 0 Q (F0 m pc ls (.int x :: .int i :: .ref a :: rest)) := by
  obtain ⟨h1, rfl⟩ := zast_spec hx
  subst hws
  exact va_iast S.1 S.2.1 hC.1.1 hC.2.1 hC.2.2.1 hC.2.2.2.1 q0 0 ha rfl h1 hdg (fun H1 locs1 hP hD hS => kk H1 locs1 ⟨hC.1, hP, hD, hS, hC.2.2.2.2⟩)
theorem z_alen (S : CallFix p m c cc nL s args Ts own) (hC : zC G c3 A s ws H locs) (q0 t0 : Nat) {cA : ClassId} {x : vp_A} (ha : ws[q0]? = some (a, .inl (cA, x))) {ty : FieldType} (ht : (zty c3)[t0]? = some (cA, ty)) {v : Int32} (hv : Int32.ofNat x.1 = v) (hdg : decode cc pc = .ok (.arraylength, 1))
    (kk : W p l e R s m args below meth c H locs 0 0 Q (F0 m (pc + 1) ls (.int v :: rest))) : W p l e R s m args below meth c H locs 0 0 Q (F0 m pc ls (.ref a :: rest)) :=
  va_alen S.1 S.2.1 hC.1.1 hC.2.1 q0 t0 ha ht hv hdg kk
theorem z_vret {WS1 : va_W} (S : CallFix p m c cc nL s args Ts own) (hr : meth.sig.returnType = none) (hlk : meth.locks = false) (hC : zC G c3 A s WS1 H locs) (hdg : decode cc pc = .ok (.return_, 1)) : W p l e R s m args below meth c H locs 0 0 (MQ below (zPost G WS1 none A) args s 0 0 A) (F0 m pc ls []) :=
  W.vret S.1 S.2.1 hr (fun t ht hW => ⟨⟨rfl, by rw [ht]; exact hC.2.1, hC.2.2.1⟩, hC.2.2.2.1.F ht⟩) hC.2.2.2.1.2.2 hdg hlk
end ZROWS
def f_X2_putNumber (Snm : (Nat → Int32)) (p1 : Int32) (p2 : Int32) : Option ((Nat → Int32)) :=
  if p1 < 0 then
    some (Snm)
  else
    if 13 ≤ p1 then
      some (Snm)
    else
      (zast 13 Snm p1 p2).bind fun g3 => some (g3)
theorem kX2_putNumber_23 : Cond.fieldLink RX2 23 "ZoneSampler$State" "numbers" "[I" ∈ wsX2_putNumber := by decide +kernel
theorem jX2_putNumber_X2 : ∀ w ∈ u_ws RX2 TX2 5, w ∈ wsX2_putNumber := by decide +kernel
set_option maxHeartbeats 4000000 in
set_option maxRecDepth 100000 in
theorem c_X2_putNumber (l : Launch) (G : va_G) (c3 : zT3) (oS : zR6) (BS : zSt) (p1 : Int32) (p2 : Int32) {Snm' : (Nat → Int32)} (hf : f_X2_putNumber BS.2.2.1 p1 p2 = some (Snm')) : zM l yX2_putNumber wsX2_putNumber ⟨0, 0, 0, 0⟩ G c3 (zwS c3.1 oS ((BS.1.1, BS.1.2), (BS.2.1.1, BS.2.1.2), BS.2.2.1, BS.2.2.2.1, BS.2.2.2.2)) [.ref oS.1, .int p1, .int p2] none (zwS c3.1 oS ((BS.1.1, BS.1.2), (BS.2.1.1, BS.2.1.2), Snm', BS.2.2.2.1, BS.2.2.2.2)) := by
  obtain ⟨⟨Szr, Szf⟩, ⟨Svr, Svf⟩, Snm, Spd, Snt⟩ := BS
  have hf : f_X2_putNumber Snm p1 p2 = some (Snm') := hf
  show zM l yX2_putNumber wsX2_putNumber ⟨0, 0, 0, 0⟩ G c3 (zwS c3.1 oS ((Szr, Szf), (Svr, Svf), Snm, Spd, Snt)) [.ref oS.1, .int p1, .int p2] none (zwS c3.1 oS ((Szr, Szf), (Svr, Svf), Snm', Spd, Snt))
  refine zM.of (cc := cX2_putNumber) (maxL := 3) (ret := none) (by decide) rfl (Nat.le_of_ble_eq_true rfl) ?_
  intro p e s m args below meth c A ls S0 hr hlk hC hl
  have S0 : CallFix p m c cX2_putNumber 3 s args wsX2_putNumber RX2 := S0
  have hl : lv_has ls 3 [(0, .ref oS.1), (1, .int p1), (2, .int p2)] := hl
  have hx := S0.1
  have hb := S0.2.1
  obtain ⟨H, hH⟩ : ∃ y, y = s.heap := ⟨_, rfl⟩
  rw [← hH] at hC ⊢
  obtain ⟨locs, hlo⟩ : ∃ y : List Loc, y = [] := ⟨_, rfl⟩
  rw [← hlo] at hC ⊢
  clear hH hlo
  unfold f_X2_putNumber at hf
  refine lv_iload_n hx hb dX2_putNumber_0 rfl (lv_at hl 1 rfl) ?_
  refine lv_if_lt (tgt := 20) hx hb dX2_putNumber_1 (by decide) (fun cd1 => ?_) (fun cd1 => ?_)
  · replace hf := z_pos cd1 hf
    have e1 := z_s1 hf
    subst e1
    exact z_vret S0 hr hlk hC dX2_putNumber_20
  · replace hf := z_neg cd1 hf
    refine lv_iload_n hx hb dX2_putNumber_4 rfl (lv_at hl 1 rfl) ?_
    refine lv_aload_n hx hb dX2_putNumber_5 rfl (lv_at hl 0 rfl) ?_
    refine z_get S0 hC (ci := 2) (C := RX2) (T := TX2) (N := 5) (v := .ref oS.2.1) jX2_putNumber_X2 0 rfl rfl 2 (by decide) kX2_putNumber_23 rfl rfl dX2_putNumber_6 ?_
    refine z_alen S0 hC 1 0 rfl rfl (v := 13) rfl dX2_putNumber_9 ?_
    refine lv_icmp_ge (tgt := 20) hx hb dX2_putNumber_10 (by decide) (fun cd2 => ?_) (fun cd2 => ?_)
    · replace hf := z_pos cd2 hf
      have e1 := z_s1 hf
      subst e1
      exact z_vret S0 hr hlk hC dX2_putNumber_20
    · replace hf := z_neg cd2 hf
      refine lv_aload_n hx hb dX2_putNumber_13 rfl (lv_at hl 0 rfl) ?_
      refine z_get S0 hC (ci := 2) (C := RX2) (T := TX2) (N := 5) (v := .ref oS.2.1) jX2_putNumber_X2 0 rfl rfl 2 (by decide) kX2_putNumber_23 rfl rfl dX2_putNumber_14 ?_
      refine lv_iload_n hx hb dX2_putNumber_17 rfl (lv_at hl 1 rfl) ?_
      refine lv_iload_n hx hb dX2_putNumber_18 rfl (lv_at hl 2 rfl) ?_
      obtain ⟨g3, hg3, hf⟩ := z_bind hf
      refine z_iast S0 hC 1 rfl hg3 dX2_putNumber_19 (ws2 := (zwS c3.1 oS ((Szr, Szf), (Svr, Svf), g3, Spd, Snt))) rfl (fun H locs hC => ?_)
      have e1 := z_s1 hf
      subst e1
      exact z_vret S0 hr hlk hC dX2_putNumber_20
abbrev zHe : Type := zR6 × zSt
abbrev zHs : Type := Int32 × zHe × zHe × zHe × zHe
/-- the history: its object, and the four states in the order of its fields -/
abbrev zwH (cI : ClassId) (a : Nat) (h : zHs) : va_W := (a, .inr (0, [.ref h.2.1.1.1, .ref h.2.2.1.1.1, .ref h.2.2.2.1.1.1, .ref h.2.2.2.2.1.1, .int h.1])) :: (zwS cI h.2.1.1 h.2.1.2 ++ zwS cI h.2.2.1.1 h.2.2.1.2 ++ zwS cI h.2.2.2.1.1 h.2.2.2.1.2 ++ zwS cI h.2.2.2.2.1 h.2.2.2.2.2)
abbrev zwZ (o0 : Nat) (oN oT oK : zR6) (oH : Nat) (oP oV : zR2) (ss : Int32) : va_W := [(o0, .inr (5, [.ref oN.1, .ref oT.1, .ref oK.1, .ref oH, .ref oP.1, .ref oV.1, .int ss]))]
theorem zC.perm {G : va_G} {c3 : zT3} {A : Nat → Prop} {s : State} {ws ws2 : va_W} {H : Heap} {locs : List Loc} (h : zC G c3 A s ws H locs) (perm : List Nat) (hn : va_nd perm = true) (hp : perm.map (fun i => ws[i]?) = ws2.map some) : zC G c3 A s ws2 H locs := by
  obtain ⟨hK, hP, hD, hS, hA⟩ := h
  refine ⟨hK, ?_, hD.sub perm hn hp, hS, hA⟩
  intro k q hq
  have h1 : (perm.map (fun i => ws[i]?))[k]? = some (some q) := by rw [hp, List.getElem?_map, hq]; rfl
  rw [List.getElem?_map] at h1
  cases hi : perm[k]? with
  | none => rw [hi] at h1; cases h1
  | some i => rw [hi] at h1; exact hP i q (Option.some.inj h1)
def zS0 : zSt := ((0, fun _ => 0), (0, fun _ => 0), upd (upd (upd (fun _ => 0) 6 6) 7 0) 8 10, 0, 0)
def zP0 : zPd := (fun _ => 0, 0, 0, 0, 0, 0, 0, 0, 0, 0, 0, 0, 0, 0)
def zV0 : zSv := (fun _ => 0, 0, 0, 0, 0)
def zM0 : zMd := (upd (upd (fun _ => 0) 9 6) 11 10, fun _ => 0, fun _ => 0, 0, fun _ => 0, 0, fun _ => 0, 0, fun _ => 0, 0, 0, 0, fun _ => 0, 0, 0, 0, 0)
def zNMw : List Cond := [.methodLinkNest "ZoneSampler" 24 ⟨"ZoneSampler$History", "<init>", "()V"⟩ "ZoneSampler", .methodLinkNest "ZoneSampler" 31 ⟨"ZoneSampler$Pad", "<init>", "()V"⟩ "ZoneSampler", .methodLinkNest "ZoneSampler" 38 ⟨"ZoneSampler$Survey", "<init>", "()V"⟩ "ZoneSampler"]
theorem zNMw_tbl : ∀ w ∈ zNMw, w ∈ tables_1 := by decide +kernel
def zNM (U : State) : Prop := ∀ w ∈ zNMw, va_Nw w U
theorem zNMw_ml : ∀ w ∈ zNMw, ∃ (a : String) (i : Nat) (x : MethodName) (h : String), w = .methodLinkNest a i x h := by
  intro w hw
  simp only [zNMw, List.mem_cons, List.not_mem_nil, or_false] at hw
  rcases hw with rfl | rfl | rfl <;> exact ⟨_, _, _, _, rfl⟩
theorem zNM.warm {s U : State} (hW : s.WarmedH U.vm) (h : zNM s) : zNM U := by
  intro w hw
  obtain ⟨a, i, x, k, rfl⟩ := zNMw_ml w hw
  exact va_Nw.warmM hW (h _ hw)
theorem zNM.same {u U : State} (hv : u.vm = U.vm) (h : zNM u) : zNM U := by
  intro w hw
  have h1 := h _ hw
  obtain ⟨a, i, x, k, rfl⟩ := zNMw_ml w hw
  exact va_Nw.same rfl hv h1
def zPreN (G : va_G) (c3 : zT3) (WS : va_W) (sz : Nat) (av : List Value) : Array Value → State → Prop := va_Pc av (fun U => U.heap.size = sz ∧ va_P G vwCl WS U.heap ∧ zK G c3 U ∧ va_D (fun _ => True) WS ∧ zNM U)
def zPostN (G : va_G) (P : va_W → Prop) (A : Nat → Prop) : Array Value → State → Outcome → State → Prop := fun _ st oc t => (oc = .returned none ∧ ∃ w1 : va_W, P w1 ∧ va_P G vwCl w1 t.heap ∧ va_D A w1) ∧ va_F A st t
def zMn (l : Launch) (y : MethodName) (ws : List Cond) (rm : Room) (G : va_G) (c3 : zT3) (WS : va_W) (av : List Value) (P : va_W → Prop) (mc ms : Nat) : Prop := ∀ sz : Nat, Met l y ws rm (zPreN G c3 WS sz av) (zPostN G P (va_A WS sz)) mc ms (va_A WS sz)
theorem zPreN.blind {G : va_G} {c3 : zT3} {WS : va_W} {sz : Nat} {av : List Value} : FrameBlind (zPreN G c3 WS sz av) := by
  intro a U g mk q
  obtain ⟨q0, q1, qP, qK, qD, qN⟩ := q
  exact ⟨q0, q1, qP, ⟨va_K.moved (u := U) (U := U.calling g mk a) (Vm.Alike.refl U.vm) qK.1, zNs.same (u := U) rfl qK.2⟩, qD, zNM.same (u := U) rfl qN⟩
theorem zMn.of {l : Launch} {y : MethodName} {ws ws' : List Cond} {rm : Room} {G : va_G} {c3 : zT3} {WS : va_W} {av : List Value} {P : va_W → Prop} {mc ms : Nat} {cc : ByteArray} {maxL : Nat}
    (hy : plainName y.cls = true) (hw : ws = Cond.code y cc maxL none :: ws') (hnm : y.name = "<init>") (hlen : (lg_sl av).length ≤ maxL)
    (body : ∀ (p : Program) (e : Env) (s : State) (m : MethodId) (args : Array Value) (below : List Frame) (meth : Method) (c : Code) (A : Nat → Prop) (ls : Array Slot), CallFix p m c cc maxL s args ws y.cls → meth.sig.returnType = none → meth.locks = false → meth.name = "<init>" → zNM s → zC G c3 A s WS s.heap [] → lv_has ls maxL (lv_args 0 av) →
      W p l e rm s m args below meth c s.heap [] 0 0 (MQ below (zPostN G P A) args s mc ms A) (F0 m 0 ls [])) : zMn l y ws rm G c3 WS av P mc ms := by
  intro sz
  refine Met.ofW (cc := cc) (maxL := maxL) (ret := none) hy hw ?_
  intro p e s m args below meth c s₁ B hml hv
  obtain ⟨rfl, hsz, hP, hK, hD0, hN⟩ := hv
  have hts := atoms_spec (ws := ws) B.pre
  subst hsz
  have hl := lv_entry av (n := maxL) hlen
  rw [lg_entry_eq]
  exact body p e s m av.toArray below meth c _ _ ⟨B.exec, B.bytes, hml, findClass_of_methodNamed B.named, hts⟩ B.returns B.notSynchronized ((name_of_methodNamed B.named B.method).1.trans hnm) hN ⟨hK, hP, hD0.self, va_S.rf, fun q h => Or.inr h⟩ hl
section ZIROWS
variable {p : Program} {l : Launch} {e : Env} {R : Room} {s : State} {m : MethodId} {args : Array Value} {below : List Frame} {meth : Method} {c : Code} {H : Heap} {locs : List Loc} {Q : State → Prop} {cells slots : Nat}
variable {cc : ByteArray} {nL pc : Nat} {Ts : List Cond} {own : String} {ls : Array Slot} {rest st0 : List Value} {G : va_G} {c3 : zT3} {A : Nat → Prop} {a : Nat} {ws : va_W}
theorem zi_get (S : CallFix p m c cc nL s args Ts own) (hC : zC G c3 A s ws H locs) {ref C : String} {T : u_T} {N ci index : Nat} (hin : ∀ w ∈ u_ws C T N, w ∈ Ts) (q0 : Nat) {fs : List Value} (he : ws[q0]? = some (a, .inr (ci, fs))) (hc : vwCl[ci]? = some (C, T, N)) (k : Nat) (hk : k < N) (hlink : Cond.fieldLink own index ref (T k).2.1 (T k).2.2.1 ∈ Ts) (hsame : ref = (T k).1) {v : Value} (hv : fs[k]? = some v) (hdg : decode cc pc = .ok (.getfield index, 3))
    (kk : W p l e R s m args below meth c H locs cells slots Q (F0 m (pc + 3) ls (v :: rest))) : W p l e R s m args below meth c H locs cells slots Q (F0 m pc ls (.ref a :: rest)) :=
  va_get S.1 S.2.1 S.2.2.2.2 hin S.2.2.2.1 hC.1.1 hC.2.1 q0 he hc k hk (S.2.2.2.2 _ hlink) (fun _ h => by rw [hsame]; exact h) hv hdg kk
theorem zi_put (S : CallFix p m c cc nL s args Ts own) (hC : zC G c3 A s ws H locs) {ref C : String} {T : u_T} {N ci index : Nat} (hin : ∀ w ∈ u_ws C T N, w ∈ Ts) (ty0 : Nat → FieldType) (hty : ∀ k, k < N → parseFieldDescriptor (T k).2.2.1 = some (ty0 k)) (hnm : ∀ a, a < N → ∀ b, b < N → a ≠ b → (T a).2.1 ≠ (T b).2.1) (q0 : Nat) {fs : List Value} (he : ws[q0]? = some (a, .inr (ci, fs))) (hc : vwCl[ci]? = some (C, T, N)) (k : Nat) (hk : k < N) (hlink : Cond.fieldLink own index ref (T k).2.1 (T k).2.2.1 ∈ Ts) (hsame : ref = (T k).1) (hfin : (T k).2.2.2 = false) {v : Value} (hn : narrow (ty0 k) v = v) (hfit : fits (ty0 k) v = true) (hl : k < fs.length) (hdg : decode cc pc = .ok (.putfield index, 3)) {ws2 : va_W} (hws : ws.set q0 (a, .inr (ci, fs.set k v)) = ws2)
    (kk : ∀ (H1 : Heap) (locs1 : List Loc), zC G c3 A s ws2 H1 locs1 → W p l e R s m args below meth c H1 locs1 cells slots Q (F0 m (pc + 3) ls rest)) : W p l e R s m args below meth c H locs cells slots Q (F0 m pc ls (v :: .ref a :: rest)) := by
  subst hws
  exact va_put S.1 S.2.1 S.2.2.2.2 hin ty0 hty hnm S.2.2.2.1 hC.1.1 hC.2.1 hC.2.2.1 hC.2.2.2.1 q0 he hc k hk (S.2.2.2.2 _ hlink) (fun _ h => by rw [hsame]; exact h) hfin (hty k hk) hn hfit hl hdg (fun H1 locs1 hP hD hS => kk H1 locs1 ⟨hC.1, hP, hD, hS, hC.2.2.2.2⟩)
theorem zi_putF (S : CallFix p m c cc nL s args Ts own) (hC : zC G c3 A s ws H locs) {ref C : String} {T : u_T} {N ci index : Nat} (hin : ∀ w ∈ u_ws C T N, w ∈ Ts) (ty0 : Nat → FieldType) (hty : ∀ k, k < N → parseFieldDescriptor (T k).2.2.1 = some (ty0 k)) (hnm : ∀ a, a < N → ∀ b, b < N → a ≠ b → (T a).2.1 ≠ (T b).2.1) (q0 : Nat) {fs : List Value} (he : ws[q0]? = some (a, .inr (ci, fs))) (hc : vwCl[ci]? = some (C, T, N)) (k : Nat) (hk : k < N) (hlink : Cond.fieldLink own index ref (T k).2.1 (T k).2.2.1 ∈ Ts) (hsame : ref = (T k).1) (hfin : (T k).2.2.2 = true) (hin2 : meth.name = "<init>") (hdecl : (T k).1 = own) {v : Value} (hn : narrow (ty0 k) v = v) (hfit : fits (ty0 k) v = true) (hl : k < fs.length) (hdg : decode cc pc = .ok (.putfield index, 3)) {ws2 : va_W} (hws : ws.set q0 (a, .inr (ci, fs.set k v)) = ws2)
    (kk : ∀ (H1 : Heap) (locs1 : List Loc), zC G c3 A s ws2 H1 locs1 → W p l e R s m args below meth c H1 locs1 cells slots Q (F0 m (pc + 3) ls rest)) : W p l e R s m args below meth c H locs cells slots Q (F0 m pc ls (v :: .ref a :: rest)) := by
  subst hws
  exact va_putF S.1 S.2.1 S.2.2.2.2 hin ty0 hty hnm S.2.2.2.1 hC.1.1 hC.2.1 hC.2.2.1 hC.2.2.2.1 q0 he hc k hk (S.2.2.2.2 _ hlink) (fun _ h => by rw [hsame]; exact h) hfin hin2 hdecl (hty k hk) hn hfit hl hdg (fun H1 locs1 hP hD hS => kk H1 locs1 ⟨hC.1, hP, hD, hS, hC.2.2.2.2⟩)
theorem zi_iast (S : CallFix p m c cc nL s args Ts own) (hC : zC G c3 A s ws H locs) (q0 : Nat) {n : Nat} {f g : Nat → Int32} {i x : Int32} (ha : ws[q0]? = some (a, .inl (c3.1, n, .inl f))) (hx : zast n f i x = some g) (hdg : decode cc pc = .ok (.iastore, 1)) {ws2 : va_W} (hws : ws.set q0 (a, .inl (c3.1, n, .inl g)) = ws2)
    (kk : ∀ (H1 : Heap) (locs1 : List Loc), zC G c3 A s ws2 H1 locs1 → W p l e R s m args below meth c H1 locs1 cells slots Q (F0 m (pc + 1) ls rest)) : W p l e R s m args below meth c H locs cells slots Q (F0 m pc ls (.int x :: .int i :: .ref a :: rest)) := by
  obtain ⟨h1, rfl⟩ := zast_spec hx
  subst hws
  exact va_iast S.1 S.2.1 hC.1.1 hC.2.1 hC.2.2.1 hC.2.2.2.1 q0 0 ha rfl h1 hdg (fun H1 locs1 hP hD hS => kk H1 locs1 ⟨hC.1, hP, hD, hS, hC.2.2.2.2⟩)
theorem zi_obj (S : CallFix p m c cc nL s args Ts own) (hsz : ls.size = nL) {idx : Nat} (hlink : Cond.methodLink own idx objectInit ∈ Ts) (hinst : Cond.instanceMethod objectInit ∈ Ts) (hcode : Cond.code objectInit ⟨#[0xb1]⟩ 1 none ∈ Ts) (hframes : 1 ≤ R.frames) (hlocals : (rest.map fun v => v.category).sum + 12 ≤ R.locals) (hdg : decode cc pc = .ok (.invokespecial idx, 3))
    (kk : W p l e R s m args below meth c H locs cells slots Q (F0 m (pc + 3) ls rest)) : W p l e R s m args below meth c H locs cells slots Q (F0 m pc ls (.ref a :: rest)) :=
  W.objInit S.1 S.2.1 S.2.2.2.1 (S.2.2.2.2 _ hlink) (S.2.2.2.2 _ hinst) (S.2.2.2.2 _ hcode) rfl (hsz.trans S.2.2.1.symm) rfl hdg hframes (by show 2 * 0 + _ + 12 ≤ _; omega) kk
theorem zi_newa (S : CallFix p m c cc nL s args Ts own) (hC : zC G c3 A s ws H locs) {atype : ArrayType} {ty : FieldType} (hty : newarray.typeOf atype = ty) (harr : Cond.arrayClass ty ∈ Ts) {cX : ClassId} (t0 : Nat) (ht0 : (zty c3)[t0]? = some (cX, ty)) (hRA : ∀ (U : State) (cA : ClassId), va_RA U cA ty → U.vm.findClass ("[" ++ ty.toString) = some cA) {n : Int32} {N : Nat} (hn : ¬ n < 0) (hN : n.toNatClampNeg = N) (hdef : defaultValue ty = .int 0) (hbytes : N * componentBytes ty ≤ 536870912) (hcells : cells + 1 ≤ R.cells) (hslots : slots + N ≤ R.slots) (hdg : decode cc pc = .ok (.newarray atype, 2))
    (kk : ∀ (q : Nat) (H1 : Heap), zC G c3 A s (ws ++ [(q, .inl (cX, N, .inl (fun _ => 0)))]) H1 locs → W p l e R s m args below meth c H1 locs (cells + 1) (slots + N) Q (F0 m (pc + 2) ls (.ref q :: rest))) : W p l e R s m args below meth c H locs cells slots Q (F0 m pc ls (.int n :: rest)) := by
  subst hty
  refine va_newa S.1 S.2.1 (S.2.2.2.2 _ harr) rfl hC.1.1 hC.2.1 hC.2.2.1 hC.2.2.2.1 hC.2.2.2.2 (a0 := (N, .inl (fun _ => 0))) (fun cA => by rw [vp_cell_i, hdef]) hn hN hbytes hcells hslots hdg (fun q cA H1 hK hP hD hS => ?_)
  have e1 := hRA s cA (hK.2 3 (cA, _) rfl).2
  have e2 := hRA s cX (hC.1.1.2 t0 (cX, _) ht0).2
  have e : cA = cX := Option.some.inj (e1.symm.trans e2)
  subst e
  exact kk q H1 ⟨hC.1, hP, hD, hS, hC.2.2.2.2⟩
theorem zi_new (S : CallFix p m c cc nL s args Ts own) (hC : zC G c3 A s ws H locs) {C : String} {T : u_T} {N ci index : Nat} (hin : ∀ w ∈ u_ws C T N, w ∈ Ts) (ty : Nat → FieldType) (hty : ∀ k, k < N → parseFieldDescriptor (T k).2.2.1 = some (ty k)) (hcl : Cond.classLink own index C ∈ Ts) (hinst : Cond.instantiable C N ∈ Ts) (hini : Cond.initialized C ∈ Ts) (hc : vwCl[ci]? = some (C, T, N)) {fs : List Value} (hfs : ∀ j, j < N → defaultValue (ty j) = vp_V fs j) (hcells : cells + 1 ≤ R.cells) (hslots : slots + N ≤ R.slots) (hdg : decode cc pc = .ok (.new index, 3))
    (kk : ∀ (q : Nat) (H1 : Heap), zC G c3 A s (ws ++ [(q, .inr (ci, fs))]) H1 locs → W p l e R s m args below meth c H1 locs (cells + 1) (slots + N) Q (F0 m (pc + 3) ls (.ref q :: rest))) : W p l e R s m args below meth c H locs cells slots Q (F0 m pc ls rest) :=
  va_new S.1 S.2.1 S.2.2.2.2 hin ty hty S.2.2.2.1 (S.2.2.2.2 _ hcl) (S.2.2.2.2 _ hinst) (S.2.2.2.2 _ hini) hC.1.1 hC.2.1 hC.2.2.1 hC.2.2.2.1 hC.2.2.2.2 hc hfs hcells hslots hdg (fun q H1 hP hD hS => kk q H1 ⟨hC.1, hP, hD, hS, hC.2.2.2.2⟩)
theorem zi_call {P : va_W → Prop} {mc ms : Nat} {wc wr : va_W} {aa : Array Value} (hr : va_Run p l e R s m args below meth c H locs cells slots mc ms (F0 m pc ls st0) rest (zPostN G P (va_A wc H.size) aa) (va_A wc H.size)) (hC : zC G c3 A s ws H locs) (isC isR : List Nat)
    (hc : isC.map (fun i => ws[i]?) = wc.map some) (hR : isR.map (fun i => ws[i]?) = wr.map some) (hn : va_nd isR = true) (hdis : ∀ i ∈ isR, i ∉ isC)
    (kk : ∀ (w1 : va_W) (H1 : Heap) (locs1 : List Loc), P w1 → zC G c3 A s (wr ++ w1) H1 locs1 → W p l e R s m args below meth c H1 locs1 (cells + mc) (slots + ms) Q (F0 m (pc + 3) ls rest)) : W p l e R s m args below meth c H locs cells slots Q (F0 m pc ls st0) := by
  obtain ⟨hK, hP, hD, hS, hA⟩ := hC
  have hFc : ∀ q, va_A wc H.size q → A q := va_free hD hS hA isC hc
  intro T hT X
  obtain ⟨v, st₀, t, T', L, h0, X', hL, e1, e2, ⟨⟨hv, w1, hp1, hP1, hD1⟩, hz, hk⟩, st⟩ := hr T hT X
  cases hv
  rw [h0] at hz hk
  rw [← e1] at hz hk hP1
  obtain ⟨hP2, hD2⟩ := va_join (wr := wr) (w1 := w1) hP hD isC isR hc hR hn hdis hk hFc hP1 hD1
  obtain ⟨t2, a1, b1⟩ := kk w1 T'.heap (locs ++ L) hp1 ⟨hK, hP2, hD2, ⟨Nat.le_trans hS.1 hz, fun q h1 h2 => by rw [hk q (Nat.lt_of_lt_of_le h1 hS.1) (fun z => h2 (hFc q z))]; exact hS.2.1 q h1 h2, fun q hq => by
      rcases List.mem_append.mp hq with h | h
      · exact hS.2.2 q h
      · exact hFc _ (hL q h)⟩, hA⟩ T' rfl X'
  exact ⟨t2, st t2 a1, b1⟩
theorem zC.preN {ws wc : va_W} (h : zC G c3 A s ws H locs) (hN : zNM s) (isC : List Nat) (hn : va_nd isC = true) (hc : isC.map (fun i => ws[i]?) = wc.map some) {av : List Value} (U : State) (hU : U.heap = H) (hW : s.WarmedH U.vm) : zPreN G c3 wc H.size av av.toArray U := by
  obtain ⟨h1, h2, h3, h4, h5⟩ := h.pre isC hn hc (av := av) U hU hW
  exact ⟨h1, h2, h3, h4, h5, hN.warm hW⟩
theorem zi_runI {y : MethodName} {bytes : ByteArray} {maxL n index mc ms : Nat} {wsy wsy' : List Cond} {rm : Room} {wc : va_W} {P : va_W → Prop} {b : Addr} {As : List Value}
    (S : CallFix p m c cc nL s args Ts own) (hC : zC G c3 A s ws H locs) (hN : zNM s) (hM : zMn l y wsy rm G c3 wc (.ref b :: As) P mc ms) (isC : List Nat) (hn0 : va_nd isC = true) (hc : isC.map (fun i => ws[i]?) = wc.map some)
    (hG : GoodIn Ts wsy) (hw : wsy = Cond.code y bytes maxL none :: wsy') (hrc : rm.cells = mc) (hrs : rm.slots = ms) (hini : Cond.initialized y.cls ∈ Ts) (hl : Cond.methodLink own index y ∈ Ts) (hin : Cond.instanceMethod y ∈ Ts) (hy1 : y.name = "<init>")
    (hd : y.cls ≠ "java/lang/invoke/MethodHandle" ∧ y.cls ≠ "java/lang/invoke/VarHandle" ∧ (parseMethodDescriptor y.desc).map (fun d => d.parameters.length) = some n) (hRm : rm.frames + 1 ≤ R.frames ∧ 8 + (maxL + 11) + rm.locals ≤ R.locals)
    (hn : As.length = n) (hsize : ls.size = nL) (hstack : st0 = As.reverse ++ .ref b :: rest) (hW : (rest.map fun v => v.category).sum ≤ 8) (hdg : decode cc pc = .ok (.invokespecial index, 3)) (hf : cells + mc ≤ R.cells ∧ slots + ms ≤ R.slots) :
    va_Run p l e R s m args below meth c H locs cells slots mc ms (F0 m pc ls st0) rest (zPostN G P (va_A wc H.size) (Value.ref b :: As).toArray) (va_A wc H.size) :=
  va_runI S (hM H.size) (cwI n S.2.2.2.2 hG hw hrc hrs (S.2.2.2.2 _ hini) (S.2.2.2.2 _ hl) (S.2.2.2.2 _ hin) hy1 hd hRm) ⟨zPreN.blind, fun U hU hW1 => hC.preN hN isC hn0 hc U hU hW1⟩ rfl hn hsize hstack (lv_room hW) hdg hf
theorem zi_runIN {y : MethodName} {host : String} {bytes : ByteArray} {maxL n index mc ms : Nat} {wsy wsy' : List Cond} {rm : Room} {wc : va_W} {P : va_W → Prop} {b : Addr} {As : List Value}
    (S : CallFix p m c cc nL s args Ts own) (hC : zC G c3 A s ws H locs) (hN : zNM s) (hM : zMn l y wsy rm G c3 wc (.ref b :: As) P mc ms) (isC : List Nat) (hn0 : va_nd isC = true) (hc : isC.map (fun i => ws[i]?) = wc.map some)
    (hG : GoodIn Ts wsy) (hw : wsy = Cond.code y bytes maxL none :: wsy') (hrc : rm.cells = mc) (hrs : rm.slots = ms) (hini : Cond.initialized y.cls ∈ Ts) (hl : va_Nw (.methodLinkNest own index y host) s) (hin : Cond.instanceMethod y ∈ Ts) (hy1 : y.name = "<init>")
    (hd : y.cls ≠ "java/lang/invoke/MethodHandle" ∧ y.cls ≠ "java/lang/invoke/VarHandle" ∧ (parseMethodDescriptor y.desc).map (fun d => d.parameters.length) = some n) (hRm : rm.frames + 1 ≤ R.frames ∧ 8 + (maxL + 11) + rm.locals ≤ R.locals)
    (hn : As.length = n) (hsize : ls.size = nL) (hstack : st0 = As.reverse ++ .ref b :: rest) (hW : (rest.map fun v => v.category).sum ≤ 8) (hdg : decode cc pc = .ok (.invokespecial index, 3)) (hf : cells + mc ≤ R.cells ∧ slots + ms ≤ R.slots) :
    va_Run p l e R s m args below meth c H locs cells slots mc ms (F0 m pc ls st0) rest (zPostN G P (va_A wc H.size) (Value.ref b :: As).toArray) (va_A wc H.size) :=
  va_runIN S (hM H.size) ⟨va_cnB n S.2.2.2.2 hG hw hrc hrs hl (S.2.2.2.2 _ hini) hd hRm, hy1, S.2.2.2.2 _ hin⟩ ⟨zPreN.blind, fun U hU hW1 => hC.preN hN isC hn0 hc U hU hW1⟩ rfl hn hsize hstack (lv_room hW) hdg hf
/-- a virtual call of a method that makes no cells, out of a frame that has made some -/
theorem zi_runV {y : MethodName} {bytes : ByteArray} {maxL n index : Nat} {ret : Option FieldType} {wsy wsy' : List Cond} {rm : Room} {wc w1 : va_W} {rv : Option Value} {b : Addr} {As : List Value}
    (S : CallFix p m c cc nL s args Ts own) (hC : zC G c3 A s ws H locs) (hM : zM l y wsy rm G c3 wc (.ref b :: As) rv w1) (isC : List Nat) (hn0 : va_nd isC = true) (hc : isC.map (fun i => ws[i]?) = wc.map some)
    (hG : GoodIn Ts (wsV own index y.cls y wsy)) (hw : wsy = Cond.code y bytes maxL ret :: wsy') (hrc : rm.cells = 0) (hrs : rm.slots = 0)
    (hd : y.cls ≠ "java/lang/invoke/MethodHandle" ∧ y.cls ≠ "java/lang/invoke/VarHandle" ∧ (parseMethodDescriptor y.desc).map (fun d => d.parameters.length) = some n) (hRm : rm.frames + 1 ≤ R.frames ∧ 8 + (maxL + 11) + rm.locals ≤ R.locals)
    {ci q0 : Nat} {T : u_T} {N : Nat} {fs : List Value} (hci : vwCl[ci]? = some (y.cls, T, N)) (he : ws[q0]? = some (b, .inr (ci, fs)))
    (hn : As.length = n) (hsize : ls.size = nL) (hstack : st0 = As.reverse ++ .ref b :: rest) (hW : (rest.map fun v => v.category).sum ≤ 8) (hdg : decode cc pc = .ok (.invokevirtual index, 3)) (hf : cells + 0 ≤ R.cells ∧ slots + 0 ≤ R.slots) :
    va_Run p l e R s m args below meth c H locs cells slots 0 0 (F0 m pc ls st0) rest (zPost G w1 rv (va_A wc H.size) (Value.ref b :: As).toArray) (va_A wc H.size) :=
  va_runV S (hM H.size) (cwV n S.2.2.2.2 hG hw hrc hrs ⟨rfl, hd⟩ hRm) ⟨zPre.blind, va_recv hC.1.1 hC.2.1 hci he, fun U hU hW1 => hC.pre isC hn0 hc U hU hW1⟩ rfl hn hsize hstack (lv_room hW) hdg hf
theorem zi_callM {rv : Option Value} {wc wr w1 ws2 : va_W} {aa : Array Value} (hr : va_Run p l e R s m args below meth c H locs cells slots 0 0 (F0 m pc ls st0) rest (zPost G w1 rv (va_A wc H.size) aa) (va_A wc H.size)) (hC : zC G c3 A s ws H locs) (isC isR perm : List Nat)
    (hc : isC.map (fun i => ws[i]?) = wc.map some) (hR : isR.map (fun i => ws[i]?) = wr.map some) (hn : va_nd isR = true) (hdis : ∀ i ∈ isR, i ∉ isC) (hp : perm.map (fun i => (wr ++ w1)[i]?) = ws2.map some) (hnp : va_nd perm = true)
    (kk : ∀ (H1 : Heap) (locs1 : List Loc), zC G c3 A s ws2 H1 locs1 → W p l e R s m args below meth c H1 locs1 cells slots Q (F0 m (pc + 3) ls (rv.toList ++ rest))) : W p l e R s m args below meth c H locs cells slots Q (F0 m pc ls st0) := by
  obtain ⟨hK, hP, hD, hS, hA⟩ := hC
  have hFc : ∀ q, va_A wc H.size q → A q := va_free hD hS hA isC hc
  intro T hT X
  obtain ⟨v, st₀, t, T', L, h0, X', hL, e1, e2, ⟨⟨hv, hP1, hD1⟩, hz, hk⟩, st⟩ := hr T hT X
  cases hv
  rw [h0] at hz hk
  rw [← e1] at hz hk hP1
  obtain ⟨hP2, hD2⟩ := va_join (wr := wr) (w1 := w1) hP hD isC isR hc hR hn hdis hk hFc hP1 hD1
  have hP3 : va_P G vwCl ws2 T'.heap := by
    intro k q hq
    have h1 : (perm.map (fun i => (wr ++ w1)[i]?))[k]? = some (some q) := by rw [hp, List.getElem?_map, hq]; rfl
    rw [List.getElem?_map] at h1
    cases hi : perm[k]? with
    | none => rw [hi] at h1; cases h1
    | some i => rw [hi] at h1; exact hP2 i q (Option.some.inj h1)
  obtain ⟨t2, a1, b1⟩ := kk T'.heap (locs ++ L) ⟨hK, hP3, hD2.sub perm hnp hp, ⟨Nat.le_trans hS.1 hz, fun q h1 h2 => by rw [hk q (Nat.lt_of_lt_of_le h1 hS.1) (fun z => h2 (hFc q z))]; exact hS.2.1 q h1 h2, fun q hq => by
      rcases List.mem_append.mp hq with h | h
      · exact hS.2.2 q h
      · exact hFc _ (hL q h)⟩, hA⟩ T' rfl X'
  exact ⟨t2, st t2 a1, b1⟩
theorem zi_vret {P : va_W → Prop} (S : CallFix p m c cc nL s args Ts own) (hr : meth.sig.returnType = none) (hlk : meth.locks = false) (hC : ∃ WS1 : va_W, P WS1 ∧ zC G c3 A s WS1 H locs) (hdg : decode cc pc = .ok (.return_, 1)) : W p l e R s m args below meth c H locs cells slots (MQ below (zPostN G P A) args s cells slots A) (F0 m pc ls []) := by
  obtain ⟨WS1, hP, hC⟩ := hC
  exact W.vret S.1 S.2.1 hr (fun t ht hW => ⟨⟨rfl, WS1, hP, by rw [ht]; exact hC.2.1, hC.2.2.1⟩, hC.2.2.2.1.F ht⟩) hC.2.2.2.1.2.2 hdg hlk
end ZIROWS
theorem kX4_init_1 : Cond.methodLink RX4 1 objectInit ∈ wsX4_init := by decide +kernel
theorem kX4_init_oi : Cond.instanceMethod objectInit ∈ wsX4_init := by decide +kernel
theorem kX4_init_oc : Cond.code objectInit ⟨#[0xb1]⟩ 1 none ∈ wsX4_init := by decide +kernel
theorem kX4_init_7 : Cond.fieldLink RX4 7 "ZoneSampler$Table" "width" "I" ∈ wsX4_init := by decide +kernel
theorem kX4_init_arint : Cond.arrayClass .int ∈ wsX4_init := by decide +kernel
theorem kX4_init_13 : Cond.fieldLink RX4 13 "ZoneSampler$Table" "cells" "[I" ∈ wsX4_init := by decide +kernel
theorem jX4_init_X4 : ∀ w ∈ u_ws RX4 TX4 3, w ∈ wsX4_init := by decide +kernel
set_option maxHeartbeats 4000000 in
set_option maxRecDepth 100000 in
theorem c_X4_init_70 (l : Launch) (G : va_G) (c3 : zT3) (h0 : Nat) : zMn l yX4_init wsX4_init ⟨1, 1, 70, 12⟩ G c3 [(h0, .inr (4, [.int 0, .null, .int 0]))] [.ref h0, .int 10, .int 7] (fun w => ∃ q : Nat, w = zwT c3.1 70 (h0, q) (0, fun _ => 0)) 1 70 := by
  refine zMn.of (cc := cX4_init) (maxL := 3) (by decide) rfl rfl (Nat.le_of_ble_eq_true rfl) ?_
  intro p e s m args below meth c A ls S0 hr hlk hin hN hC hl
  have S0 : CallFix p m c cX4_init 3 s args wsX4_init RX4 := S0
  have hl : lv_has ls 3 [(0, .ref h0), (1, .int 10), (2, .int 7)] := hl
  have hx := S0.1
  have hb := S0.2.1
  obtain ⟨H, hH⟩ : ∃ y, y = s.heap := ⟨_, rfl⟩
  rw [← hH] at hC ⊢
  obtain ⟨locs, hlo⟩ : ∃ y : List Loc, y = [] := ⟨_, rfl⟩
  rw [← hlo] at hC ⊢
  clear hH hlo
  refine lv_aload_n hx hb dX4_init_0 rfl (lv_at hl 0 rfl) ?_
  refine zi_obj S0 hl.1 kX4_init_1 kX4_init_oi kX4_init_oc (Nat.le_of_ble_eq_true rfl) (Nat.le_of_ble_eq_true rfl) dX4_init_1 ?_
  refine lv_aload_n hx hb dX4_init_4 rfl (lv_at hl 0 rfl) ?_
  refine lv_iload_n hx hb dX4_init_5 rfl (lv_at hl 2 rfl) ?_
  refine lv_if_le (tgt := 13) hx hb dX4_init_6 (by decide) (fun cd => absurd cd (by decide)) (fun _ => ?_)
  refine lv_iload_n hx hb dX4_init_9 rfl (lv_at hl 2 rfl) ?_
  refine lv_goto (tgt := 14) hx hb dX4_init_10 (by decide) ?_
  refine zi_putF S0 hC (ci := 4) (C := RX4) (T := TX4) (N := 3) (v := .int 7) jX4_init_X4 tyX4 tyX4_ok nmX4 0 rfl rfl 0 (by decide) kX4_init_7 rfl rfl hin rfl rfl rfl (Nat.le_of_ble_eq_true rfl) dX4_init_14 (ws2 := ([(h0, .inr (4, [.int 7, .null, .int 0]))] : va_W)) rfl (fun H locs hC => ?_)
  refine lv_aload_n hx hb dX4_init_17 rfl (lv_at hl 0 rfl) ?_
  refine lv_iload_n hx hb dX4_init_18 rfl (lv_at hl 1 rfl) ?_
  refine lv_if_le (tgt := 31) hx hb dX4_init_19 (by decide) (fun cd => absurd cd (by decide)) (fun _ => ?_)
  refine lv_iload_n hx hb dX4_init_22 rfl (lv_at hl 1 rfl) ?_
  refine lv_aload_n hx hb dX4_init_23 rfl (lv_at hl 0 rfl) ?_
  refine zi_get S0 hC (ci := 4) (C := RX4) (T := TX4) (N := 3) (v := .int 7) jX4_init_X4 0 rfl rfl 0 (by decide) kX4_init_7 rfl rfl dX4_init_24 ?_
  refine lv_imul hx hb dX4_init_27 ?_
  refine lv_goto (tgt := 32) hx hb dX4_init_28 (by decide) ?_
  refine zi_newa S0 hC (atype := .int) (ty := .int) rfl kX4_init_arint 0 rfl (fun _ _ h => h) (N := 70) (by decide) (by decide) rfl (Nat.le_of_ble_eq_true rfl) (Nat.le_of_ble_eq_true rfl) (Nat.le_of_ble_eq_true rfl) dX4_init_32 (fun q H hC => ?_)
  refine W.widen (k := 1) (n := 70) (Nat.le_of_ble_eq_true rfl) (Nat.le_of_ble_eq_true rfl) ?_
  have hC : zC G c3 A s ([(h0, .inr (4, [.int 7, .null, .int 0]))] ++ [(q, .inl (c3.1, 70, .inl (fun _ => 0)))]) H locs := hC
  refine zi_putF S0 hC (ci := 4) (C := RX4) (T := TX4) (N := 3) (v := .ref q) jX4_init_X4 tyX4 tyX4_ok nmX4 0 rfl rfl 1 (by decide) kX4_init_13 rfl rfl hin rfl rfl rfl (Nat.le_of_ble_eq_true rfl) dX4_init_34 (ws2 := ([(h0, .inr (4, [.int 7, .ref q, .int 0]))] ++ [(q, .inl (c3.1, 70, .inl (fun _ => 0)))])) rfl (fun H locs hC => ?_)
  exact zi_vret S0 hr hlk ⟨_, ⟨q, rfl⟩, hC⟩ dX4_init_37
set_option maxHeartbeats 4000000 in
set_option maxRecDepth 100000 in
theorem c_X4_init_56 (l : Launch) (G : va_G) (c3 : zT3) (h0 : Nat) : zMn l yX4_init wsX4_init ⟨1, 1, 56, 12⟩ G c3 [(h0, .inr (4, [.int 0, .null, .int 0]))] [.ref h0, .int 8, .int 7] (fun w => ∃ q : Nat, w = zwT c3.1 56 (h0, q) (0, fun _ => 0)) 1 56 := by
  refine zMn.of (cc := cX4_init) (maxL := 3) (by decide) rfl rfl (Nat.le_of_ble_eq_true rfl) ?_
  intro p e s m args below meth c A ls S0 hr hlk hin hN hC hl
  have S0 : CallFix p m c cX4_init 3 s args wsX4_init RX4 := S0
  have hl : lv_has ls 3 [(0, .ref h0), (1, .int 8), (2, .int 7)] := hl
  have hx := S0.1
  have hb := S0.2.1
  obtain ⟨H, hH⟩ : ∃ y, y = s.heap := ⟨_, rfl⟩
  rw [← hH] at hC ⊢
  obtain ⟨locs, hlo⟩ : ∃ y : List Loc, y = [] := ⟨_, rfl⟩
  rw [← hlo] at hC ⊢
  clear hH hlo
  refine lv_aload_n hx hb dX4_init_0 rfl (lv_at hl 0 rfl) ?_
  refine zi_obj S0 hl.1 kX4_init_1 kX4_init_oi kX4_init_oc (Nat.le_of_ble_eq_true rfl) (Nat.le_of_ble_eq_true rfl) dX4_init_1 ?_
  refine lv_aload_n hx hb dX4_init_4 rfl (lv_at hl 0 rfl) ?_
  refine lv_iload_n hx hb dX4_init_5 rfl (lv_at hl 2 rfl) ?_
  refine lv_if_le (tgt := 13) hx hb dX4_init_6 (by decide) (fun cd => absurd cd (by decide)) (fun _ => ?_)
  refine lv_iload_n hx hb dX4_init_9 rfl (lv_at hl 2 rfl) ?_
  refine lv_goto (tgt := 14) hx hb dX4_init_10 (by decide) ?_
  refine zi_putF S0 hC (ci := 4) (C := RX4) (T := TX4) (N := 3) (v := .int 7) jX4_init_X4 tyX4 tyX4_ok nmX4 0 rfl rfl 0 (by decide) kX4_init_7 rfl rfl hin rfl rfl rfl (Nat.le_of_ble_eq_true rfl) dX4_init_14 (ws2 := ([(h0, .inr (4, [.int 7, .null, .int 0]))] : va_W)) rfl (fun H locs hC => ?_)
  refine lv_aload_n hx hb dX4_init_17 rfl (lv_at hl 0 rfl) ?_
  refine lv_iload_n hx hb dX4_init_18 rfl (lv_at hl 1 rfl) ?_
  refine lv_if_le (tgt := 31) hx hb dX4_init_19 (by decide) (fun cd => absurd cd (by decide)) (fun _ => ?_)
  refine lv_iload_n hx hb dX4_init_22 rfl (lv_at hl 1 rfl) ?_
  refine lv_aload_n hx hb dX4_init_23 rfl (lv_at hl 0 rfl) ?_
  refine zi_get S0 hC (ci := 4) (C := RX4) (T := TX4) (N := 3) (v := .int 7) jX4_init_X4 0 rfl rfl 0 (by decide) kX4_init_7 rfl rfl dX4_init_24 ?_
  refine lv_imul hx hb dX4_init_27 ?_
  refine lv_goto (tgt := 32) hx hb dX4_init_28 (by decide) ?_
  refine zi_newa S0 hC (atype := .int) (ty := .int) rfl kX4_init_arint 0 rfl (fun _ _ h => h) (N := 56) (by decide) (by decide) rfl (Nat.le_of_ble_eq_true rfl) (Nat.le_of_ble_eq_true rfl) (Nat.le_of_ble_eq_true rfl) dX4_init_32 (fun q H hC => ?_)
  refine W.widen (k := 1) (n := 56) (Nat.le_of_ble_eq_true rfl) (Nat.le_of_ble_eq_true rfl) ?_
  have hC : zC G c3 A s ([(h0, .inr (4, [.int 7, .null, .int 0]))] ++ [(q, .inl (c3.1, 56, .inl (fun _ => 0)))]) H locs := hC
  refine zi_putF S0 hC (ci := 4) (C := RX4) (T := TX4) (N := 3) (v := .ref q) jX4_init_X4 tyX4 tyX4_ok nmX4 0 rfl rfl 1 (by decide) kX4_init_13 rfl rfl hin rfl rfl rfl (Nat.le_of_ble_eq_true rfl) dX4_init_34 (ws2 := ([(h0, .inr (4, [.int 7, .ref q, .int 0]))] ++ [(q, .inl (c3.1, 56, .inl (fun _ => 0)))])) rfl (fun H locs hC => ?_)
  exact zi_vret S0 hr hlk ⟨_, ⟨q, rfl⟩, hC⟩ dX4_init_37
theorem kX2_init_3 : Cond.methodLink RX2 3 objectInit ∈ wsX2_init := by decide +kernel
theorem kX2_init_oi : Cond.instanceMethod objectInit ∈ wsX2_init := by decide +kernel
theorem kX2_init_oc : Cond.code objectInit ⟨#[0xb1]⟩ 1 none ∈ wsX2_init := by decide +kernel
theorem kX2_init_c9 : Cond.classLink RX2 9 RX4 ∈ wsX2_init := by decide +kernel
theorem kX2_init_iX4 : Cond.instantiable RX4 3 ∈ wsX2_init := by decide +kernel
theorem kX2_init_nX4 : Cond.initialized RX4 ∈ wsX2_init := by decide +kernel
theorem kX2_init_m11 : Cond.methodLink RX2 11 yX4_init ∈ wsX2_init := by decide +kernel
theorem kX2_init_imX4 : Cond.instanceMethod yX4_init ∈ wsX2_init := by decide +kernel
theorem kX2_init_14 : Cond.fieldLink RX2 14 "ZoneSampler$State" "zones" "LZoneSampler$Table;" ∈ wsX2_init := by decide +kernel
theorem kX2_init_20 : Cond.fieldLink RX2 20 "ZoneSampler$State" "voices" "LZoneSampler$Table;" ∈ wsX2_init := by decide +kernel
theorem kX2_init_arint : Cond.arrayClass .int ∈ wsX2_init := by decide +kernel
theorem kX2_init_23 : Cond.fieldLink RX2 23 "ZoneSampler$State" "numbers" "[I" ∈ wsX2_init := by decide +kernel
theorem jX2_init_X2 : ∀ w ∈ u_ws RX2 TX2 5, w ∈ wsX2_init := by decide +kernel
theorem jX2_init_X4 : ∀ w ∈ u_ws RX4 TX4 3, w ∈ wsX2_init := by decide +kernel
set_option maxHeartbeats 4000000 in
set_option maxRecDepth 100000 in
theorem c_X2_init (l : Launch) (G : va_G) (c3 : zT3) (h0 : Nat) : zMn l yX2_init wsX2_init ⟨2, 5, 145, 34⟩ G c3 [(h0, .inr (2, [.null, .null, .null, .int 0, .int 0]))] [.ref h0] (fun w => ∃ o : zR6, o.1 = h0 ∧ w = zwS c3.1 o zS0) 5 145 := by
  refine zMn.of (cc := cX2_init) (maxL := 1) (by decide) rfl rfl (Nat.le_of_ble_eq_true rfl) ?_
  intro p e s m args below meth c A ls S0 hr hlk hin hN hC hl
  have S0 : CallFix p m c cX2_init 1 s args wsX2_init RX2 := S0
  have hl : lv_has ls 1 [(0, .ref h0)] := hl
  have hx := S0.1
  have hb := S0.2.1
  obtain ⟨H, hH⟩ : ∃ y, y = s.heap := ⟨_, rfl⟩
  rw [← hH] at hC ⊢
  obtain ⟨locs, hlo⟩ : ∃ y : List Loc, y = [] := ⟨_, rfl⟩
  rw [← hlo] at hC ⊢
  clear hH hlo
  refine lv_aload_n hx hb dX2_init_0 rfl (lv_at hl 0 rfl) ?_
  refine zi_obj S0 hl.1 kX2_init_3 kX2_init_oi kX2_init_oc (Nat.le_of_ble_eq_true rfl) (Nat.le_of_ble_eq_true rfl) dX2_init_1 ?_
  refine lv_aload_n hx hb dX2_init_4 rfl (lv_at hl 0 rfl) ?_
  refine zi_new S0 hC (ci := 4) (fs := [.int 0, .null, .int 0]) (C := RX4) (T := TX4) (N := 3) jX2_init_X4 tyX4 tyX4_ok kX2_init_c9 kX2_init_iX4 kX2_init_nX4 rfl (fun j hj => by rcases (show j = 0 ∨ j = 1 ∨ j = 2 by omega) with rfl | rfl | rfl <;> rfl) (Nat.le_of_ble_eq_true rfl) (Nat.le_of_ble_eq_true rfl) dX2_init_5 (fun q1 H hC => ?_)
  refine W.widen (k := 1) (n := 3) (Nat.le_of_ble_eq_true rfl) (Nat.le_of_ble_eq_true rfl) ?_
  have hC : zC G c3 A s ([(h0, .inr (2, [.null, .null, .null, .int 0, .int 0]))] ++ [(q1, .inr (4, [.int 0, .null, .int 0]))]) H locs := hC
  refine lv_dup hx hb dX2_init_8 rfl ?_
  refine lv_bipush (v := 10) hx hb dX2_init_9 (by decide) ?_
  refine lv_bipush (v := 7) hx hb dX2_init_11 (by decide) ?_
  refine zi_call (zi_runI (n := 2) (rest := [.ref q1, .ref h0]) (As := [.int 10, .int 7]) S0 hC hN (c_X4_init_70 l G c3 q1) [1] (by decide) rfl gX2_init_X4_init rfl rfl rfl kX2_init_nX4 kX2_init_m11 kX2_init_imX4 rfl (by decide +kernel) ⟨Nat.le_of_ble_eq_true rfl, Nat.le_of_ble_eq_true rfl⟩ rfl hl.1 rfl (Nat.le_of_ble_eq_true rfl) dX2_init_13 ⟨Nat.le_of_ble_eq_true rfl, Nat.le_of_ble_eq_true rfl⟩) hC [1] [0] rfl (wr := ([(h0, .inr (2, [.null, .null, .null, .int 0, .int 0]))] : va_W)) rfl (by decide) (by decide) (fun w1 H locs hP1 hC => ?_)
  obtain ⟨q2, rfl⟩ := hP1
  refine W.widen (k := 2) (n := 73) (Nat.le_of_ble_eq_true rfl) (Nat.le_of_ble_eq_true rfl) ?_
  have hC : zC G c3 A s ([(h0, .inr (2, [.null, .null, .null, .int 0, .int 0]))] ++ zwT c3.1 70 (q1, q2) (0, fun _ => 0)) H locs := hC
  refine zi_putF S0 hC (ci := 2) (C := RX2) (T := TX2) (N := 5) (v := .ref q1) jX2_init_X2 tyX2 tyX2_ok nmX2 0 rfl rfl 0 (by decide) kX2_init_14 rfl rfl hin rfl rfl rfl (Nat.le_of_ble_eq_true rfl) dX2_init_16 (ws2 := ([(h0, .inr (2, [.ref q1, .null, .null, .int 0, .int 0]))] ++ zwT c3.1 70 (q1, q2) (0, fun _ => 0))) rfl (fun H locs hC => ?_)
  refine lv_aload_n hx hb dX2_init_19 rfl (lv_at hl 0 rfl) ?_
  refine zi_new S0 hC (ci := 4) (fs := [.int 0, .null, .int 0]) (C := RX4) (T := TX4) (N := 3) jX2_init_X4 tyX4 tyX4_ok kX2_init_c9 kX2_init_iX4 kX2_init_nX4 rfl (fun j hj => by rcases (show j = 0 ∨ j = 1 ∨ j = 2 by omega) with rfl | rfl | rfl <;> rfl) (Nat.le_of_ble_eq_true rfl) (Nat.le_of_ble_eq_true rfl) dX2_init_20 (fun q3 H hC => ?_)
  refine W.widen (k := 3) (n := 76) (Nat.le_of_ble_eq_true rfl) (Nat.le_of_ble_eq_true rfl) ?_
  have hC : zC G c3 A s ([(h0, .inr (2, [.ref q1, .null, .null, .int 0, .int 0]))] ++ zwT c3.1 70 (q1, q2) (0, fun _ => 0) ++ [(q3, .inr (4, [.int 0, .null, .int 0]))]) H locs := hC
  refine lv_dup hx hb dX2_init_23 rfl ?_
  refine lv_bipush (v := 8) hx hb dX2_init_24 (by decide) ?_
  refine lv_bipush (v := 7) hx hb dX2_init_26 (by decide) ?_
  refine zi_call (zi_runI (n := 2) (rest := [.ref q3, .ref h0]) (As := [.int 8, .int 7]) S0 hC hN (c_X4_init_56 l G c3 q3) [3] (by decide) rfl gX2_init_X4_init rfl rfl rfl kX2_init_nX4 kX2_init_m11 kX2_init_imX4 rfl (by decide +kernel) ⟨Nat.le_of_ble_eq_true rfl, Nat.le_of_ble_eq_true rfl⟩ rfl hl.1 rfl (Nat.le_of_ble_eq_true rfl) dX2_init_28 ⟨Nat.le_of_ble_eq_true rfl, Nat.le_of_ble_eq_true rfl⟩) hC [3] [0, 1, 2] rfl (wr := ([(h0, .inr (2, [.ref q1, .null, .null, .int 0, .int 0]))] ++ zwT c3.1 70 (q1, q2) (0, fun _ => 0))) rfl (by decide) (by decide) (fun w1 H locs hP1 hC => ?_)
  obtain ⟨q4, rfl⟩ := hP1
  refine W.widen (k := 4) (n := 132) (Nat.le_of_ble_eq_true rfl) (Nat.le_of_ble_eq_true rfl) ?_
  have hC : zC G c3 A s ([(h0, .inr (2, [.ref q1, .null, .null, .int 0, .int 0]))] ++ zwT c3.1 70 (q1, q2) (0, fun _ => 0) ++ zwT c3.1 56 (q3, q4) (0, fun _ => 0)) H locs := hC
  refine zi_putF S0 hC (ci := 2) (C := RX2) (T := TX2) (N := 5) (v := .ref q3) jX2_init_X2 tyX2 tyX2_ok nmX2 0 rfl rfl 1 (by decide) kX2_init_20 rfl rfl hin rfl rfl rfl (Nat.le_of_ble_eq_true rfl) dX2_init_31 (ws2 := ([(h0, .inr (2, [.ref q1, .ref q3, .null, .int 0, .int 0]))] ++ zwT c3.1 70 (q1, q2) (0, fun _ => 0) ++ zwT c3.1 56 (q3, q4) (0, fun _ => 0))) rfl (fun H locs hC => ?_)
  refine lv_aload_n hx hb dX2_init_34 rfl (lv_at hl 0 rfl) ?_
  refine lv_bipush (v := 13) hx hb dX2_init_35 (by decide) ?_
  refine zi_newa S0 hC (atype := .int) (ty := .int) rfl kX2_init_arint 0 rfl (fun _ _ h => h) (N := 13) (by decide) (by decide) rfl (Nat.le_of_ble_eq_true rfl) (Nat.le_of_ble_eq_true rfl) (Nat.le_of_ble_eq_true rfl) dX2_init_37 (fun q5 H hC => ?_)
  refine W.widen (k := 5) (n := 145) (Nat.le_of_ble_eq_true rfl) (Nat.le_of_ble_eq_true rfl) ?_
  have hC : zC G c3 A s ([(h0, .inr (2, [.ref q1, .ref q3, .null, .int 0, .int 0]))] ++ zwT c3.1 70 (q1, q2) (0, fun _ => 0) ++ zwT c3.1 56 (q3, q4) (0, fun _ => 0) ++ [(q5, .inl (c3.1, 13, .inl (fun _ => 0)))]) H locs := hC
  refine zi_putF S0 hC (ci := 2) (C := RX2) (T := TX2) (N := 5) (v := .ref q5) jX2_init_X2 tyX2 tyX2_ok nmX2 0 rfl rfl 2 (by decide) kX2_init_23 rfl rfl hin rfl rfl rfl (Nat.le_of_ble_eq_true rfl) dX2_init_39 (ws2 := ([(h0, .inr (2, [.ref q1, .ref q3, .ref q5, .int 0, .int 0]))] ++ zwT c3.1 70 (q1, q2) (0, fun _ => 0) ++ zwT c3.1 56 (q3, q4) (0, fun _ => 0) ++ [(q5, .inl (c3.1, 13, .inl (fun _ => 0)))])) rfl (fun H locs hC => ?_)
  refine lv_aload_n hx hb dX2_init_42 rfl (lv_at hl 0 rfl) ?_
  refine lv_bipush (v := 6) hx hb dX2_init_43 (by decide) ?_
  refine lv_bipush (v := 6) hx hb dX2_init_45 (by decide) ?_
  have hput6 : f_X2_putNumber (fun _ => 0) 6 6 = some (upd (fun _ => 0) 6 6) := by
    have hz : zast 13 (fun _ => 0) 6 6 = some (upd (fun _ => 0) 6 6) := if_pos (by decide)
    unfold f_X2_putNumber
    rw [if_neg (by decide), if_neg (by decide), hz]
    rfl
  refine zi_callM (zi_runV (n := 2) (rest := []) (As := [.int 6, .int 6]) S0 hC (c_X2_putNumber l G c3 (h0, q5, (q1, q2), (q3, q4)) ((0, fun _ => 0), (0, fun _ => 0), (fun _ => 0), 0, 0) 6 6 (Snm' := (upd (fun _ => 0) 6 6)) hput6) [0, 5, 1, 2, 3, 4] (by decide) rfl gX2_init_X2_putNumber rfl rfl rfl (by decide +kernel) ⟨Nat.le_of_ble_eq_true rfl, Nat.le_of_ble_eq_true rfl⟩ (ci := 2) (q0 := 0) rfl rfl rfl hl.1 rfl (Nat.le_of_ble_eq_true rfl) dX2_init_47 ⟨Nat.le_of_ble_eq_true rfl, Nat.le_of_ble_eq_true rfl⟩) hC [0, 5, 1, 2, 3, 4] [] [0, 1, 2, 3, 4, 5] rfl (wr := ([] : va_W)) rfl (by decide) (by decide) (ws2 := zwS c3.1 (h0, q5, (q1, q2), (q3, q4)) ((0, fun _ => 0), (0, fun _ => 0), (upd (fun _ => 0) 6 6), 0, 0)) rfl (by decide) (fun H locs hC => ?_)
  refine lv_aload_n hx hb dX2_init_50 rfl (lv_at hl 0 rfl) ?_
  refine lv_bipush (v := 7) hx hb dX2_init_51 (by decide) ?_
  refine lv_iconst (v := 0) hx hb dX2_init_53 (by decide) ?_
  have hput7 : f_X2_putNumber (upd (fun _ => 0) 6 6) 7 0 = some (upd (upd (fun _ => 0) 6 6) 7 0) := by
    have hz : zast 13 (upd (fun _ => 0) 6 6) 7 0 = some (upd (upd (fun _ => 0) 6 6) 7 0) := if_pos (by decide)
    unfold f_X2_putNumber
    rw [if_neg (by decide), if_neg (by decide), hz]
    rfl
  refine zi_callM (zi_runV (n := 2) (rest := []) (As := [.int 7, .int 0]) S0 hC (c_X2_putNumber l G c3 (h0, q5, (q1, q2), (q3, q4)) ((0, fun _ => 0), (0, fun _ => 0), (upd (fun _ => 0) 6 6), 0, 0) 7 0 (Snm' := (upd (upd (fun _ => 0) 6 6) 7 0)) hput7) [0, 1, 2, 3, 4, 5] (by decide) rfl gX2_init_X2_putNumber rfl rfl rfl (by decide +kernel) ⟨Nat.le_of_ble_eq_true rfl, Nat.le_of_ble_eq_true rfl⟩ (ci := 2) (q0 := 0) rfl rfl rfl hl.1 rfl (Nat.le_of_ble_eq_true rfl) dX2_init_54 ⟨Nat.le_of_ble_eq_true rfl, Nat.le_of_ble_eq_true rfl⟩) hC [0, 1, 2, 3, 4, 5] [] [0, 1, 2, 3, 4, 5] rfl (wr := ([] : va_W)) rfl (by decide) (by decide) (ws2 := zwS c3.1 (h0, q5, (q1, q2), (q3, q4)) ((0, fun _ => 0), (0, fun _ => 0), (upd (upd (fun _ => 0) 6 6) 7 0), 0, 0)) rfl (by decide) (fun H locs hC => ?_)
  refine lv_aload_n hx hb dX2_init_57 rfl (lv_at hl 0 rfl) ?_
  refine lv_bipush (v := 8) hx hb dX2_init_58 (by decide) ?_
  refine lv_bipush (v := 10) hx hb dX2_init_60 (by decide) ?_
  have hput8 : f_X2_putNumber (upd (upd (fun _ => 0) 6 6) 7 0) 8 10 = some (upd (upd (upd (fun _ => 0) 6 6) 7 0) 8 10) := by
    have hz : zast 13 (upd (upd (fun _ => 0) 6 6) 7 0) 8 10 = some (upd (upd (upd (fun _ => 0) 6 6) 7 0) 8 10) := if_pos (by decide)
    unfold f_X2_putNumber
    rw [if_neg (by decide), if_neg (by decide), hz]
    rfl
  refine zi_callM (zi_runV (n := 2) (rest := []) (As := [.int 8, .int 10]) S0 hC (c_X2_putNumber l G c3 (h0, q5, (q1, q2), (q3, q4)) ((0, fun _ => 0), (0, fun _ => 0), (upd (upd (fun _ => 0) 6 6) 7 0), 0, 0) 8 10 (Snm' := (upd (upd (upd (fun _ => 0) 6 6) 7 0) 8 10)) hput8) [0, 1, 2, 3, 4, 5] (by decide) rfl gX2_init_X2_putNumber rfl rfl rfl (by decide +kernel) ⟨Nat.le_of_ble_eq_true rfl, Nat.le_of_ble_eq_true rfl⟩ (ci := 2) (q0 := 0) rfl rfl rfl hl.1 rfl (Nat.le_of_ble_eq_true rfl) dX2_init_62 ⟨Nat.le_of_ble_eq_true rfl, Nat.le_of_ble_eq_true rfl⟩) hC [0, 1, 2, 3, 4, 5] [] [0, 1, 2, 3, 4, 5] rfl (wr := ([] : va_W)) rfl (by decide) (by decide) (ws2 := zwS c3.1 (h0, q5, (q1, q2), (q3, q4)) ((0, fun _ => 0), (0, fun _ => 0), (upd (upd (upd (fun _ => 0) 6 6) 7 0) 8 10), 0, 0)) rfl (by decide) (fun H locs hC => ?_)
  exact zi_vret S0 hr hlk ⟨_, ⟨(h0, q5, (q1, q2), (q3, q4)), rfl, rfl⟩, hC⟩ dX2_init_65
theorem kX1_init_3 : Cond.methodLink RX1 3 objectInit ∈ wsX1_init := by decide +kernel
theorem kX1_init_oi : Cond.instanceMethod objectInit ∈ wsX1_init := by decide +kernel
theorem kX1_init_oc : Cond.code objectInit ⟨#[0xb1]⟩ 1 none ∈ wsX1_init := by decide +kernel
theorem kX1_init_archar : Cond.arrayClass .char ∈ wsX1_init := by decide +kernel
theorem kX1_init_9 : Cond.fieldLink RX1 9 "ZoneSampler$Pad" "signs" "[C" ∈ wsX1_init := by decide +kernel
theorem jX1_init_X1 : ∀ w ∈ u_ws RX1 TX1 14, w ∈ wsX1_init := by decide +kernel
set_option maxHeartbeats 4000000 in
set_option maxRecDepth 100000 in
theorem c_X1_init (l : Launch) (G : va_G) (c3 : zT3) (h0 : Nat) : zMn l yX1_init wsX1_init ⟨1, 1, 60, 12⟩ G c3 [(h0, .inr (1, [.null, .int 0, .int 0, .int 0, .int 0, .int 0, .int 0, .int 0, .int 0, .int 0, .int 0, .int 0, .int 0, .int 0]))] [.ref h0] (fun w => ∃ q : Nat, w = zwP c3.2.1 (h0, q) zP0) 1 60 := by
  refine zMn.of (cc := cX1_init) (maxL := 1) (by decide) rfl rfl (Nat.le_of_ble_eq_true rfl) ?_
  intro p e s m args below meth c A ls S0 hr hlk hin hN hC hl
  have S0 : CallFix p m c cX1_init 1 s args wsX1_init RX1 := S0
  have hl : lv_has ls 1 [(0, .ref h0)] := hl
  have hx := S0.1
  have hb := S0.2.1
  obtain ⟨H, hH⟩ : ∃ y, y = s.heap := ⟨_, rfl⟩
  rw [← hH] at hC ⊢
  obtain ⟨locs, hlo⟩ : ∃ y : List Loc, y = [] := ⟨_, rfl⟩
  rw [← hlo] at hC ⊢
  clear hH hlo
  refine lv_aload_n hx hb dX1_init_0 rfl (lv_at hl 0 rfl) ?_
  refine zi_obj S0 hl.1 kX1_init_3 kX1_init_oi kX1_init_oc (Nat.le_of_ble_eq_true rfl) (Nat.le_of_ble_eq_true rfl) dX1_init_1 ?_
  refine lv_aload_n hx hb dX1_init_4 rfl (lv_at hl 0 rfl) ?_
  refine lv_bipush (v := 60) hx hb dX1_init_5 (by decide) ?_
  refine zi_newa S0 hC (atype := .char) (ty := .char) rfl kX1_init_archar 1 rfl (fun _ _ h => h) (N := 60) (by decide) (by decide) rfl (Nat.le_of_ble_eq_true rfl) (Nat.le_of_ble_eq_true rfl) (Nat.le_of_ble_eq_true rfl) dX1_init_7 (fun q H hC => ?_)
  refine W.widen (k := 1) (n := 60) (Nat.le_of_ble_eq_true rfl) (Nat.le_of_ble_eq_true rfl) ?_
  have hC : zC G c3 A s ([(h0, .inr (1, [.null, .int 0, .int 0, .int 0, .int 0, .int 0, .int 0, .int 0, .int 0, .int 0, .int 0, .int 0, .int 0, .int 0]))] ++ [(q, .inl (c3.2.1, 60, .inl (fun _ => 0)))]) H locs := hC
  refine zi_putF S0 hC (ci := 1) (C := RX1) (T := TX1) (N := 14) (v := .ref q) jX1_init_X1 tyX1 tyX1_ok nmX1 0 rfl rfl 0 (by decide) kX1_init_9 rfl rfl hin rfl rfl rfl (Nat.le_of_ble_eq_true rfl) dX1_init_9 (ws2 := ([(h0, .inr (1, [.ref q, .int 0, .int 0, .int 0, .int 0, .int 0, .int 0, .int 0, .int 0, .int 0, .int 0, .int 0, .int 0, .int 0]))] ++ [(q, .inl (c3.2.1, 60, .inl (fun _ => 0)))])) rfl (fun H locs hC => ?_)
  exact zi_vret S0 hr hlk ⟨_, ⟨q, rfl⟩, hC⟩ dX1_init_12
theorem kX3_init_3 : Cond.methodLink RX3 3 objectInit ∈ wsX3_init := by decide +kernel
theorem kX3_init_oi : Cond.instanceMethod objectInit ∈ wsX3_init := by decide +kernel
theorem kX3_init_oc : Cond.code objectInit ⟨#[0xb1]⟩ 1 none ∈ wsX3_init := by decide +kernel
theorem kX3_init_arint : Cond.arrayClass .int ∈ wsX3_init := by decide +kernel
theorem kX3_init_9 : Cond.fieldLink RX3 9 "ZoneSampler$Survey" "depths" "[I" ∈ wsX3_init := by decide +kernel
theorem jX3_init_X3 : ∀ w ∈ u_ws RX3 TX3 5, w ∈ wsX3_init := by decide +kernel
set_option maxHeartbeats 4000000 in
set_option maxRecDepth 100000 in
theorem c_X3_init (l : Launch) (G : va_G) (c3 : zT3) (h0 : Nat) : zMn l yX3_init wsX3_init ⟨1, 1, 9, 12⟩ G c3 [(h0, .inr (3, [.null, .int 0, .int 0, .int 0, .int 0]))] [.ref h0] (fun w => ∃ q : Nat, w = zwV c3.1 (h0, q) zV0) 1 9 := by
  refine zMn.of (cc := cX3_init) (maxL := 1) (by decide) rfl rfl (Nat.le_of_ble_eq_true rfl) ?_
  intro p e s m args below meth c A ls S0 hr hlk hin hN hC hl
  have S0 : CallFix p m c cX3_init 1 s args wsX3_init RX3 := S0
  have hl : lv_has ls 1 [(0, .ref h0)] := hl
  have hx := S0.1
  have hb := S0.2.1
  obtain ⟨H, hH⟩ : ∃ y, y = s.heap := ⟨_, rfl⟩
  rw [← hH] at hC ⊢
  obtain ⟨locs, hlo⟩ : ∃ y : List Loc, y = [] := ⟨_, rfl⟩
  rw [← hlo] at hC ⊢
  clear hH hlo
  refine lv_aload_n hx hb dX3_init_0 rfl (lv_at hl 0 rfl) ?_
  refine zi_obj S0 hl.1 kX3_init_3 kX3_init_oi kX3_init_oc (Nat.le_of_ble_eq_true rfl) (Nat.le_of_ble_eq_true rfl) dX3_init_1 ?_
  refine lv_aload_n hx hb dX3_init_4 rfl (lv_at hl 0 rfl) ?_
  refine lv_bipush (v := 9) hx hb dX3_init_5 (by decide) ?_
  refine zi_newa S0 hC (atype := .int) (ty := .int) rfl kX3_init_arint 0 rfl (fun _ _ h => h) (N := 9) (by decide) (by decide) rfl (Nat.le_of_ble_eq_true rfl) (Nat.le_of_ble_eq_true rfl) (Nat.le_of_ble_eq_true rfl) dX3_init_7 (fun q H hC => ?_)
  refine W.widen (k := 1) (n := 9) (Nat.le_of_ble_eq_true rfl) (Nat.le_of_ble_eq_true rfl) ?_
  have hC : zC G c3 A s ([(h0, .inr (3, [.null, .int 0, .int 0, .int 0, .int 0]))] ++ [(q, .inl (c3.1, 9, .inl (fun _ => 0)))]) H locs := hC
  refine zi_putF S0 hC (ci := 3) (C := RX3) (T := TX3) (N := 5) (v := .ref q) jX3_init_X3 tyX3 tyX3_ok nmX3 0 rfl rfl 0 (by decide) kX3_init_9 rfl rfl hin rfl rfl rfl (Nat.le_of_ble_eq_true rfl) dX3_init_9 (ws2 := ([(h0, .inr (3, [.ref q, .int 0, .int 0, .int 0, .int 0]))] ++ [(q, .inl (c3.1, 9, .inl (fun _ => 0)))])) rfl (fun H locs hC => ?_)
  exact zi_vret S0 hr hlk ⟨_, ⟨q, rfl⟩, hC⟩ dX3_init_12
theorem kX0_init_3 : Cond.methodLink RX0 3 objectInit ∈ wsX0_init := by decide +kernel
theorem kX0_init_oi : Cond.instanceMethod objectInit ∈ wsX0_init := by decide +kernel
theorem kX0_init_oc : Cond.code objectInit ⟨#[0xb1]⟩ 1 none ∈ wsX0_init := by decide +kernel
theorem kX0_init_c9 : Cond.classLink RX0 9 RX2 ∈ wsX0_init := by decide +kernel
theorem kX0_init_iX2 : Cond.instantiable RX2 5 ∈ wsX0_init := by decide +kernel
theorem kX0_init_nX2 : Cond.initialized RX2 ∈ wsX0_init := by decide +kernel
theorem kX0_init_m11 : Cond.methodLink RX0 11 yX2_init ∈ wsX0_init := by decide +kernel
theorem kX0_init_imX2 : Cond.instanceMethod yX2_init ∈ wsX0_init := by decide +kernel
theorem kX0_init_12 : Cond.fieldLink RX0 12 "ZoneSampler$History" "first" "LZoneSampler$State;" ∈ wsX0_init := by decide +kernel
theorem kX0_init_18 : Cond.fieldLink RX0 18 "ZoneSampler$History" "second" "LZoneSampler$State;" ∈ wsX0_init := by decide +kernel
theorem kX0_init_21 : Cond.fieldLink RX0 21 "ZoneSampler$History" "third" "LZoneSampler$State;" ∈ wsX0_init := by decide +kernel
theorem kX0_init_24 : Cond.fieldLink RX0 24 "ZoneSampler$History" "fourth" "LZoneSampler$State;" ∈ wsX0_init := by decide +kernel
theorem jX0_init_X0 : ∀ w ∈ u_ws RX0 TX0 5, w ∈ wsX0_init := by decide +kernel
theorem jX0_init_X2 : ∀ w ∈ u_ws RX2 TX2 5, w ∈ wsX0_init := by decide +kernel
set_option maxHeartbeats 4000000 in
set_option maxRecDepth 100000 in
theorem c_X0_init (l : Launch) (G : va_G) (c3 : zT3) (h0 : Nat) : zMn l yX0_init wsX0_init ⟨3, 24, 600, 54⟩ G c3 [(h0, .inr (0, [.null, .null, .null, .null, .int 0]))] [.ref h0] (fun w => ∃ o1 o2 o3 o4 : zR6, w = zwH c3.1 h0 (0, (o1, zS0), (o2, zS0), (o3, zS0), (o4, zS0))) 24 600 := by
  refine zMn.of (cc := cX0_init) (maxL := 1) (by decide) rfl rfl (Nat.le_of_ble_eq_true rfl) ?_
  intro p e s m args below meth c A ls S0 hr hlk hin hN hC hl
  have S0 : CallFix p m c cX0_init 1 s args wsX0_init RX0 := S0
  have hl : lv_has ls 1 [(0, .ref h0)] := hl
  have hx := S0.1
  have hb := S0.2.1
  obtain ⟨H, hH⟩ : ∃ y, y = s.heap := ⟨_, rfl⟩
  rw [← hH] at hC ⊢
  obtain ⟨locs, hlo⟩ : ∃ y : List Loc, y = [] := ⟨_, rfl⟩
  rw [← hlo] at hC ⊢
  clear hH hlo
  refine lv_aload_n hx hb dX0_init_0 rfl (lv_at hl 0 rfl) ?_
  refine zi_obj S0 hl.1 kX0_init_3 kX0_init_oi kX0_init_oc (Nat.le_of_ble_eq_true rfl) (Nat.le_of_ble_eq_true rfl) dX0_init_1 ?_
  refine lv_aload_n hx hb dX0_init_4 rfl (lv_at hl 0 rfl) ?_
  refine zi_new S0 hC (ci := 2) (fs := [.null, .null, .null, .int 0, .int 0]) (C := RX2) (T := TX2) (N := 5) jX0_init_X2 tyX2 tyX2_ok kX0_init_c9 kX0_init_iX2 kX0_init_nX2 rfl (fun j hj => by rcases (show j = 0 ∨ j = 1 ∨ j = 2 ∨ j = 3 ∨ j = 4 by omega) with rfl | rfl | rfl | rfl | rfl <;> rfl) (Nat.le_of_ble_eq_true rfl) (Nat.le_of_ble_eq_true rfl) dX0_init_5 (fun q0 H hC => ?_)
  refine W.widen (k := 1) (n := 5) (Nat.le_of_ble_eq_true rfl) (Nat.le_of_ble_eq_true rfl) ?_
  have hC : zC G c3 A s ([(h0, .inr (0, [.null, .null, .null, .null, .int 0]))] ++ [(q0, .inr (2, [.null, .null, .null, .int 0, .int 0]))]) H locs := hC
  refine lv_dup hx hb dX0_init_8 rfl ?_
  refine zi_call (zi_runI (n := 0) (rest := [.ref q0, .ref h0]) (As := []) S0 hC hN (c_X2_init l G c3 q0) [1] (by decide) rfl gX0_init_X2_init rfl rfl rfl kX0_init_nX2 kX0_init_m11 kX0_init_imX2 rfl (by decide +kernel) ⟨Nat.le_of_ble_eq_true rfl, Nat.le_of_ble_eq_true rfl⟩ rfl hl.1 rfl (Nat.le_of_ble_eq_true rfl) dX0_init_9 ⟨Nat.le_of_ble_eq_true rfl, Nat.le_of_ble_eq_true rfl⟩) hC [1] [0] rfl (wr := ([(h0, .inr (0, [.null, .null, .null, .null, .int 0]))] : va_W)) rfl (by decide) (by decide) (fun w1 H locs hP1 hC => ?_)
  obtain ⟨o1, rfl, rfl⟩ := hP1
  refine W.widen (k := 6) (n := 150) (Nat.le_of_ble_eq_true rfl) (Nat.le_of_ble_eq_true rfl) ?_
  have hC : zC G c3 A s ([(h0, .inr (0, [.null, .null, .null, .null, .int 0]))] ++ zwS c3.1 o1 zS0) H locs := hC
  refine zi_put S0 hC (ci := 0) (C := RX0) (T := TX0) (N := 5) (v := .ref o1.1) jX0_init_X0 tyX0 tyX0_ok nmX0 0 rfl rfl 0 (by decide) kX0_init_12 rfl rfl rfl rfl (Nat.le_of_ble_eq_true rfl) dX0_init_12 (ws2 := ([(h0, .inr (0, [.ref o1.1, .null, .null, .null, .int 0]))] ++ zwS c3.1 o1 zS0)) rfl (fun H locs hC => ?_)
  refine lv_aload_n hx hb dX0_init_15 rfl (lv_at hl 0 rfl) ?_
  refine zi_new S0 hC (ci := 2) (fs := [.null, .null, .null, .int 0, .int 0]) (C := RX2) (T := TX2) (N := 5) jX0_init_X2 tyX2 tyX2_ok kX0_init_c9 kX0_init_iX2 kX0_init_nX2 rfl (fun j hj => by rcases (show j = 0 ∨ j = 1 ∨ j = 2 ∨ j = 3 ∨ j = 4 by omega) with rfl | rfl | rfl | rfl | rfl <;> rfl) (Nat.le_of_ble_eq_true rfl) (Nat.le_of_ble_eq_true rfl) dX0_init_16 (fun q1 H hC => ?_)
  refine W.widen (k := 7) (n := 155) (Nat.le_of_ble_eq_true rfl) (Nat.le_of_ble_eq_true rfl) ?_
  have hC : zC G c3 A s ([(h0, .inr (0, [.ref o1.1, .null, .null, .null, .int 0]))] ++ zwS c3.1 o1 zS0 ++ [(q1, .inr (2, [.null, .null, .null, .int 0, .int 0]))]) H locs := hC
  refine lv_dup hx hb dX0_init_19 rfl ?_
  refine zi_call (zi_runI (n := 0) (rest := [.ref q1, .ref h0]) (As := []) S0 hC hN (c_X2_init l G c3 q1) [7] (by decide) rfl gX0_init_X2_init rfl rfl rfl kX0_init_nX2 kX0_init_m11 kX0_init_imX2 rfl (by decide +kernel) ⟨Nat.le_of_ble_eq_true rfl, Nat.le_of_ble_eq_true rfl⟩ rfl hl.1 rfl (Nat.le_of_ble_eq_true rfl) dX0_init_20 ⟨Nat.le_of_ble_eq_true rfl, Nat.le_of_ble_eq_true rfl⟩) hC [7] [0, 1, 2, 3, 4, 5, 6] rfl (wr := ([(h0, .inr (0, [.ref o1.1, .null, .null, .null, .int 0]))] ++ zwS c3.1 o1 zS0)) rfl (by decide) (by decide) (fun w1 H locs hP1 hC => ?_)
  obtain ⟨o2, rfl, rfl⟩ := hP1
  refine W.widen (k := 12) (n := 300) (Nat.le_of_ble_eq_true rfl) (Nat.le_of_ble_eq_true rfl) ?_
  have hC : zC G c3 A s ([(h0, .inr (0, [.ref o1.1, .null, .null, .null, .int 0]))] ++ zwS c3.1 o1 zS0 ++ zwS c3.1 o2 zS0) H locs := hC
  refine zi_put S0 hC (ci := 0) (C := RX0) (T := TX0) (N := 5) (v := .ref o2.1) jX0_init_X0 tyX0 tyX0_ok nmX0 0 rfl rfl 1 (by decide) kX0_init_18 rfl rfl rfl rfl (Nat.le_of_ble_eq_true rfl) dX0_init_23 (ws2 := ([(h0, .inr (0, [.ref o1.1, .ref o2.1, .null, .null, .int 0]))] ++ zwS c3.1 o1 zS0 ++ zwS c3.1 o2 zS0)) rfl (fun H locs hC => ?_)
  refine lv_aload_n hx hb dX0_init_26 rfl (lv_at hl 0 rfl) ?_
  refine zi_new S0 hC (ci := 2) (fs := [.null, .null, .null, .int 0, .int 0]) (C := RX2) (T := TX2) (N := 5) jX0_init_X2 tyX2 tyX2_ok kX0_init_c9 kX0_init_iX2 kX0_init_nX2 rfl (fun j hj => by rcases (show j = 0 ∨ j = 1 ∨ j = 2 ∨ j = 3 ∨ j = 4 by omega) with rfl | rfl | rfl | rfl | rfl <;> rfl) (Nat.le_of_ble_eq_true rfl) (Nat.le_of_ble_eq_true rfl) dX0_init_27 (fun q2 H hC => ?_)
  refine W.widen (k := 13) (n := 305) (Nat.le_of_ble_eq_true rfl) (Nat.le_of_ble_eq_true rfl) ?_
  have hC : zC G c3 A s ([(h0, .inr (0, [.ref o1.1, .ref o2.1, .null, .null, .int 0]))] ++ zwS c3.1 o1 zS0 ++ zwS c3.1 o2 zS0 ++ [(q2, .inr (2, [.null, .null, .null, .int 0, .int 0]))]) H locs := hC
  refine lv_dup hx hb dX0_init_30 rfl ?_
  refine zi_call (zi_runI (n := 0) (rest := [.ref q2, .ref h0]) (As := []) S0 hC hN (c_X2_init l G c3 q2) [13] (by decide) rfl gX0_init_X2_init rfl rfl rfl kX0_init_nX2 kX0_init_m11 kX0_init_imX2 rfl (by decide +kernel) ⟨Nat.le_of_ble_eq_true rfl, Nat.le_of_ble_eq_true rfl⟩ rfl hl.1 rfl (Nat.le_of_ble_eq_true rfl) dX0_init_31 ⟨Nat.le_of_ble_eq_true rfl, Nat.le_of_ble_eq_true rfl⟩) hC [13] [0, 1, 2, 3, 4, 5, 6, 7, 8, 9, 10, 11, 12] rfl (wr := ([(h0, .inr (0, [.ref o1.1, .ref o2.1, .null, .null, .int 0]))] ++ zwS c3.1 o1 zS0 ++ zwS c3.1 o2 zS0)) rfl (by decide) (by decide) (fun w1 H locs hP1 hC => ?_)
  obtain ⟨o3, rfl, rfl⟩ := hP1
  refine W.widen (k := 18) (n := 450) (Nat.le_of_ble_eq_true rfl) (Nat.le_of_ble_eq_true rfl) ?_
  have hC : zC G c3 A s ([(h0, .inr (0, [.ref o1.1, .ref o2.1, .null, .null, .int 0]))] ++ zwS c3.1 o1 zS0 ++ zwS c3.1 o2 zS0 ++ zwS c3.1 o3 zS0) H locs := hC
  refine zi_put S0 hC (ci := 0) (C := RX0) (T := TX0) (N := 5) (v := .ref o3.1) jX0_init_X0 tyX0 tyX0_ok nmX0 0 rfl rfl 2 (by decide) kX0_init_21 rfl rfl rfl rfl (Nat.le_of_ble_eq_true rfl) dX0_init_34 (ws2 := ([(h0, .inr (0, [.ref o1.1, .ref o2.1, .ref o3.1, .null, .int 0]))] ++ zwS c3.1 o1 zS0 ++ zwS c3.1 o2 zS0 ++ zwS c3.1 o3 zS0)) rfl (fun H locs hC => ?_)
  refine lv_aload_n hx hb dX0_init_37 rfl (lv_at hl 0 rfl) ?_
  refine zi_new S0 hC (ci := 2) (fs := [.null, .null, .null, .int 0, .int 0]) (C := RX2) (T := TX2) (N := 5) jX0_init_X2 tyX2 tyX2_ok kX0_init_c9 kX0_init_iX2 kX0_init_nX2 rfl (fun j hj => by rcases (show j = 0 ∨ j = 1 ∨ j = 2 ∨ j = 3 ∨ j = 4 by omega) with rfl | rfl | rfl | rfl | rfl <;> rfl) (Nat.le_of_ble_eq_true rfl) (Nat.le_of_ble_eq_true rfl) dX0_init_38 (fun q3 H hC => ?_)
  refine W.widen (k := 19) (n := 455) (Nat.le_of_ble_eq_true rfl) (Nat.le_of_ble_eq_true rfl) ?_
  have hC : zC G c3 A s ([(h0, .inr (0, [.ref o1.1, .ref o2.1, .ref o3.1, .null, .int 0]))] ++ zwS c3.1 o1 zS0 ++ zwS c3.1 o2 zS0 ++ zwS c3.1 o3 zS0 ++ [(q3, .inr (2, [.null, .null, .null, .int 0, .int 0]))]) H locs := hC
  refine lv_dup hx hb dX0_init_41 rfl ?_
  refine zi_call (zi_runI (n := 0) (rest := [.ref q3, .ref h0]) (As := []) S0 hC hN (c_X2_init l G c3 q3) [19] (by decide) rfl gX0_init_X2_init rfl rfl rfl kX0_init_nX2 kX0_init_m11 kX0_init_imX2 rfl (by decide +kernel) ⟨Nat.le_of_ble_eq_true rfl, Nat.le_of_ble_eq_true rfl⟩ rfl hl.1 rfl (Nat.le_of_ble_eq_true rfl) dX0_init_42 ⟨Nat.le_of_ble_eq_true rfl, Nat.le_of_ble_eq_true rfl⟩) hC [19] [0, 1, 2, 3, 4, 5, 6, 7, 8, 9, 10, 11, 12, 13, 14, 15, 16, 17, 18] rfl (wr := ([(h0, .inr (0, [.ref o1.1, .ref o2.1, .ref o3.1, .null, .int 0]))] ++ zwS c3.1 o1 zS0 ++ zwS c3.1 o2 zS0 ++ zwS c3.1 o3 zS0)) rfl (by decide) (by decide) (fun w1 H locs hP1 hC => ?_)
  obtain ⟨o4, rfl, rfl⟩ := hP1
  refine W.widen (k := 24) (n := 600) (Nat.le_of_ble_eq_true rfl) (Nat.le_of_ble_eq_true rfl) ?_
  have hC : zC G c3 A s ([(h0, .inr (0, [.ref o1.1, .ref o2.1, .ref o3.1, .null, .int 0]))] ++ zwS c3.1 o1 zS0 ++ zwS c3.1 o2 zS0 ++ zwS c3.1 o3 zS0 ++ zwS c3.1 o4 zS0) H locs := hC
  refine zi_put S0 hC (ci := 0) (C := RX0) (T := TX0) (N := 5) (v := .ref o4.1) jX0_init_X0 tyX0 tyX0_ok nmX0 0 rfl rfl 3 (by decide) kX0_init_24 rfl rfl rfl rfl (Nat.le_of_ble_eq_true rfl) dX0_init_45 (ws2 := ([(h0, .inr (0, [.ref o1.1, .ref o2.1, .ref o3.1, .ref o4.1, .int 0]))] ++ zwS c3.1 o1 zS0 ++ zwS c3.1 o2 zS0 ++ zwS c3.1 o3 zS0 ++ zwS c3.1 o4 zS0)) rfl (fun H locs hC => ?_)
  exact zi_vret S0 hr hlk ⟨_, ⟨o1, o2, o3, o4, rfl⟩, hC⟩ dX0_init_48
theorem kX5_init_1 : Cond.methodLink RX5 1 objectInit ∈ wsX5_init := by decide +kernel
theorem kX5_init_oi : Cond.instanceMethod objectInit ∈ wsX5_init := by decide +kernel
theorem kX5_init_oc : Cond.code objectInit ⟨#[0xb1]⟩ 1 none ∈ wsX5_init := by decide +kernel
theorem kX5_init_c7 : Cond.classLink RX5 7 RX2 ∈ wsX5_init := by decide +kernel
theorem kX5_init_iX2 : Cond.instantiable RX2 5 ∈ wsX5_init := by decide +kernel
theorem kX5_init_nX2 : Cond.initialized RX2 ∈ wsX5_init := by decide +kernel
theorem kX5_init_m9 : Cond.methodLink RX5 9 yX2_init ∈ wsX5_init := by decide +kernel
theorem kX5_init_imX2 : Cond.instanceMethod yX2_init ∈ wsX5_init := by decide +kernel
theorem kX5_init_10 : Cond.fieldLink RX5 10 "ZoneSampler" "now" "LZoneSampler$State;" ∈ wsX5_init := by decide +kernel
theorem kX5_init_16 : Cond.fieldLink RX5 16 "ZoneSampler" "trial" "LZoneSampler$State;" ∈ wsX5_init := by decide +kernel
theorem kX5_init_19 : Cond.fieldLink RX5 19 "ZoneSampler" "snapshot" "LZoneSampler$State;" ∈ wsX5_init := by decide +kernel
theorem kX5_init_c22 : Cond.classLink RX5 22 RX0 ∈ wsX5_init := by decide +kernel
theorem kX5_init_iX0 : Cond.instantiable RX0 5 ∈ wsX5_init := by decide +kernel
theorem kX5_init_nX0 : Cond.initialized RX0 ∈ wsX5_init := by decide +kernel
theorem kX5_init_imX0 : Cond.instanceMethod yX0_init ∈ wsX5_init := by decide +kernel
theorem kX5_init_25 : Cond.fieldLink RX5 25 "ZoneSampler" "history" "LZoneSampler$History;" ∈ wsX5_init := by decide +kernel
theorem kX5_init_c29 : Cond.classLink RX5 29 RX1 ∈ wsX5_init := by decide +kernel
theorem kX5_init_iX1 : Cond.instantiable RX1 14 ∈ wsX5_init := by decide +kernel
theorem kX5_init_nX1 : Cond.initialized RX1 ∈ wsX5_init := by decide +kernel
theorem kX5_init_imX1 : Cond.instanceMethod yX1_init ∈ wsX5_init := by decide +kernel
theorem kX5_init_32 : Cond.fieldLink RX5 32 "ZoneSampler" "pad" "LZoneSampler$Pad;" ∈ wsX5_init := by decide +kernel
theorem kX5_init_c36 : Cond.classLink RX5 36 RX3 ∈ wsX5_init := by decide +kernel
theorem kX5_init_iX3 : Cond.instantiable RX3 5 ∈ wsX5_init := by decide +kernel
theorem kX5_init_nX3 : Cond.initialized RX3 ∈ wsX5_init := by decide +kernel
theorem kX5_init_imX3 : Cond.instanceMethod yX3_init ∈ wsX5_init := by decide +kernel
theorem kX5_init_39 : Cond.fieldLink RX5 39 "ZoneSampler" "survey" "LZoneSampler$Survey;" ∈ wsX5_init := by decide +kernel
theorem jX5_init_X0 : ∀ w ∈ u_ws RX0 TX0 5, w ∈ wsX5_init := by decide +kernel
theorem jX5_init_X1 : ∀ w ∈ u_ws RX1 TX1 14, w ∈ wsX5_init := by decide +kernel
theorem jX5_init_X2 : ∀ w ∈ u_ws RX2 TX2 5, w ∈ wsX5_init := by decide +kernel
theorem jX5_init_X3 : ∀ w ∈ u_ws RX3 TX3 5, w ∈ wsX5_init := by decide +kernel
theorem jX5_init_X5 : ∀ w ∈ u_ws RX5 TX5 7, w ∈ wsX5_init := by decide +kernel
set_option maxHeartbeats 4000000 in
set_option maxRecDepth 100000 in
theorem c_X5_init (l : Launch) (G : va_G) (c3 : zT3) (h0 : Nat) : zMn l yX5_init wsX5_init ⟨4, 47, 1143, 74⟩ G c3 [(h0, .inr (5, [.null, .null, .null, .null, .null, .null, .int 0]))] [.ref h0] (fun w => ∃ (oN oT oK : zR6) (oH : Nat) (o1 o2 o3 o4 : zR6) (oP oV : zR2), w = zwZ h0 oN oT oK oH oP oV 0 ++ zwS c3.1 oN zS0 ++ zwS c3.1 oT zS0 ++ zwS c3.1 oK zS0 ++ zwH c3.1 oH (0, (o1, zS0), (o2, zS0), (o3, zS0), (o4, zS0)) ++ zwP c3.2.1 oP zP0 ++ zwV c3.1 oV zV0) 47 1143 := by
  refine zMn.of (cc := cX5_init) (maxL := 1) (by decide) rfl rfl (Nat.le_of_ble_eq_true rfl) ?_
  intro p e s m args below meth c A ls S0 hr hlk hin hN hC hl
  have S0 : CallFix p m c cX5_init 1 s args wsX5_init RX5 := S0
  have hl : lv_has ls 1 [(0, .ref h0)] := hl
  have hx := S0.1
  have hb := S0.2.1
  obtain ⟨H, hH⟩ : ∃ y, y = s.heap := ⟨_, rfl⟩
  rw [← hH] at hC ⊢
  obtain ⟨locs, hlo⟩ : ∃ y : List Loc, y = [] := ⟨_, rfl⟩
  rw [← hlo] at hC ⊢
  clear hH hlo
  refine lv_aload_n hx hb dX5_init_0 rfl (lv_at hl 0 rfl) ?_
  refine zi_obj S0 hl.1 kX5_init_1 kX5_init_oi kX5_init_oc (Nat.le_of_ble_eq_true rfl) (Nat.le_of_ble_eq_true rfl) dX5_init_1 ?_
  refine lv_aload_n hx hb dX5_init_4 rfl (lv_at hl 0 rfl) ?_
  refine zi_new S0 hC (ci := 2) (fs := [.null, .null, .null, .int 0, .int 0]) (C := RX2) (T := TX2) (N := 5) jX5_init_X2 tyX2 tyX2_ok kX5_init_c7 kX5_init_iX2 kX5_init_nX2 rfl (fun j hj => by rcases (show j = 0 ∨ j = 1 ∨ j = 2 ∨ j = 3 ∨ j = 4 by omega) with rfl | rfl | rfl | rfl | rfl <;> rfl) (Nat.le_of_ble_eq_true rfl) (Nat.le_of_ble_eq_true rfl) dX5_init_5 (fun q0 H hC => ?_)
  refine W.widen (k := 1) (n := 5) (Nat.le_of_ble_eq_true rfl) (Nat.le_of_ble_eq_true rfl) ?_
  have hC : zC G c3 A s ([(h0, .inr (5, [.null, .null, .null, .null, .null, .null, .int 0]))] ++ [(q0, .inr (2, [.null, .null, .null, .int 0, .int 0]))]) H locs := hC
  refine lv_dup hx hb dX5_init_8 rfl ?_
  refine zi_call (zi_runI (n := 0) (rest := [.ref q0, .ref h0]) (As := []) S0 hC hN (c_X2_init l G c3 q0) [1] (by decide) rfl gX5_init_X2_init rfl rfl rfl kX5_init_nX2 kX5_init_m9 kX5_init_imX2 rfl (by decide +kernel) ⟨Nat.le_of_ble_eq_true rfl, Nat.le_of_ble_eq_true rfl⟩ rfl hl.1 rfl (Nat.le_of_ble_eq_true rfl) dX5_init_9 ⟨Nat.le_of_ble_eq_true rfl, Nat.le_of_ble_eq_true rfl⟩) hC [1] [0] rfl (wr := ([(h0, .inr (5, [.null, .null, .null, .null, .null, .null, .int 0]))] : va_W)) rfl (by decide) (by decide) (fun w1 H locs hP1 hC => ?_)
  obtain ⟨oN, rfl, rfl⟩ := hP1
  refine W.widen (k := 6) (n := 150) (Nat.le_of_ble_eq_true rfl) (Nat.le_of_ble_eq_true rfl) ?_
  have hC : zC G c3 A s ([(h0, .inr (5, [.null, .null, .null, .null, .null, .null, .int 0]))] ++ zwS c3.1 oN zS0) H locs := hC
  refine zi_putF S0 hC (ci := 5) (C := RX5) (T := TX5) (N := 7) (v := .ref oN.1) jX5_init_X5 tyX5 tyX5_ok nmX5 0 rfl rfl 0 (by decide) kX5_init_10 rfl rfl hin rfl rfl rfl (Nat.le_of_ble_eq_true rfl) dX5_init_12 (ws2 := ([(h0, .inr (5, [.ref oN.1, .null, .null, .null, .null, .null, .int 0]))] ++ zwS c3.1 oN zS0)) rfl (fun H locs hC => ?_)
  refine lv_aload_n hx hb dX5_init_15 rfl (lv_at hl 0 rfl) ?_
  refine zi_new S0 hC (ci := 2) (fs := [.null, .null, .null, .int 0, .int 0]) (C := RX2) (T := TX2) (N := 5) jX5_init_X2 tyX2 tyX2_ok kX5_init_c7 kX5_init_iX2 kX5_init_nX2 rfl (fun j hj => by rcases (show j = 0 ∨ j = 1 ∨ j = 2 ∨ j = 3 ∨ j = 4 by omega) with rfl | rfl | rfl | rfl | rfl <;> rfl) (Nat.le_of_ble_eq_true rfl) (Nat.le_of_ble_eq_true rfl) dX5_init_16 (fun q1 H hC => ?_)
  refine W.widen (k := 7) (n := 155) (Nat.le_of_ble_eq_true rfl) (Nat.le_of_ble_eq_true rfl) ?_
  have hC : zC G c3 A s ([(h0, .inr (5, [.ref oN.1, .null, .null, .null, .null, .null, .int 0]))] ++ zwS c3.1 oN zS0 ++ [(q1, .inr (2, [.null, .null, .null, .int 0, .int 0]))]) H locs := hC
  refine lv_dup hx hb dX5_init_19 rfl ?_
  refine zi_call (zi_runI (n := 0) (rest := [.ref q1, .ref h0]) (As := []) S0 hC hN (c_X2_init l G c3 q1) [7] (by decide) rfl gX5_init_X2_init rfl rfl rfl kX5_init_nX2 kX5_init_m9 kX5_init_imX2 rfl (by decide +kernel) ⟨Nat.le_of_ble_eq_true rfl, Nat.le_of_ble_eq_true rfl⟩ rfl hl.1 rfl (Nat.le_of_ble_eq_true rfl) dX5_init_20 ⟨Nat.le_of_ble_eq_true rfl, Nat.le_of_ble_eq_true rfl⟩) hC [7] [0, 1, 2, 3, 4, 5, 6] rfl (wr := ([(h0, .inr (5, [.ref oN.1, .null, .null, .null, .null, .null, .int 0]))] ++ zwS c3.1 oN zS0)) rfl (by decide) (by decide) (fun w1 H locs hP1 hC => ?_)
  obtain ⟨oT, rfl, rfl⟩ := hP1
  refine W.widen (k := 12) (n := 300) (Nat.le_of_ble_eq_true rfl) (Nat.le_of_ble_eq_true rfl) ?_
  have hC : zC G c3 A s ([(h0, .inr (5, [.ref oN.1, .null, .null, .null, .null, .null, .int 0]))] ++ zwS c3.1 oN zS0 ++ zwS c3.1 oT zS0) H locs := hC
  refine zi_putF S0 hC (ci := 5) (C := RX5) (T := TX5) (N := 7) (v := .ref oT.1) jX5_init_X5 tyX5 tyX5_ok nmX5 0 rfl rfl 1 (by decide) kX5_init_16 rfl rfl hin rfl rfl rfl (Nat.le_of_ble_eq_true rfl) dX5_init_23 (ws2 := ([(h0, .inr (5, [.ref oN.1, .ref oT.1, .null, .null, .null, .null, .int 0]))] ++ zwS c3.1 oN zS0 ++ zwS c3.1 oT zS0)) rfl (fun H locs hC => ?_)
  refine lv_aload_n hx hb dX5_init_26 rfl (lv_at hl 0 rfl) ?_
  refine zi_new S0 hC (ci := 2) (fs := [.null, .null, .null, .int 0, .int 0]) (C := RX2) (T := TX2) (N := 5) jX5_init_X2 tyX2 tyX2_ok kX5_init_c7 kX5_init_iX2 kX5_init_nX2 rfl (fun j hj => by rcases (show j = 0 ∨ j = 1 ∨ j = 2 ∨ j = 3 ∨ j = 4 by omega) with rfl | rfl | rfl | rfl | rfl <;> rfl) (Nat.le_of_ble_eq_true rfl) (Nat.le_of_ble_eq_true rfl) dX5_init_27 (fun q2 H hC => ?_)
  refine W.widen (k := 13) (n := 305) (Nat.le_of_ble_eq_true rfl) (Nat.le_of_ble_eq_true rfl) ?_
  have hC : zC G c3 A s ([(h0, .inr (5, [.ref oN.1, .ref oT.1, .null, .null, .null, .null, .int 0]))] ++ zwS c3.1 oN zS0 ++ zwS c3.1 oT zS0 ++ [(q2, .inr (2, [.null, .null, .null, .int 0, .int 0]))]) H locs := hC
  refine lv_dup hx hb dX5_init_30 rfl ?_
  refine zi_call (zi_runI (n := 0) (rest := [.ref q2, .ref h0]) (As := []) S0 hC hN (c_X2_init l G c3 q2) [13] (by decide) rfl gX5_init_X2_init rfl rfl rfl kX5_init_nX2 kX5_init_m9 kX5_init_imX2 rfl (by decide +kernel) ⟨Nat.le_of_ble_eq_true rfl, Nat.le_of_ble_eq_true rfl⟩ rfl hl.1 rfl (Nat.le_of_ble_eq_true rfl) dX5_init_31 ⟨Nat.le_of_ble_eq_true rfl, Nat.le_of_ble_eq_true rfl⟩) hC [13] [0, 1, 2, 3, 4, 5, 6, 7, 8, 9, 10, 11, 12] rfl (wr := ([(h0, .inr (5, [.ref oN.1, .ref oT.1, .null, .null, .null, .null, .int 0]))] ++ zwS c3.1 oN zS0 ++ zwS c3.1 oT zS0)) rfl (by decide) (by decide) (fun w1 H locs hP1 hC => ?_)
  obtain ⟨oK, rfl, rfl⟩ := hP1
  refine W.widen (k := 18) (n := 450) (Nat.le_of_ble_eq_true rfl) (Nat.le_of_ble_eq_true rfl) ?_
  have hC : zC G c3 A s ([(h0, .inr (5, [.ref oN.1, .ref oT.1, .null, .null, .null, .null, .int 0]))] ++ zwS c3.1 oN zS0 ++ zwS c3.1 oT zS0 ++ zwS c3.1 oK zS0) H locs := hC
  refine zi_putF S0 hC (ci := 5) (C := RX5) (T := TX5) (N := 7) (v := .ref oK.1) jX5_init_X5 tyX5 tyX5_ok nmX5 0 rfl rfl 2 (by decide) kX5_init_19 rfl rfl hin rfl rfl rfl (Nat.le_of_ble_eq_true rfl) dX5_init_34 (ws2 := ([(h0, .inr (5, [.ref oN.1, .ref oT.1, .ref oK.1, .null, .null, .null, .int 0]))] ++ zwS c3.1 oN zS0 ++ zwS c3.1 oT zS0 ++ zwS c3.1 oK zS0)) rfl (fun H locs hC => ?_)
  refine lv_aload_n hx hb dX5_init_37 rfl (lv_at hl 0 rfl) ?_
  refine zi_new S0 hC (ci := 0) (fs := [.null, .null, .null, .null, .int 0]) (C := RX0) (T := TX0) (N := 5) jX5_init_X0 tyX0 tyX0_ok kX5_init_c22 kX5_init_iX0 kX5_init_nX0 rfl (fun j hj => by rcases (show j = 0 ∨ j = 1 ∨ j = 2 ∨ j = 3 ∨ j = 4 by omega) with rfl | rfl | rfl | rfl | rfl <;> rfl) (Nat.le_of_ble_eq_true rfl) (Nat.le_of_ble_eq_true rfl) dX5_init_38 (fun oH H hC => ?_)
  refine W.widen (k := 19) (n := 455) (Nat.le_of_ble_eq_true rfl) (Nat.le_of_ble_eq_true rfl) ?_
  have hC : zC G c3 A s ([(h0, .inr (5, [.ref oN.1, .ref oT.1, .ref oK.1, .null, .null, .null, .int 0]))] ++ zwS c3.1 oN zS0 ++ zwS c3.1 oT zS0 ++ zwS c3.1 oK zS0 ++ [(oH, .inr (0, [.null, .null, .null, .null, .int 0]))]) H locs := hC
  refine lv_dup hx hb dX5_init_41 rfl ?_
  refine zi_call (zi_runIN (n := 0) (rest := [.ref oH, .ref h0]) (As := []) S0 hC hN (c_X0_init l G c3 oH) [19] (by decide) rfl gX5_init_X0_init_n24 rfl rfl rfl kX5_init_nX0 (hN _ (by decide +kernel : Cond.methodLinkNest RX5 24 yX0_init "ZoneSampler" ∈ zNMw)) kX5_init_imX0 rfl (by decide +kernel) ⟨Nat.le_of_ble_eq_true rfl, Nat.le_of_ble_eq_true rfl⟩ rfl hl.1 rfl (Nat.le_of_ble_eq_true rfl) dX5_init_42 ⟨Nat.le_of_ble_eq_true rfl, Nat.le_of_ble_eq_true rfl⟩) hC [19] [0, 1, 2, 3, 4, 5, 6, 7, 8, 9, 10, 11, 12, 13, 14, 15, 16, 17, 18] rfl (wr := ([(h0, .inr (5, [.ref oN.1, .ref oT.1, .ref oK.1, .null, .null, .null, .int 0]))] ++ zwS c3.1 oN zS0 ++ zwS c3.1 oT zS0 ++ zwS c3.1 oK zS0)) rfl (by decide) (by decide) (fun w1 H locs hP1 hC => ?_)
  obtain ⟨o1, o2, o3, o4, rfl⟩ := hP1
  refine W.widen (k := 43) (n := 1055) (Nat.le_of_ble_eq_true rfl) (Nat.le_of_ble_eq_true rfl) ?_
  have hC : zC G c3 A s ([(h0, .inr (5, [.ref oN.1, .ref oT.1, .ref oK.1, .null, .null, .null, .int 0]))] ++ zwS c3.1 oN zS0 ++ zwS c3.1 oT zS0 ++ zwS c3.1 oK zS0 ++ zwH c3.1 oH (0, (o1, zS0), (o2, zS0), (o3, zS0), (o4, zS0))) H locs := hC
  refine zi_putF S0 hC (ci := 5) (C := RX5) (T := TX5) (N := 7) (v := .ref oH) jX5_init_X5 tyX5 tyX5_ok nmX5 0 rfl rfl 3 (by decide) kX5_init_25 rfl rfl hin rfl rfl rfl (Nat.le_of_ble_eq_true rfl) dX5_init_45 (ws2 := ([(h0, .inr (5, [.ref oN.1, .ref oT.1, .ref oK.1, .ref oH, .null, .null, .int 0]))] ++ zwS c3.1 oN zS0 ++ zwS c3.1 oT zS0 ++ zwS c3.1 oK zS0 ++ zwH c3.1 oH (0, (o1, zS0), (o2, zS0), (o3, zS0), (o4, zS0)))) rfl (fun H locs hC => ?_)
  refine lv_aload_n hx hb dX5_init_48 rfl (lv_at hl 0 rfl) ?_
  refine zi_new S0 hC (ci := 1) (fs := [.null, .int 0, .int 0, .int 0, .int 0, .int 0, .int 0, .int 0, .int 0, .int 0, .int 0, .int 0, .int 0, .int 0]) (C := RX1) (T := TX1) (N := 14) jX5_init_X1 tyX1 tyX1_ok kX5_init_c29 kX5_init_iX1 kX5_init_nX1 rfl (fun j hj => by rcases (show j = 0 ∨ j = 1 ∨ j = 2 ∨ j = 3 ∨ j = 4 ∨ j = 5 ∨ j = 6 ∨ j = 7 ∨ j = 8 ∨ j = 9 ∨ j = 10 ∨ j = 11 ∨ j = 12 ∨ j = 13 by omega) with rfl | rfl | rfl | rfl | rfl | rfl | rfl | rfl | rfl | rfl | rfl | rfl | rfl | rfl <;> rfl) (Nat.le_of_ble_eq_true rfl) (Nat.le_of_ble_eq_true rfl) dX5_init_49 (fun p1 H hC => ?_)
  refine W.widen (k := 44) (n := 1069) (Nat.le_of_ble_eq_true rfl) (Nat.le_of_ble_eq_true rfl) ?_
  have hC : zC G c3 A s ([(h0, .inr (5, [.ref oN.1, .ref oT.1, .ref oK.1, .ref oH, .null, .null, .int 0]))] ++ zwS c3.1 oN zS0 ++ zwS c3.1 oT zS0 ++ zwS c3.1 oK zS0 ++ zwH c3.1 oH (0, (o1, zS0), (o2, zS0), (o3, zS0), (o4, zS0)) ++ [(p1, .inr (1, [.null, .int 0, .int 0, .int 0, .int 0, .int 0, .int 0, .int 0, .int 0, .int 0, .int 0, .int 0, .int 0, .int 0]))]) H locs := hC
  refine lv_dup hx hb dX5_init_52 rfl ?_
  refine zi_call (zi_runIN (n := 0) (rest := [.ref p1, .ref h0]) (As := []) S0 hC hN (c_X1_init l G c3 p1) [44] (by decide) rfl gX5_init_X1_init_n31 rfl rfl rfl kX5_init_nX1 (hN _ (by decide +kernel : Cond.methodLinkNest RX5 31 yX1_init "ZoneSampler" ∈ zNMw)) kX5_init_imX1 rfl (by decide +kernel) ⟨Nat.le_of_ble_eq_true rfl, Nat.le_of_ble_eq_true rfl⟩ rfl hl.1 rfl (Nat.le_of_ble_eq_true rfl) dX5_init_53 ⟨Nat.le_of_ble_eq_true rfl, Nat.le_of_ble_eq_true rfl⟩) hC [44] [0, 1, 2, 3, 4, 5, 6, 7, 8, 9, 10, 11, 12, 13, 14, 15, 16, 17, 18, 19, 20, 21, 22, 23, 24, 25, 26, 27, 28, 29, 30, 31, 32, 33, 34, 35, 36, 37, 38, 39, 40, 41, 42, 43] rfl (wr := ([(h0, .inr (5, [.ref oN.1, .ref oT.1, .ref oK.1, .ref oH, .null, .null, .int 0]))] ++ zwS c3.1 oN zS0 ++ zwS c3.1 oT zS0 ++ zwS c3.1 oK zS0 ++ zwH c3.1 oH (0, (o1, zS0), (o2, zS0), (o3, zS0), (o4, zS0)))) rfl (by decide) (by decide) (fun w1 H locs hP1 hC => ?_)
  obtain ⟨p2, rfl⟩ := hP1
  refine W.widen (k := 45) (n := 1129) (Nat.le_of_ble_eq_true rfl) (Nat.le_of_ble_eq_true rfl) ?_
  have hC : zC G c3 A s ([(h0, .inr (5, [.ref oN.1, .ref oT.1, .ref oK.1, .ref oH, .null, .null, .int 0]))] ++ zwS c3.1 oN zS0 ++ zwS c3.1 oT zS0 ++ zwS c3.1 oK zS0 ++ zwH c3.1 oH (0, (o1, zS0), (o2, zS0), (o3, zS0), (o4, zS0)) ++ zwP c3.2.1 (p1, p2) zP0) H locs := hC
  refine zi_putF S0 hC (ci := 5) (C := RX5) (T := TX5) (N := 7) (v := .ref p1) jX5_init_X5 tyX5 tyX5_ok nmX5 0 rfl rfl 4 (by decide) kX5_init_32 rfl rfl hin rfl rfl rfl (Nat.le_of_ble_eq_true rfl) dX5_init_56 (ws2 := ([(h0, .inr (5, [.ref oN.1, .ref oT.1, .ref oK.1, .ref oH, .ref p1, .null, .int 0]))] ++ zwS c3.1 oN zS0 ++ zwS c3.1 oT zS0 ++ zwS c3.1 oK zS0 ++ zwH c3.1 oH (0, (o1, zS0), (o2, zS0), (o3, zS0), (o4, zS0)) ++ zwP c3.2.1 (p1, p2) zP0)) rfl (fun H locs hC => ?_)
  refine lv_aload_n hx hb dX5_init_59 rfl (lv_at hl 0 rfl) ?_
  refine zi_new S0 hC (ci := 3) (fs := [.null, .int 0, .int 0, .int 0, .int 0]) (C := RX3) (T := TX3) (N := 5) jX5_init_X3 tyX3 tyX3_ok kX5_init_c36 kX5_init_iX3 kX5_init_nX3 rfl (fun j hj => by rcases (show j = 0 ∨ j = 1 ∨ j = 2 ∨ j = 3 ∨ j = 4 by omega) with rfl | rfl | rfl | rfl | rfl <;> rfl) (Nat.le_of_ble_eq_true rfl) (Nat.le_of_ble_eq_true rfl) dX5_init_60 (fun v1 H hC => ?_)
  refine W.widen (k := 46) (n := 1134) (Nat.le_of_ble_eq_true rfl) (Nat.le_of_ble_eq_true rfl) ?_
  have hC : zC G c3 A s ([(h0, .inr (5, [.ref oN.1, .ref oT.1, .ref oK.1, .ref oH, .ref p1, .null, .int 0]))] ++ zwS c3.1 oN zS0 ++ zwS c3.1 oT zS0 ++ zwS c3.1 oK zS0 ++ zwH c3.1 oH (0, (o1, zS0), (o2, zS0), (o3, zS0), (o4, zS0)) ++ zwP c3.2.1 (p1, p2) zP0 ++ [(v1, .inr (3, [.null, .int 0, .int 0, .int 0, .int 0]))]) H locs := hC
  refine lv_dup hx hb dX5_init_63 rfl ?_
  refine zi_call (zi_runIN (n := 0) (rest := [.ref v1, .ref h0]) (As := []) S0 hC hN (c_X3_init l G c3 v1) [46] (by decide) rfl gX5_init_X3_init_n38 rfl rfl rfl kX5_init_nX3 (hN _ (by decide +kernel : Cond.methodLinkNest RX5 38 yX3_init "ZoneSampler" ∈ zNMw)) kX5_init_imX3 rfl (by decide +kernel) ⟨Nat.le_of_ble_eq_true rfl, Nat.le_of_ble_eq_true rfl⟩ rfl hl.1 rfl (Nat.le_of_ble_eq_true rfl) dX5_init_64 ⟨Nat.le_of_ble_eq_true rfl, Nat.le_of_ble_eq_true rfl⟩) hC [46] [0, 1, 2, 3, 4, 5, 6, 7, 8, 9, 10, 11, 12, 13, 14, 15, 16, 17, 18, 19, 20, 21, 22, 23, 24, 25, 26, 27, 28, 29, 30, 31, 32, 33, 34, 35, 36, 37, 38, 39, 40, 41, 42, 43, 44, 45] rfl (wr := ([(h0, .inr (5, [.ref oN.1, .ref oT.1, .ref oK.1, .ref oH, .ref p1, .null, .int 0]))] ++ zwS c3.1 oN zS0 ++ zwS c3.1 oT zS0 ++ zwS c3.1 oK zS0 ++ zwH c3.1 oH (0, (o1, zS0), (o2, zS0), (o3, zS0), (o4, zS0)) ++ zwP c3.2.1 (p1, p2) zP0)) rfl (by decide) (by decide) (fun w1 H locs hP1 hC => ?_)
  obtain ⟨v2, rfl⟩ := hP1
  refine W.widen (k := 47) (n := 1143) (Nat.le_of_ble_eq_true rfl) (Nat.le_of_ble_eq_true rfl) ?_
  have hC : zC G c3 A s ([(h0, .inr (5, [.ref oN.1, .ref oT.1, .ref oK.1, .ref oH, .ref p1, .null, .int 0]))] ++ zwS c3.1 oN zS0 ++ zwS c3.1 oT zS0 ++ zwS c3.1 oK zS0 ++ zwH c3.1 oH (0, (o1, zS0), (o2, zS0), (o3, zS0), (o4, zS0)) ++ zwP c3.2.1 (p1, p2) zP0 ++ zwV c3.1 (v1, v2) zV0) H locs := hC
  refine zi_putF S0 hC (ci := 5) (C := RX5) (T := TX5) (N := 7) (v := .ref v1) jX5_init_X5 tyX5 tyX5_ok nmX5 0 rfl rfl 5 (by decide) kX5_init_39 rfl rfl hin rfl rfl rfl (Nat.le_of_ble_eq_true rfl) dX5_init_67 (ws2 := ([(h0, .inr (5, [.ref oN.1, .ref oT.1, .ref oK.1, .ref oH, .ref p1, .ref v1, .int 0]))] ++ zwS c3.1 oN zS0 ++ zwS c3.1 oT zS0 ++ zwS c3.1 oK zS0 ++ zwH c3.1 oH (0, (o1, zS0), (o2, zS0), (o3, zS0), (o4, zS0)) ++ zwP c3.2.1 (p1, p2) zP0 ++ zwV c3.1 (v1, v2) zV0)) rfl (fun H locs hC => ?_)
  exact zi_vret S0 hr hlk ⟨_, ⟨oN, oT, oK, oH, o1, o2, o3, o4, (p1, p2), (v1, v2), rfl⟩, hC⟩ dX5_init_70
theorem kX6_init_1 : Cond.methodLink RX6 1 objectInit ∈ wsX6_init := by decide +kernel
theorem kX6_init_oi : Cond.instanceMethod objectInit ∈ wsX6_init := by decide +kernel
theorem kX6_init_oc : Cond.code objectInit ⟨#[0xb1]⟩ 1 none ∈ wsX6_init := by decide +kernel
theorem kX6_init_arint : Cond.arrayClass .int ∈ wsX6_init := by decide +kernel
theorem kX6_init_7 : Cond.fieldLink RX6 7 "ZoneSamplerModel" "s" "[I" ∈ wsX6_init := by decide +kernel
theorem kX6_init_13 : Cond.fieldLink RX6 13 "ZoneSamplerModel" "aside" "[I" ∈ wsX6_init := by decide +kernel
theorem kX6_init_16 : Cond.fieldLink RX6 16 "ZoneSamplerModel" "past" "[I" ∈ wsX6_init := by decide +kernel
theorem kX6_init_19 : Cond.fieldLink RX6 19 "ZoneSamplerModel" "kept" "[I" ∈ wsX6_init := by decide +kernel
theorem kX6_init_22 : Cond.fieldLink RX6 22 "ZoneSamplerModel" "pad" "[I" ∈ wsX6_init := by decide +kernel
theorem kX6_init_arboolean : Cond.arrayClass .boolean ∈ wsX6_init := by decide +kernel
theorem kX6_init_25 : Cond.fieldLink RX6 25 "ZoneSamplerModel" "sounds" "[Z" ∈ wsX6_init := by decide +kernel
theorem kX6_init_29 : Cond.fieldLink RX6 29 "ZoneSamplerModel" "read" "[I" ∈ wsX6_init := by decide +kernel
theorem jX6_init_X6 : ∀ w ∈ u_ws RX6 TX6 17, w ∈ wsX6_init := by decide +kernel
set_option maxHeartbeats 4000000 in
set_option maxRecDepth 100000 in
theorem c_X6_init (l : Launch) (G : va_G) (c3 : zT3) (h0 : Nat) : zMn l yX6_init wsX6_init ⟨1, 7, 1204, 12⟩ G c3 [(h0, .inr (6, [.null, .null, .null, .int 0, .null, .int 0, .null, .int 0, .null, .int 0, .int 0, .int 0, .null, .int 0, .int 0, .int 0, .int 0]))] [.ref h0] (fun w => ∃ o : zR8, o.1 = h0 ∧ w = zwM c3.1 c3.2.2 o zM0) 7 1204 := by
  refine zMn.of (cc := cX6_init) (maxL := 1) (by decide) rfl rfl (Nat.le_of_ble_eq_true rfl) ?_
  intro p e s m args below meth c A ls S0 hr hlk hin hN hC hl
  have S0 : CallFix p m c cX6_init 1 s args wsX6_init RX6 := S0
  have hl : lv_has ls 1 [(0, .ref h0)] := hl
  have hx := S0.1
  have hb := S0.2.1
  obtain ⟨H, hH⟩ : ∃ y, y = s.heap := ⟨_, rfl⟩
  rw [← hH] at hC ⊢
  obtain ⟨locs, hlo⟩ : ∃ y : List Loc, y = [] := ⟨_, rfl⟩
  rw [← hlo] at hC ⊢
  clear hH hlo
  refine lv_aload_n hx hb dX6_init_0 rfl (lv_at hl 0 rfl) ?_
  refine zi_obj S0 hl.1 kX6_init_1 kX6_init_oi kX6_init_oc (Nat.le_of_ble_eq_true rfl) (Nat.le_of_ble_eq_true rfl) dX6_init_1 ?_
  refine lv_aload_n hx hb dX6_init_4 rfl (lv_at hl 0 rfl) ?_
  refine lv_sipush (v := 150) hx hb dX6_init_5 (by decide) ?_
  refine zi_newa S0 hC (atype := .int) (ty := .int) rfl kX6_init_arint 0 rfl (fun _ _ h => h) (N := 150) (by decide) (by decide) rfl (Nat.le_of_ble_eq_true rfl) (Nat.le_of_ble_eq_true rfl) (Nat.le_of_ble_eq_true rfl) dX6_init_8 (fun q0 H hC => ?_)
  refine W.widen (k := 1) (n := 150) (Nat.le_of_ble_eq_true rfl) (Nat.le_of_ble_eq_true rfl) ?_
  have hC : zC G c3 A s ([(h0, .inr (6, [.null, .null, .null, .int 0, .null, .int 0, .null, .int 0, .null, .int 0, .int 0, .int 0, .null, .int 0, .int 0, .int 0, .int 0]))] ++ [(q0, .inl (c3.1, 150, .inl (fun _ => 0)))]) H locs := hC
  refine zi_putF S0 hC (ci := 6) (C := RX6) (T := TX6) (N := 17) (v := .ref q0) jX6_init_X6 tyX6 tyX6_ok nmX6 0 rfl rfl 0 (by decide) kX6_init_7 rfl rfl hin rfl rfl rfl (Nat.le_of_ble_eq_true rfl) dX6_init_10 (ws2 := ([(h0, .inr (6, [.ref q0, .null, .null, .int 0, .null, .int 0, .null, .int 0, .null, .int 0, .int 0, .int 0, .null, .int 0, .int 0, .int 0, .int 0]))] ++ [(q0, .inl (c3.1, 150, .inl (fun _ => 0)))])) rfl (fun H locs hC => ?_)
  refine lv_aload_n hx hb dX6_init_13 rfl (lv_at hl 0 rfl) ?_
  refine lv_sipush (v := 150) hx hb dX6_init_14 (by decide) ?_
  refine zi_newa S0 hC (atype := .int) (ty := .int) rfl kX6_init_arint 0 rfl (fun _ _ h => h) (N := 150) (by decide) (by decide) rfl (Nat.le_of_ble_eq_true rfl) (Nat.le_of_ble_eq_true rfl) (Nat.le_of_ble_eq_true rfl) dX6_init_17 (fun q1 H hC => ?_)
  refine W.widen (k := 2) (n := 300) (Nat.le_of_ble_eq_true rfl) (Nat.le_of_ble_eq_true rfl) ?_
  have hC : zC G c3 A s ([(h0, .inr (6, [.ref q0, .null, .null, .int 0, .null, .int 0, .null, .int 0, .null, .int 0, .int 0, .int 0, .null, .int 0, .int 0, .int 0, .int 0]))] ++ [(q0, .inl (c3.1, 150, .inl (fun _ => 0)))] ++ [(q1, .inl (c3.1, 150, .inl (fun _ => 0)))]) H locs := hC
  refine zi_putF S0 hC (ci := 6) (C := RX6) (T := TX6) (N := 17) (v := .ref q1) jX6_init_X6 tyX6 tyX6_ok nmX6 0 rfl rfl 1 (by decide) kX6_init_13 rfl rfl hin rfl rfl rfl (Nat.le_of_ble_eq_true rfl) dX6_init_19 (ws2 := ([(h0, .inr (6, [.ref q0, .ref q1, .null, .int 0, .null, .int 0, .null, .int 0, .null, .int 0, .int 0, .int 0, .null, .int 0, .int 0, .int 0, .int 0]))] ++ [(q0, .inl (c3.1, 150, .inl (fun _ => 0)))] ++ [(q1, .inl (c3.1, 150, .inl (fun _ => 0)))])) rfl (fun H locs hC => ?_)
  refine lv_aload_n hx hb dX6_init_22 rfl (lv_at hl 0 rfl) ?_
  refine lv_sipush (v := 600) hx hb dX6_init_23 (by decide) ?_
  refine zi_newa S0 hC (atype := .int) (ty := .int) rfl kX6_init_arint 0 rfl (fun _ _ h => h) (N := 600) (by decide) (by decide) rfl (Nat.le_of_ble_eq_true rfl) (Nat.le_of_ble_eq_true rfl) (Nat.le_of_ble_eq_true rfl) dX6_init_26 (fun q2 H hC => ?_)
  refine W.widen (k := 3) (n := 900) (Nat.le_of_ble_eq_true rfl) (Nat.le_of_ble_eq_true rfl) ?_
  have hC : zC G c3 A s ([(h0, .inr (6, [.ref q0, .ref q1, .null, .int 0, .null, .int 0, .null, .int 0, .null, .int 0, .int 0, .int 0, .null, .int 0, .int 0, .int 0, .int 0]))] ++ [(q0, .inl (c3.1, 150, .inl (fun _ => 0)))] ++ [(q1, .inl (c3.1, 150, .inl (fun _ => 0)))] ++ [(q2, .inl (c3.1, 600, .inl (fun _ => 0)))]) H locs := hC
  refine zi_putF S0 hC (ci := 6) (C := RX6) (T := TX6) (N := 17) (v := .ref q2) jX6_init_X6 tyX6 tyX6_ok nmX6 0 rfl rfl 2 (by decide) kX6_init_16 rfl rfl hin rfl rfl rfl (Nat.le_of_ble_eq_true rfl) dX6_init_28 (ws2 := ([(h0, .inr (6, [.ref q0, .ref q1, .ref q2, .int 0, .null, .int 0, .null, .int 0, .null, .int 0, .int 0, .int 0, .null, .int 0, .int 0, .int 0, .int 0]))] ++ [(q0, .inl (c3.1, 150, .inl (fun _ => 0)))] ++ [(q1, .inl (c3.1, 150, .inl (fun _ => 0)))] ++ [(q2, .inl (c3.1, 600, .inl (fun _ => 0)))])) rfl (fun H locs hC => ?_)
  refine lv_aload_n hx hb dX6_init_31 rfl (lv_at hl 0 rfl) ?_
  refine lv_sipush (v := 150) hx hb dX6_init_32 (by decide) ?_
  refine zi_newa S0 hC (atype := .int) (ty := .int) rfl kX6_init_arint 0 rfl (fun _ _ h => h) (N := 150) (by decide) (by decide) rfl (Nat.le_of_ble_eq_true rfl) (Nat.le_of_ble_eq_true rfl) (Nat.le_of_ble_eq_true rfl) dX6_init_35 (fun q3 H hC => ?_)
  refine W.widen (k := 4) (n := 1050) (Nat.le_of_ble_eq_true rfl) (Nat.le_of_ble_eq_true rfl) ?_
  have hC : zC G c3 A s ([(h0, .inr (6, [.ref q0, .ref q1, .ref q2, .int 0, .null, .int 0, .null, .int 0, .null, .int 0, .int 0, .int 0, .null, .int 0, .int 0, .int 0, .int 0]))] ++ [(q0, .inl (c3.1, 150, .inl (fun _ => 0)))] ++ [(q1, .inl (c3.1, 150, .inl (fun _ => 0)))] ++ [(q2, .inl (c3.1, 600, .inl (fun _ => 0)))] ++ [(q3, .inl (c3.1, 150, .inl (fun _ => 0)))]) H locs := hC
  refine zi_putF S0 hC (ci := 6) (C := RX6) (T := TX6) (N := 17) (v := .ref q3) jX6_init_X6 tyX6 tyX6_ok nmX6 0 rfl rfl 4 (by decide) kX6_init_19 rfl rfl hin rfl rfl rfl (Nat.le_of_ble_eq_true rfl) dX6_init_37 (ws2 := ([(h0, .inr (6, [.ref q0, .ref q1, .ref q2, .int 0, .ref q3, .int 0, .null, .int 0, .null, .int 0, .int 0, .int 0, .null, .int 0, .int 0, .int 0, .int 0]))] ++ [(q0, .inl (c3.1, 150, .inl (fun _ => 0)))] ++ [(q1, .inl (c3.1, 150, .inl (fun _ => 0)))] ++ [(q2, .inl (c3.1, 600, .inl (fun _ => 0)))] ++ [(q3, .inl (c3.1, 150, .inl (fun _ => 0)))])) rfl (fun H locs hC => ?_)
  refine lv_aload_n hx hb dX6_init_40 rfl (lv_at hl 0 rfl) ?_
  refine lv_bipush (v := 60) hx hb dX6_init_41 (by decide) ?_
  refine zi_newa S0 hC (atype := .int) (ty := .int) rfl kX6_init_arint 0 rfl (fun _ _ h => h) (N := 60) (by decide) (by decide) rfl (Nat.le_of_ble_eq_true rfl) (Nat.le_of_ble_eq_true rfl) (Nat.le_of_ble_eq_true rfl) dX6_init_43 (fun q4 H hC => ?_)
  refine W.widen (k := 5) (n := 1110) (Nat.le_of_ble_eq_true rfl) (Nat.le_of_ble_eq_true rfl) ?_
  have hC : zC G c3 A s ([(h0, .inr (6, [.ref q0, .ref q1, .ref q2, .int 0, .ref q3, .int 0, .null, .int 0, .null, .int 0, .int 0, .int 0, .null, .int 0, .int 0, .int 0, .int 0]))] ++ [(q0, .inl (c3.1, 150, .inl (fun _ => 0)))] ++ [(q1, .inl (c3.1, 150, .inl (fun _ => 0)))] ++ [(q2, .inl (c3.1, 600, .inl (fun _ => 0)))] ++ [(q3, .inl (c3.1, 150, .inl (fun _ => 0)))] ++ [(q4, .inl (c3.1, 60, .inl (fun _ => 0)))]) H locs := hC
  refine zi_putF S0 hC (ci := 6) (C := RX6) (T := TX6) (N := 17) (v := .ref q4) jX6_init_X6 tyX6 tyX6_ok nmX6 0 rfl rfl 6 (by decide) kX6_init_22 rfl rfl hin rfl rfl rfl (Nat.le_of_ble_eq_true rfl) dX6_init_45 (ws2 := ([(h0, .inr (6, [.ref q0, .ref q1, .ref q2, .int 0, .ref q3, .int 0, .ref q4, .int 0, .null, .int 0, .int 0, .int 0, .null, .int 0, .int 0, .int 0, .int 0]))] ++ [(q0, .inl (c3.1, 150, .inl (fun _ => 0)))] ++ [(q1, .inl (c3.1, 150, .inl (fun _ => 0)))] ++ [(q2, .inl (c3.1, 600, .inl (fun _ => 0)))] ++ [(q3, .inl (c3.1, 150, .inl (fun _ => 0)))] ++ [(q4, .inl (c3.1, 60, .inl (fun _ => 0)))])) rfl (fun H locs hC => ?_)
  refine lv_aload_n hx hb dX6_init_48 rfl (lv_at hl 0 rfl) ?_
  refine lv_bipush (v := 10) hx hb dX6_init_49 (by decide) ?_
  refine zi_newa S0 hC (atype := .boolean) (ty := .boolean) rfl kX6_init_arboolean 2 rfl (fun _ _ h => h) (N := 10) (by decide) (by decide) rfl (Nat.le_of_ble_eq_true rfl) (Nat.le_of_ble_eq_true rfl) (Nat.le_of_ble_eq_true rfl) dX6_init_51 (fun q5 H hC => ?_)
  refine W.widen (k := 6) (n := 1120) (Nat.le_of_ble_eq_true rfl) (Nat.le_of_ble_eq_true rfl) ?_
  have hC : zC G c3 A s ([(h0, .inr (6, [.ref q0, .ref q1, .ref q2, .int 0, .ref q3, .int 0, .ref q4, .int 0, .null, .int 0, .int 0, .int 0, .null, .int 0, .int 0, .int 0, .int 0]))] ++ [(q0, .inl (c3.1, 150, .inl (fun _ => 0)))] ++ [(q1, .inl (c3.1, 150, .inl (fun _ => 0)))] ++ [(q2, .inl (c3.1, 600, .inl (fun _ => 0)))] ++ [(q3, .inl (c3.1, 150, .inl (fun _ => 0)))] ++ [(q4, .inl (c3.1, 60, .inl (fun _ => 0)))] ++ [(q5, .inl (c3.2.2, 10, .inl (fun _ => 0)))]) H locs := hC
  refine zi_putF S0 hC (ci := 6) (C := RX6) (T := TX6) (N := 17) (v := .ref q5) jX6_init_X6 tyX6 tyX6_ok nmX6 0 rfl rfl 8 (by decide) kX6_init_25 rfl rfl hin rfl rfl rfl (Nat.le_of_ble_eq_true rfl) dX6_init_53 (ws2 := ([(h0, .inr (6, [.ref q0, .ref q1, .ref q2, .int 0, .ref q3, .int 0, .ref q4, .int 0, .ref q5, .int 0, .int 0, .int 0, .null, .int 0, .int 0, .int 0, .int 0]))] ++ [(q0, .inl (c3.1, 150, .inl (fun _ => 0)))] ++ [(q1, .inl (c3.1, 150, .inl (fun _ => 0)))] ++ [(q2, .inl (c3.1, 600, .inl (fun _ => 0)))] ++ [(q3, .inl (c3.1, 150, .inl (fun _ => 0)))] ++ [(q4, .inl (c3.1, 60, .inl (fun _ => 0)))] ++ [(q5, .inl (c3.2.2, 10, .inl (fun _ => 0)))])) rfl (fun H locs hC => ?_)
  refine lv_aload_n hx hb dX6_init_56 rfl (lv_at hl 0 rfl) ?_
  refine lv_bipush (v := 84) hx hb dX6_init_57 (by decide) ?_
  refine zi_newa S0 hC (atype := .int) (ty := .int) rfl kX6_init_arint 0 rfl (fun _ _ h => h) (N := 84) (by decide) (by decide) rfl (Nat.le_of_ble_eq_true rfl) (Nat.le_of_ble_eq_true rfl) (Nat.le_of_ble_eq_true rfl) dX6_init_59 (fun q6 H hC => ?_)
  refine W.widen (k := 7) (n := 1204) (Nat.le_of_ble_eq_true rfl) (Nat.le_of_ble_eq_true rfl) ?_
  have hC : zC G c3 A s ([(h0, .inr (6, [.ref q0, .ref q1, .ref q2, .int 0, .ref q3, .int 0, .ref q4, .int 0, .ref q5, .int 0, .int 0, .int 0, .null, .int 0, .int 0, .int 0, .int 0]))] ++ [(q0, .inl (c3.1, 150, .inl (fun _ => 0)))] ++ [(q1, .inl (c3.1, 150, .inl (fun _ => 0)))] ++ [(q2, .inl (c3.1, 600, .inl (fun _ => 0)))] ++ [(q3, .inl (c3.1, 150, .inl (fun _ => 0)))] ++ [(q4, .inl (c3.1, 60, .inl (fun _ => 0)))] ++ [(q5, .inl (c3.2.2, 10, .inl (fun _ => 0)))] ++ [(q6, .inl (c3.1, 84, .inl (fun _ => 0)))]) H locs := hC
  refine zi_putF S0 hC (ci := 6) (C := RX6) (T := TX6) (N := 17) (v := .ref q6) jX6_init_X6 tyX6 tyX6_ok nmX6 0 rfl rfl 12 (by decide) kX6_init_29 rfl rfl hin rfl rfl rfl (Nat.le_of_ble_eq_true rfl) dX6_init_61 (ws2 := ([(h0, .inr (6, [.ref q0, .ref q1, .ref q2, .int 0, .ref q3, .int 0, .ref q4, .int 0, .ref q5, .int 0, .int 0, .int 0, .ref q6, .int 0, .int 0, .int 0, .int 0]))] ++ [(q0, .inl (c3.1, 150, .inl (fun _ => 0)))] ++ [(q1, .inl (c3.1, 150, .inl (fun _ => 0)))] ++ [(q2, .inl (c3.1, 600, .inl (fun _ => 0)))] ++ [(q3, .inl (c3.1, 150, .inl (fun _ => 0)))] ++ [(q4, .inl (c3.1, 60, .inl (fun _ => 0)))] ++ [(q5, .inl (c3.2.2, 10, .inl (fun _ => 0)))] ++ [(q6, .inl (c3.1, 84, .inl (fun _ => 0)))])) rfl (fun H locs hC => ?_)
  refine lv_aload_n hx hb dX6_init_64 rfl (lv_at hl 0 rfl) ?_
  refine zi_get S0 hC (ci := 6) (C := RX6) (T := TX6) (N := 17) (v := .ref q0) jX6_init_X6 0 rfl rfl 0 (by decide) kX6_init_7 rfl rfl dX6_init_65 ?_
  refine lv_bipush (v := 9) hx hb dX6_init_68 (by decide) ?_
  refine lv_bipush (v := 6) hx hb dX6_init_70 (by decide) ?_
  refine zi_iast S0 hC 1 rfl (show zast 150 (fun _ => 0) 9 6 = some (upd (fun _ => 0) 9 6) from if_pos (by decide)) dX6_init_72 (ws2 := ([(h0, .inr (6, [.ref q0, .ref q1, .ref q2, .int 0, .ref q3, .int 0, .ref q4, .int 0, .ref q5, .int 0, .int 0, .int 0, .ref q6, .int 0, .int 0, .int 0, .int 0]))] ++ [(q0, .inl (c3.1, 150, .inl (upd (fun _ => 0) 9 6)))] ++ [(q1, .inl (c3.1, 150, .inl (fun _ => 0)))] ++ [(q2, .inl (c3.1, 600, .inl (fun _ => 0)))] ++ [(q3, .inl (c3.1, 150, .inl (fun _ => 0)))] ++ [(q4, .inl (c3.1, 60, .inl (fun _ => 0)))] ++ [(q5, .inl (c3.2.2, 10, .inl (fun _ => 0)))] ++ [(q6, .inl (c3.1, 84, .inl (fun _ => 0)))])) rfl (fun H locs hC => ?_)
  refine lv_aload_n hx hb dX6_init_73 rfl (lv_at hl 0 rfl) ?_
  refine zi_get S0 hC (ci := 6) (C := RX6) (T := TX6) (N := 17) (v := .ref q0) jX6_init_X6 0 rfl rfl 0 (by decide) kX6_init_7 rfl rfl dX6_init_74 ?_
  refine lv_bipush (v := 11) hx hb dX6_init_77 (by decide) ?_
  refine lv_bipush (v := 10) hx hb dX6_init_79 (by decide) ?_
  refine zi_iast S0 hC 1 rfl (show zast 150 (upd (fun _ => 0) 9 6) 11 10 = some (upd (upd (fun _ => 0) 9 6) 11 10) from if_pos (by decide)) dX6_init_81 (ws2 := ([(h0, .inr (6, [.ref q0, .ref q1, .ref q2, .int 0, .ref q3, .int 0, .ref q4, .int 0, .ref q5, .int 0, .int 0, .int 0, .ref q6, .int 0, .int 0, .int 0, .int 0]))] ++ [(q0, .inl (c3.1, 150, .inl (upd (upd (fun _ => 0) 9 6) 11 10)))] ++ [(q1, .inl (c3.1, 150, .inl (fun _ => 0)))] ++ [(q2, .inl (c3.1, 600, .inl (fun _ => 0)))] ++ [(q3, .inl (c3.1, 150, .inl (fun _ => 0)))] ++ [(q4, .inl (c3.1, 60, .inl (fun _ => 0)))] ++ [(q5, .inl (c3.2.2, 10, .inl (fun _ => 0)))] ++ [(q6, .inl (c3.1, 84, .inl (fun _ => 0)))])) rfl (fun H locs hC => ?_)
  have hC := hC.perm (ws2 := zwM c3.1 c3.2.2 (h0, q0, q1, q2, q3, q4, q5, q6) zM0) [0, 1, 2, 3, 4, 5, 6, 7] (by decide) rfl
  exact zi_vret S0 hr hlk ⟨_, ⟨(h0, q0, q1, q2, q3, q4, q5, q6), rfl, rfl⟩, hC⟩ dX6_init_82
theorem zd_0 : decode code 0 = .ok (.new 7, 3) := by decide +kernel
theorem zd_3 : decode code 3 = .ok (.dup, 1) := by decide +kernel
theorem zd_4 : decode code 4 = .ok (.invokespecial 9, 3) := by decide +kernel
theorem zd_7 : decode code 7 = .ok (.astore_n 1, 1) := by decide +kernel
theorem zd_8 : decode code 8 = .ok (.new 10, 3) := by decide +kernel
theorem zd_11 : decode code 11 = .ok (.dup, 1) := by decide +kernel
theorem zd_12 : decode code 12 = .ok (.invokespecial 12, 3) := by decide +kernel
theorem zd_15 : decode code 15 = .ok (.astore_n 2, 1) := by decide +kernel
theorem zd_16 : decode code 16 = .ok (.iconst 0, 1) := by decide +kernel
theorem zd_17 : decode code 17 = .ok (.istore_n 3, 1) := by decide +kernel
theorem zd_18 : decode code 18 = .ok (.iload_n 3, 1) := by decide +kernel
theorem zd_19 : decode code 19 = .ok (.aload_n 0, 1) := by decide +kernel
theorem zd_20 : decode code 20 = .ok (.arraylength, 1) := by decide +kernel
theorem zd_21 : decode code 21 = .ok (.iconst 5, 1) := by decide +kernel
theorem zd_22 : decode code 22 = .ok (.isub, 1) := by decide +kernel
theorem zd_23 : decode code 23 = .ok (.if_icmp .gt 795, 3) := by decide +kernel
theorem zd_818 : decode code 818 = .ok (.iconst 1, 1) := by decide +kernel
theorem zd_819 : decode code 819 = .ok (.ireturn, 1) := by decide +kernel
set_option maxRecDepth 100000 in
theorem zin_X0 : ∀ w ∈ u_ws RX0 TX0 5, w ∈ lw_tbl := by decide +kernel
set_option maxRecDepth 100000 in
theorem zii_X0 : Cond.instantiable RX0 5 ∈ lw_tbl := by decide +kernel
set_option maxRecDepth 100000 in
theorem zin_X1 : ∀ w ∈ u_ws RX1 TX1 14, w ∈ lw_tbl := by decide +kernel
set_option maxRecDepth 100000 in
theorem zii_X1 : Cond.instantiable RX1 14 ∈ lw_tbl := by decide +kernel
set_option maxRecDepth 100000 in
theorem zin_X2 : ∀ w ∈ u_ws RX2 TX2 5, w ∈ lw_tbl := by decide +kernel
set_option maxRecDepth 100000 in
theorem zii_X2 : Cond.instantiable RX2 5 ∈ lw_tbl := by decide +kernel
set_option maxRecDepth 100000 in
theorem zin_X3 : ∀ w ∈ u_ws RX3 TX3 5, w ∈ lw_tbl := by decide +kernel
set_option maxRecDepth 100000 in
theorem zii_X3 : Cond.instantiable RX3 5 ∈ lw_tbl := by decide +kernel
set_option maxRecDepth 100000 in
theorem zin_X4 : ∀ w ∈ u_ws RX4 TX4 3, w ∈ lw_tbl := by decide +kernel
set_option maxRecDepth 100000 in
theorem zii_X4 : Cond.instantiable RX4 3 ∈ lw_tbl := by decide +kernel
set_option maxRecDepth 100000 in
theorem zin_X5 : ∀ w ∈ u_ws RX5 TX5 7, w ∈ lw_tbl := by decide +kernel
set_option maxRecDepth 100000 in
theorem zii_X5 : Cond.instantiable RX5 7 ∈ lw_tbl := by decide +kernel
set_option maxRecDepth 100000 in
theorem zin_X6 : ∀ w ∈ u_ws RX6 TX6 17, w ∈ lw_tbl := by decide +kernel
set_option maxRecDepth 100000 in
theorem zii_X6 : Cond.instantiable RX6 17 ∈ lw_tbl := by decide +kernel
set_option maxRecDepth 100000 in
theorem zw_c5 : Cond.classLink RL 7 RX5 ∈ lw_tbl := by decide +kernel
set_option maxRecDepth 100000 in
theorem zw_c6 : Cond.classLink RL 10 RX6 ∈ lw_tbl := by decide +kernel
set_option maxRecDepth 100000 in
theorem zw_n5 : Cond.initialized RX5 ∈ lw_tbl := by decide +kernel
set_option maxRecDepth 100000 in
theorem zw_n6 : Cond.initialized RX6 ∈ lw_tbl := by decide +kernel
set_option maxRecDepth 100000 in
theorem zw_m5 : Cond.methodLink RL 9 yX5_init ∈ lw_tbl := by decide +kernel
set_option maxRecDepth 100000 in
theorem zw_m6 : Cond.methodLink RL 12 yX6_init ∈ lw_tbl := by decide +kernel
set_option maxRecDepth 100000 in
theorem zw_k5 : Cond.instanceMethod yX5_init ∈ lw_tbl := by decide +kernel
set_option maxRecDepth 100000 in
theorem zw_k6 : Cond.instanceMethod yX6_init ∈ lw_tbl := by decide +kernel
set_option maxRecDepth 100000 in
theorem zw_ai : Cond.arrayClass .int ∈ lw_tbl := by decide +kernel
set_option maxRecDepth 100000 in
theorem zw_ac : Cond.arrayClass .char ∈ lw_tbl := by decide +kernel
set_option maxRecDepth 100000 in
theorem zw_az : Cond.arrayClass .boolean ∈ lw_tbl := by decide +kernel
set_option maxRecDepth 100000 in
theorem zg_5 : GoodIn lw_tbl wsX5_init := goodIn_p _ [68, 71, 76, 82, 98, 123, 147, 207] (by decide +kernel) (by decide +kernel)
set_option maxRecDepth 100000 in
theorem zg_6 : GoodIn lw_tbl wsX6_init := goodIn_p _ [645, 71] (by decide +kernel) (by decide +kernel)
theorem z_arr {s : State} {args : Array Value} {ty : FieldType} (hr : refKind ty = false) (h : (Cond.arrayClass ty).before args s = true) : ∃ cA : ClassId, ArrOfT s cA ty ∧ s.vm.findClass ("[" ++ ty.toString) = some cA := by
  obtain ⟨cA, kA, comp, h1, h2, h3⟩ := Cond.arrayClass_spec h
  exact ⟨cA, fun n z => ⟨fun k e => (by cases e), kA, h2, comp, h3⟩, h1⟩
/-- what the tables give at the law's entry -/
theorem z_known {s : State} {args : Array Value} (hts : ∀ w ∈ lw_tbl, w.before args s = true) : ∃ (G : va_G) (c3 : zT3), zK G c3 s ∧ zNM s := by
  obtain ⟨a0, b0, k0⟩ := u_known (C := RX0) (T := TX0) (N := 5) (n := 5) hts zin_X0 (hts _ zii_X0)
  obtain ⟨a1, b1, k1⟩ := u_known (C := RX1) (T := TX1) (N := 14) (n := 14) hts zin_X1 (hts _ zii_X1)
  obtain ⟨a2, b2, k2⟩ := u_known (C := RX2) (T := TX2) (N := 5) (n := 5) hts zin_X2 (hts _ zii_X2)
  obtain ⟨a3, b3, k3⟩ := u_known (C := RX3) (T := TX3) (N := 5) (n := 5) hts zin_X3 (hts _ zii_X3)
  obtain ⟨a4, b4, k4⟩ := u_known (C := RX4) (T := TX4) (N := 3) (n := 3) hts zin_X4 (hts _ zii_X4)
  obtain ⟨a5, b5, k5⟩ := u_known (C := RX5) (T := TX5) (N := 7) (n := 7) hts zin_X5 (hts _ zii_X5)
  obtain ⟨a6, b6, k6⟩ := u_known (C := RX6) (T := TX6) (N := 17) (n := 17) hts zin_X6 (hts _ zii_X6)
  obtain ⟨cI, i1, i2⟩ := z_arr (ty := .int) rfl (hts _ zw_ai)
  obtain ⟨cC, c1, c2⟩ := z_arr (ty := .char) rfl (hts _ zw_ac)
  obtain ⟨cZ, e1, e2⟩ := z_arr (ty := .boolean) rfl (hts _ zw_az)
  refine ⟨(fun k => if k = 0 then a0 else if k = 1 then a1 else if k = 2 then a2 else if k = 3 then a3 else if k = 4 then a4 else if k = 5 then a5 else a6, fun k => if k = 0 then b0 else if k = 1 then b1 else if k = 2 then b2 else if k = 3 then b3 else if k = 4 then b4 else if k = 5 then b5 else b6), (cI, cC, cZ), ⟨⟨?_, ?_⟩, ?_⟩, ?_⟩
  · intro k q hq
    match k, hq with
    | 0, hq => cases hq; exact k0
    | 1, hq => cases hq; exact k1
    | 2, hq => cases hq; exact k2
    | 3, hq => cases hq; exact k3
    | 4, hq => cases hq; exact k4
    | 5, hq => cases hq; exact k5
    | 6, hq => cases hq; exact k6
    | k + 7, hq => simp [vwCl] at hq
  · intro k q hq
    match k, hq with
    | 0, hq => cases hq; exact ⟨i1, i2⟩
    | 1, hq => cases hq; exact ⟨c1, c2⟩
    | 2, hq => cases hq; exact ⟨e1, e2⟩
    | k + 3, hq => simp [zty] at hq
  · intro w hw
    have h1 := hts w (List.mem_append_right _ (zNW_tbl w hw))
    obtain ⟨a, i, b, n, d, k, rfl⟩ := zNW_fl w hw
    exact va_Nw.of rfl h1
  · intro w hw
    have h1 := hts w (List.mem_append_right _ (zNMw_tbl w hw))
    obtain ⟨a, i, x, k, rfl⟩ := zNMw_ml w hw
    exact va_Nw.of rfl h1
theorem z_setsum : ∀ (l : List Nat) (i n : Nat), l[i]? = some n → (l.set i 0).sum + n = l.sum
  | [], i, n, h => by simp at h
  | a :: l, 0, n, h => by
    have e : a = n := by simpa using h
    subst e
    simp only [List.set_cons_zero, List.sum_cons]
    omega
  | a :: l, i + 1, n, h => by
    have h1 := z_setsum l i n (by simpa using h)
    simp only [List.set_cons_succ, List.sum_cons]
    omega
theorem z_sumle (ad sz : Nat → Nat) : ∀ (ks : List Nat) (l : List Nat), ks.Nodup → (∀ k ∈ ks, l[ad k]? = some (sz k)) → (∀ k ∈ ks, ∀ j ∈ ks, ad k = ad j → k = j) → (ks.map sz).sum ≤ l.sum
  | [], l, _, _, _ => Nat.zero_le _
  | k :: ks, l, hn, h, hi => by
    have h1 := z_setsum l (ad k) (sz k) (h k List.mem_cons_self)
    have hn2 := List.nodup_cons.mp hn
    have h2 := z_sumle ad sz ks (l.set (ad k) 0) hn2.2 (fun j hj => by
      rw [List.getElem?_set_ne (fun e => hn2.1 (by rw [hi k List.mem_cons_self j (List.mem_cons_of_mem _ hj) e]; exact hj))]
      exact h j (List.mem_cons_of_mem _ hj)) (fun j hj i hi2 => hi j (List.mem_cons_of_mem _ hj) i (List.mem_cons_of_mem _ hi2))
    simp only [List.map_cons, List.sum_cons]
    omega
/-- arrays of a world that are new take at least their sizes of the new slots -/
theorem z_big {G : va_G} {ws : va_W} {H : Heap} {N : Nat} (hP : va_P G vwCl ws H) (hD : va_D (fun q => N ≤ q) ws) (ks : List Nat) (hn : ks.Nodup) (sz : Nat → Nat) (hk : ∀ k ∈ ks, ∃ (q : Nat) (cX : ClassId) (f : Nat → Int32), ws[k]? = some (q, .inl (cX, (sz k, .inl f)))) : (ks.map sz).sum ≤ ((H.toList.drop N).map (fun c => c.slots.size)).sum := by
  refine z_sumle (fun k => ((ws[k]?).map (fun q => q.1)).getD 0 - N) sz ks _ hn ?_ ?_
  · intro k hkm
    obtain ⟨q, cX, f, h1⟩ := hk k hkm
    have h2 : H[q]? = some (vp_cell cX (sz k, .inl f)) := hP k _ h1
    have h3 : N ≤ q := hD.2 k _ h1
    show ((H.toList.drop N).map (fun c => c.slots.size))[((ws[k]?).map (fun q => q.1)).getD 0 - N]? = some (sz k)
    rw [h1]
    show ((H.toList.drop N).map (fun c => c.slots.size))[q - N]? = some (sz k)
    rw [List.getElem?_map, List.getElem?_drop, Nat.add_sub_cancel' h3, Array.getElem?_toList, h2]
    show some ((vp_cell cX (sz k, .inl f)).slots.size) = some (sz k)
    rw [vp_cell_i, arrV_size]
  · intro k hkm j hjm e
    obtain ⟨q, cX, f, h1⟩ := hk k hkm
    obtain ⟨q2, cX2, f2, h2⟩ := hk j hjm
    have h3 : N ≤ q := hD.2 k _ h1
    have h4 : N ≤ q2 := hD.2 j _ h2
    have e2 : q - N = q2 - N := by
      have e3 : ((ws[k]?).map (fun q => q.1)).getD 0 - N = ((ws[j]?).map (fun q => q.1)).getD 0 - N := e
      rw [h1, h2] at e3
      exact e3
    exact hD.1 k j _ _ h1 h2 (show q = q2 by omega)
/-- the room that the law takes at any script: the class's 48 cells with 1150 slots, the reference's 8 with 1221 -/
def lw_At0 (p : Program) (s : State) (m : MethodId) (meth : Method) (c : Code) (b : Nat) : Prop :=
  p.tables.exec = Jvm.exec ∧ c.code = code ∧ meth.sig.returnType = ret ∧ c.maxLocals = 8 ∧ s.vm.findClass RL = some m.cls ∧ (∀ w ∈ lw_tbl, w.before #[Value.ref b] s = true) ∧ va_X b 0 (fun _ => 0) s s.heap ∧ b < s.heap.size ∧ meth.locks = false
def zR2371 : Room := ⟨9, 56, 2371, 330⟩
theorem z_lawret {p : Program} {l : Launch} {e : Env} {R : Room} {s : State} {m : MethodId} {args : Array Value} {below : List Frame} {meth : Method} {c : Code} {H : Heap} {locs : List Loc} {cells slots : Nat} {Qh : Heap → Prop} (hx : p.tables.exec = Jvm.exec) (hb : c.code = code) (hr : meth.sig.returnType = ret) (hlocks : meth.locks = false) {pc : Nat} {ls : Array Slot} (hQ : Qh H) (hdg : decode code pc = .ok (.ireturn, 1)) : W p l e R s m args below meth c H locs cells slots (fun t => ∃ o, t.status = .running ∧ Ended t below o ∧ Qh t.heap) (F0 m pc ls [.int 1]) := by
  intro T hT X
  obtain ⟨fs, hret, hrun, hended, hW, hframe⟩ := X.leave (v := some (.int 1)) (hlocks := hlocks) (fun h => by rw [hr] at h; cases h)
  have hmeth' : T.vm.method? m = some meth := X.method'
  refine ⟨T.setFrames fs, ?_, .returned (some (.int 1)), hrun, hended, by rw [show (T.setFrames fs).heap = T.heap from rfl, hT]; exact hQ⟩
  jvm_step X.here [X.here.top, hx, hb, hdg, hmeth', hr, ret, narrow_b1]
  (try refine ⟨rfl, ?_⟩); (try refine ⟨rfl, ?_⟩)
  first | (intro acts; rw [hret _ acts rfl rfl rfl]) | rw [hret _ _ rfl rfl rfl]
  exact Steps.refl _
set_option maxHeartbeats 4000000 in
set_option maxRecDepth 100000 in
/-- the law, from its entry to its end, at a script of no ints: its new cells take more than 1489 slots -/
theorem z_law0 {p : Program} {l : Launch} {e : Env} {s : State} {m : MethodId} {below : List Frame} {meth : Method} {c : Code} {b : Nat} (C0 : lw_At0 p s m meth c b) : W p l e zR2371 s m #[Value.ref b] below meth c s.heap [] 0 0 (fun t => ∃ o, t.status = .running ∧ Ended t below o ∧ 1489 < ((t.heap.toList.drop s.heap.size).map (fun c => c.slots.size)).sum) (entryFrame m ([Value.ref b] : List Value).toArray 8) := by
  obtain ⟨hx, hb, hr, hml, hown, hts, hX, hbl, hlocks⟩ := C0
  obtain ⟨G, c3, hK, hN⟩ := z_known hts
  have S0 : CallFix p m c code 8 s #[Value.ref b] lw_tbl RL := ⟨hx, hb, hml, hown, hts⟩
  have hC : zC G c3 (fun q => s.heap.size ≤ q) s [] s.heap [] := ⟨hK, fun k q h => by simp at h, ⟨fun i j p q h => by simp at h, fun k q h => by simp at h⟩, va_S.rf, fun _ h => h⟩
  have hl := lv_entry ([.ref b]) (n := 8) (Nat.le_of_ble_eq_true rfl)
  rw [lg_entry_eq]
  generalize (lg_sl ([.ref b]) ++ List.replicate (8 - (lg_sl ([.ref b])).length) Slot.unset).toArray = ls at hl ⊢
  have hl : lv_has ls 8 [(0, .ref b)] := hl
  have hbA : ¬ (fun q : Nat => s.heap.size ≤ q) b := Nat.not_le.mpr hbl
  refine zi_new S0 hC (ci := 5) (fs := [.null, .null, .null, .null, .null, .null, .int 0]) (C := RX5) (T := TX5) (N := 7) zin_X5 tyX5 tyX5_ok zw_c5 zii_X5 zw_n5 rfl (fun j hj => by rcases (show j = 0 ∨ j = 1 ∨ j = 2 ∨ j = 3 ∨ j = 4 ∨ j = 5 ∨ j = 6 by omega) with rfl | rfl | rfl | rfl | rfl | rfl | rfl <;> rfl) (Nat.le_of_ble_eq_true rfl) (Nat.le_of_ble_eq_true rfl) zd_0 (fun h0 H hC => ?_)
  refine W.widen (k := 1) (n := 7) (Nat.le_of_ble_eq_true rfl) (Nat.le_of_ble_eq_true rfl) ?_
  have hC : zC G c3 (fun q => s.heap.size ≤ q) s [(h0, .inr (5, [.null, .null, .null, .null, .null, .null, .int 0]))] H [] := hC
  refine lv_dup hx hb zd_3 rfl ?_
  refine zi_call (zi_runI (n := 0) (rest := [.ref h0]) (As := []) S0 hC hN (c_X5_init l G c3 h0) [0] (by decide) rfl zg_5 rfl rfl rfl zw_n5 zw_m5 zw_k5 rfl (by decide +kernel) ⟨Nat.le_of_ble_eq_true rfl, Nat.le_of_ble_eq_true rfl⟩ rfl hl.1 rfl (Nat.le_of_ble_eq_true rfl) zd_4 ⟨Nat.le_of_ble_eq_true rfl, Nat.le_of_ble_eq_true rfl⟩) hC [0] [] rfl (wr := ([] : va_W)) rfl (by decide) (by decide) (fun w1 H locs hP1 hC => ?_)
  obtain ⟨oN, oT, oK, oH, o1, o2, o3, o4, oP, oV, rfl⟩ := hP1
  refine W.widen (k := 48) (n := 1150) (Nat.le_of_ble_eq_true rfl) (Nat.le_of_ble_eq_true rfl) ?_
  refine lv_astore_n (lv' := [(1, .ref h0), (0, .ref b)]) hx hb zd_7 rfl hl (by decide) rfl (fun ls hl => ?_)
  refine zi_new S0 hC (ci := 6) (fs := [.null, .null, .null, .int 0, .null, .int 0, .null, .int 0, .null, .int 0, .int 0, .int 0, .null, .int 0, .int 0, .int 0, .int 0]) (C := RX6) (T := TX6) (N := 17) zin_X6 tyX6 tyX6_ok zw_c6 zii_X6 zw_n6 rfl (fun j hj => by rcases (show j = 0 ∨ j = 1 ∨ j = 2 ∨ j = 3 ∨ j = 4 ∨ j = 5 ∨ j = 6 ∨ j = 7 ∨ j = 8 ∨ j = 9 ∨ j = 10 ∨ j = 11 ∨ j = 12 ∨ j = 13 ∨ j = 14 ∨ j = 15 ∨ j = 16 by omega) with rfl | rfl | rfl | rfl | rfl | rfl | rfl | rfl | rfl | rfl | rfl | rfl | rfl | rfl | rfl | rfl | rfl <;> rfl) (Nat.le_of_ble_eq_true rfl) (Nat.le_of_ble_eq_true rfl) zd_8 (fun m0 H hC => ?_)
  refine W.widen (k := 49) (n := 1167) (Nat.le_of_ble_eq_true rfl) (Nat.le_of_ble_eq_true rfl) ?_
  refine lv_dup hx hb zd_11 rfl ?_
  refine zi_call (zi_runI (n := 0) (rest := [.ref m0]) (As := []) S0 hC hN (c_X6_init l G c3 m0) [48] (by decide) rfl zg_6 rfl rfl rfl zw_n6 zw_m6 zw_k6 rfl (by decide +kernel) ⟨Nat.le_of_ble_eq_true rfl, Nat.le_of_ble_eq_true rfl⟩ rfl hl.1 rfl (Nat.le_of_ble_eq_true rfl) zd_12 ⟨Nat.le_of_ble_eq_true rfl, Nat.le_of_ble_eq_true rfl⟩) hC [48] [0, 1, 2, 3, 4, 5, 6, 7, 8, 9, 10, 11, 12, 13, 14, 15, 16, 17, 18, 19, 20, 21, 22, 23, 24, 25, 26, 27, 28, 29, 30, 31, 32, 33, 34, 35, 36, 37, 38, 39, 40, 41, 42, 43, 44, 45, 46, 47] rfl (wr := zwZ h0 oN oT oK oH oP oV 0 ++ zwS c3.1 oN zS0 ++ zwS c3.1 oT zS0 ++ zwS c3.1 oK zS0 ++ zwH c3.1 oH (0, (o1, zS0), (o2, zS0), (o3, zS0), (o4, zS0)) ++ zwP c3.2.1 oP zP0 ++ zwV c3.1 oV zV0) rfl (by decide) (by decide) (fun w1 H locs hP1 hC => ?_)
  obtain ⟨oM, rfl, rfl⟩ := hP1
  refine W.widen (k := 56) (n := 2371) (Nat.le_of_ble_eq_true rfl) (Nat.le_of_ble_eq_true rfl) ?_
  refine lv_astore_n (lv' := [(2, .ref oM.1), (1, .ref h0), (0, .ref b)]) hx hb zd_15 rfl hl (by decide) rfl (fun ls hl => ?_)
  refine lv_iconst (v := 0) hx hb zd_16 (by decide) ?_
  refine lv_istore_n (lv' := [(3, .int 0), (2, .ref oM.1), (1, .ref h0), (0, .ref b)]) hx hb zd_17 rfl hl (by decide) rfl (fun ls hl => ?_)
  refine lv_iload_n hx hb zd_18 rfl (lv_at hl 0 rfl) ?_
  refine lv_aload_n hx hb zd_19 rfl (lv_at hl 3 rfl) ?_
  refine va_slen hx hb hX hbl hbA hC.2.2.2.1 zd_20 ?_
  refine lv_iconst (v := 5) hx hb zd_21 (by decide) ?_
  refine lv_isub hx hb zd_22 ?_
  refine lv_icmp_gt (tgt := 818) hx hb zd_23 (by decide) (fun _ => ?_) (fun cd => absurd (by decide) cd)
  refine lv_iconst (v := 1) hx hb zd_818 (by decide) ?_
  refine z_lawret (Qh := fun h => 1489 < ((h.toList.drop s.heap.size).map (fun c => c.slots.size)).sum) hx hb hr hlocks ?_ zd_819
  refine Nat.lt_of_lt_of_le (m := 1624) (by decide) ?_
  exact z_big hC.2.1 hC.2.2.1 [4, 10, 16, 23, 29, 35, 41, 49, 50, 51, 52, 55] (by decide) (fun k => if k = 51 then 600 else if k = 49 ∨ k = 50 ∨ k = 52 then 150 else if k = 55 then 84 else 70) (fun k hk => by
    simp only [List.mem_cons, List.not_mem_nil, or_false] at hk
    rcases hk with rfl | rfl | rfl | rfl | rfl | rfl | rfl | rfl | rfl | rfl | rfl | rfl <;> exact ⟨_, _, _, rfl⟩)
theorem z_run0 (l : Launch) : MetFree l x (headSpec (Jvm.Cond.code x code maxLocals ret :: tables_1) zR2371) (fun args s => ∃ (b : Addr) (xs : List Int32), args = #[.ref b] ∧ s.IntsAt b xs ∧ xs.length = 0) (fun _ _ _ _ _ => True) (fun _ s _ t => 1489 < ((t.heap.toList.drop s.heap.size).map (fun c => c.slots.size)).sum) := by
  refine MetFree.of_bodyS (code := code) (maxLocals := maxLocals) (ret := ret) (by decide) ?_ ?_
  · intro args s m h hn
    obtain ⟨meth, c, h1, h2, h3, h4, h5, h6, -, -⟩ := Cond.code_spec hn (atoms_spec (ws := Jvm.Cond.code x code maxLocals ret :: tables_1) h _ List.mem_cons_self)
    exact ⟨meth, c, h1, h2, h3, h4, h5, h6⟩
  · intro p e s m args below meth c s₁ B hml0 hP _
    obtain ⟨b, xs, rfl, hx, hlen⟩ := hP
    obtain ⟨scr, harrAt, hlist, hof, hsmall⟩ := hx
    obtain ⟨hcb, hkn, -, -⟩ := State.arrayAt?_spec harrAt
    have hown : s.vm.findClass RL = some m.cls := findClass_of_methodNamed B.named
    have hts0 : ∀ c ∈ (Jvm.Cond.code x code maxLocals ret :: tables_1), c.before #[Value.ref b] s = true := atoms_spec (ws := Jvm.Cond.code x code maxLocals ret :: tables_1) B.pre
    have hts : ∀ w ∈ lw_tbl, w.before #[Value.ref b] s = true := k2_hts_sels lw_privs (fun w hw => hts0 w (List.mem_cons_of_mem _ hw)) lw_privs_ok
    have hml : c.maxLocals = 8 := B.maxLocals_eq (hts0 _ List.mem_cons_self)
    have X₀ : Stand p l e zR2371 s m #[Value.ref b] below meth c s₁ [] 0 0 := Stand.of_body B
    have hh0 : s₁.heap = s.heap := by rw [B.state]; rfl
    have hsz : scr.slots.size = 0 := by rw [← Array.length_toList, hlist, List.length_map]; exact hlen
    have hbl : b < s.heap.size := (Array.getElem?_eq_some_iff.mp hcb).1
    have hX : va_X b 0 (fun _ => 0) s s.heap := ⟨scr, hcb, hof, hkn, hsz, fun j hj => absurd hj (Nat.not_lt_zero _)⟩
    have K : W p l e zR2371 s m #[Value.ref b] below meth c s₁.heap [] 0 0 (fun t => ∃ o, t.status = .running ∧ Ended t below o ∧ 1489 < ((t.heap.toList.drop s.heap.size).map (fun c => c.slots.size)).sum) (entryFrame m ([Value.ref b] : List Value).toArray 8) := by
      rw [hh0]
      exact z_law0 ⟨B.exec, B.bytes, B.returns, hml, hown, hts, hX, hbl, B.notSynchronized⟩
    obtain ⟨t, a1, o, b1, b2, b3⟩ := K s₁ rfl X₀
    exact ⟨t, o, a1, b1, b2, b3⟩
/-- the witness's start, with a script of no ints -/
def zs0 : State := start1.aboutOf #[]
theorem zs0_on : (Cond.code x code maxLocals ret :: tables_1).all (fun c => c.onTables || goodWord c) = true := by decide +kernel
theorem zs0_words : ∀ c ∈ (Cond.code x code maxLocals ret :: tables_1), c.before start1.args0 zs0 = true := by
  intro c hc
  rcases Bool.or_eq_true_iff.mp (List.all_eq_true.mp zs0_on c hc) with h | h
  · exact va_tabs h (rfl : start1.about.vm = zs0.vm) (start1.words c hc)
  · exact word_at (s := start1.about) (U := zs0) (State.WarmedH.refl start1.about) (good_of_word h) (start1.words c hc)
set_option maxRecDepth 16384 in
theorem zs0_app : (headSpec (Cond.code x code maxLocals ret :: tables_1) room_1).applies x start1.e0.platform zs0 = true :=
  (Spec.applies_iff rfl).mpr ⟨rfl, rfl, rfl, by decide +kernel, by decide +kernel, by decide +kernel, launch0.hasRoom_least _ room_1 (by decide +kernel) (by decide +kernel) (by decide +kernel) (by decide +kernel) (by decide +kernel) (by decide +kernel), atoms_intro zs0_words⟩
set_option maxRecDepth 16384 in
theorem zs0_app2 : (headSpec (Cond.code x code maxLocals ret :: tables_1) zR2371).applies x start1.e0.platform zs0 = true :=
  (Spec.applies_iff rfl).mpr ⟨rfl, rfl, rfl, by decide +kernel, by decide +kernel, by decide +kernel, launch0.hasRoom_least _ zR2371 (by decide +kernel) (by decide +kernel) (by decide +kernel) (by decide +kernel) (by decide +kernel) (by decide +kernel), atoms_intro zs0_words⟩
theorem zs0_rest : rest_1_c.before start1.args0 zs0 = true := by decide +kernel
theorem zs0_pre : (Cond.and given_1 narrow_1).before start1.args0 zs0 = true := by decide +kernel
theorem zs0_ints : ∃ (b : Addr) (xs : List Int32), start1.args0 = #[.ref b] ∧ zs0.IntsAt b xs ∧ xs.length = 0 := by
  have hs := flat_of_before _ zs0_pre
  have hq := flat_of_before _ zs0_rest
  have harr : (Cond.arrayOf (.arg 0) .int).before start1.args0 zs0 = true := hs _ (by decide +kernel)
  have hlen : (Cond.isInt (.length (.arg 0))).before start1.args0 zs0 = true := hq _ (by decide +kernel)
  have hall : (Cond.all (.arg 0) (.isInt (.elem (.arg 0) (.index 0)))).before start1.args0 zs0 = true := hq _ (by decide +kernel)
  obtain ⟨b, xs, hb, hx⟩ := State.ints_of_pre rfl harr hlen hall
  have hb0 : b = 0 := by
    have h1 : start1.args0[0]? = some (.ref b) := hb
    have h2 : start1.args0[0]? = some (.ref 0) := rfl
    have h3 := Option.some.inj (h1.symm.trans h2)
    injection h3
  subst hb0
  refine ⟨0, xs, rfl, hx, ?_⟩
  obtain ⟨scr, harrAt, hlist, hof, hsmall⟩ := hx
  obtain ⟨hcb, -, -, -⟩ := State.arrayAt?_spec harrAt
  have h4 : zs0.heap[0]? = some { cls := 12, slots := #[], vm := .none } := rfl
  have h5 := Option.some.inj (hcb.symm.trans h4)
  rw [h5] at hlist
  have h6 := congrArg List.length hlist
  rw [List.length_map] at h6
  exact h6.symm
/-- THE REFUTATION: what the statement claims of the new cells' slots holds of no run of the law at this start -/
theorem zz_refuted : ¬ Claimed_1_1 := by
  intro h
  obtain ⟨n, o, hw, -, hend, hpost⟩ := h launch0 rfl lists_1 trivial start1.p0 start1.e0 (launch0.admits_env _ _ _) fairChoices_fair.cas fairChoices_fair.clock zs0 ⟨0, 0⟩ start1.args0 Lib.HandBits.below0 rfl (by decide +kernel) (by decide +kernel) zs0_app ⟨trivial, zs0_rest, zs0_pre⟩
  obtain ⟨n2, o2, hw2, -, hend2, hbig⟩ := z_run0 launch0 start1.p0 start1.e0 (launch0.admits_env _ _ _) fairChoices_fair.cas fairChoices_fair.clock zs0 ⟨0, 0⟩ start1.args0 Lib.HandBits.below0 rfl ((Spec.applies_iff_loose rfl).mp zs0_app2).1 zs0_ints trivial
  have hn : n = n2 := by
    rcases Nat.lt_trichotomy n n2 with h1 | h1 | h1
    · exact absurd (hw2 n h1) hend.not_within
    · exact h1
    · exact absurd (hw n2 h1) hend2.not_within
  subst hn
  obtain ⟨-, hfr, -⟩ := hpost
  obtain ⟨-, -, hs⟩ := hfr
  exact absurd hs.2.2.2.2.1 (Nat.not_le.mpr hbig)
theorem zz_refuted_vc : ¬ (Claimed_1_1 ∧ Claimed_1_2) := fun h => zz_refuted h.1
end
