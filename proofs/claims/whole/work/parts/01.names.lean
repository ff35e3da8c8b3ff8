/-- a private method of a class that the tables say can be made, by its rows of tables_1 -/
def lw_okq (q : MethodName × Nat) : Prop := (q.1.cls ≠ "java/lang/invoke/MethodHandle" ∧ q.1.cls ≠ "java/lang/invoke/VarHandle") ∧ Cond.instantiable q.1.cls q.2 ∈ tables_1 ∧ Cond.privateMethod q.1 ∈ tables_1 ∧ Cond.instanceMethod q.1 ∈ tables_1
theorem lw_p0 : lw_okq (⟨"ShadowTester$Weights", "sumUp", "()V"⟩, 4) := ⟨⟨by decide +kernel, by decide +kernel⟩, List.mem_of_getElem? (i := 28) (by decide +kernel), List.mem_of_getElem? (i := 232) (by decide +kernel), List.mem_of_getElem? (i := 233) (by decide +kernel)⟩
theorem lw_p1 : lw_okq (⟨"ShadowTester$Item", "tellsOf", "(I)I"⟩, 10) := ⟨⟨by decide +kernel, by decide +kernel⟩, List.mem_of_getElem? (i := 52) (by decide +kernel), List.mem_of_getElem? (i := 279) (by decide +kernel), List.mem_of_getElem? (i := 280) (by decide +kernel)⟩
theorem lw_p2 : lw_okq (⟨"ShadowTester$Course", "keepsQuotas", "(I)Z"⟩, 17) := ⟨⟨by decide +kernel, by decide +kernel⟩, List.mem_of_getElem? (i := 20) (by decide +kernel), List.mem_of_getElem? (i := 450) (by decide +kernel), List.mem_of_getElem? (i := 451) (by decide +kernel)⟩
theorem lw_p3 : lw_okq (⟨"ShadowTester$Course", "together", "(I)J"⟩, 17) := ⟨⟨by decide +kernel, by decide +kernel⟩, List.mem_of_getElem? (i := 20) (by decide +kernel), List.mem_of_getElem? (i := 454) (by decide +kernel), List.mem_of_getElem? (i := 455) (by decide +kernel)⟩
theorem lw_p4 : lw_okq (⟨"ShadowTester$Course", "isSure", "(I)I"⟩, 17) := ⟨⟨by decide +kernel, by decide +kernel⟩, List.mem_of_getElem? (i := 20) (by decide +kernel), List.mem_of_getElem? (i := 480) (by decide +kernel), List.mem_of_getElem? (i := 481) (by decide +kernel)⟩
theorem lw_p5 : lw_okq (⟨"ShadowTester$Course", "isNarrow", "(I)I"⟩, 17) := ⟨⟨by decide +kernel, by decide +kernel⟩, List.mem_of_getElem? (i := 20) (by decide +kernel), List.mem_of_getElem? (i := 486) (by decide +kernel), List.mem_of_getElem? (i := 487) (by decide +kernel)⟩
theorem lw_p6 : lw_okq (⟨"ShadowTester$Course", "isPoor", "(I)I"⟩, 17) := ⟨⟨by decide +kernel, by decide +kernel⟩, List.mem_of_getElem? (i := 20) (by decide +kernel), List.mem_of_getElem? (i := 493) (by decide +kernel), List.mem_of_getElem? (i := 494) (by decide +kernel)⟩
theorem lw_p7 : lw_okq (⟨"ShadowTester$Course", "isClear", "(I)I"⟩, 17) := ⟨⟨by decide +kernel, by decide +kernel⟩, List.mem_of_getElem? (i := 20) (by decide +kernel), List.mem_of_getElem? (i := 497) (by decide +kernel), List.mem_of_getElem? (i := 498) (by decide +kernel)⟩
theorem lw_p8 : lw_okq (⟨"ShadowTesterModel", "get", "(I)I"⟩, 15) := ⟨⟨by decide +kernel, by decide +kernel⟩, List.mem_of_getElem? (i := 616) (by decide +kernel), List.mem_of_getElem? (i := 681) (by decide +kernel), List.mem_of_getElem? (i := 682) (by decide +kernel)⟩
theorem lw_p9 : lw_okq (⟨"ShadowTesterModel", "comes", "(IIII)I"⟩, 15) := ⟨⟨by decide +kernel, by decide +kernel⟩, List.mem_of_getElem? (i := 616) (by decide +kernel), List.mem_of_getElem? (i := 702) (by decide +kernel), List.mem_of_getElem? (i := 703) (by decide +kernel)⟩
theorem lw_p10 : lw_okq (⟨"ShadowTesterModel", "isOn", "()Z"⟩, 15) := ⟨⟨by decide +kernel, by decide +kernel⟩, List.mem_of_getElem? (i := 616) (by decide +kernel), List.mem_of_getElem? (i := 707) (by decide +kernel), List.mem_of_getElem? (i := 708) (by decide +kernel)⟩
theorem lw_p11 : lw_okq (⟨"ShadowTesterModel", "isItem", "(I)Z"⟩, 15) := ⟨⟨by decide +kernel, by decide +kernel⟩, List.mem_of_getElem? (i := 616) (by decide +kernel), List.mem_of_getElem? (i := 715) (by decide +kernel), List.mem_of_getElem? (i := 716) (by decide +kernel)⟩
theorem lw_p12 : lw_okq (⟨"ShadowTesterModel", "of", "(II)I"⟩, 15) := ⟨⟨by decide +kernel, by decide +kernel⟩, List.mem_of_getElem? (i := 616) (by decide +kernel), List.mem_of_getElem? (i := 719) (by decide +kernel), List.mem_of_getElem? (i := 720) (by decide +kernel)⟩
theorem lw_p13 : lw_okq (⟨"ShadowTesterModel", "rightOf", "(II)I"⟩, 15) := ⟨⟨by decide +kernel, by decide +kernel⟩, List.mem_of_getElem? (i := 616) (by decide +kernel), List.mem_of_getElem? (i := 742) (by decide +kernel), List.mem_of_getElem? (i := 743) (by decide +kernel)⟩
theorem lw_p14 : lw_okq (⟨"ShadowTesterModel", "tellsOf", "(II)I"⟩, 15) := ⟨⟨by decide +kernel, by decide +kernel⟩, List.mem_of_getElem? (i := 616) (by decide +kernel), List.mem_of_getElem? (i := 754) (by decide +kernel), List.mem_of_getElem? (i := 755) (by decide +kernel)⟩
theorem lw_p15 : lw_okq (⟨"ShadowTesterModel", "divides", "()V"⟩, 15) := ⟨⟨by decide +kernel, by decide +kernel⟩, List.mem_of_getElem? (i := 616) (by decide +kernel), List.mem_of_getElem? (i := 769) (by decide +kernel), List.mem_of_getElem? (i := 770) (by decide +kernel)⟩
def lw_privs_1 : List (MethodName × Nat) := [(⟨"ShadowTester$Weights", "sumUp", "()V"⟩, 4), (⟨"ShadowTester$Item", "tellsOf", "(I)I"⟩, 10), (⟨"ShadowTester$Course", "keepsQuotas", "(I)Z"⟩, 17), (⟨"ShadowTester$Course", "together", "(I)J"⟩, 17), (⟨"ShadowTester$Course", "isSure", "(I)I"⟩, 17), (⟨"ShadowTester$Course", "isNarrow", "(I)I"⟩, 17), (⟨"ShadowTester$Course", "isPoor", "(I)I"⟩, 17), (⟨"ShadowTester$Course", "isClear", "(I)I"⟩, 17), (⟨"ShadowTesterModel", "get", "(I)I"⟩, 15), (⟨"ShadowTesterModel", "comes", "(IIII)I"⟩, 15), (⟨"ShadowTesterModel", "isOn", "()Z"⟩, 15), (⟨"ShadowTesterModel", "isItem", "(I)Z"⟩, 15), (⟨"ShadowTesterModel", "of", "(II)I"⟩, 15), (⟨"ShadowTesterModel", "rightOf", "(II)I"⟩, 15), (⟨"ShadowTesterModel", "tellsOf", "(II)I"⟩, 15), (⟨"ShadowTesterModel", "divides", "()V"⟩, 15)]
theorem lw_r1 : ∀ q ∈ lw_privs_1, lw_okq q := List.forall_mem_cons.mpr ⟨lw_p0, List.forall_mem_cons.mpr ⟨lw_p1, List.forall_mem_cons.mpr ⟨lw_p2, List.forall_mem_cons.mpr ⟨lw_p3, List.forall_mem_cons.mpr ⟨lw_p4, List.forall_mem_cons.mpr ⟨lw_p5, List.forall_mem_cons.mpr ⟨lw_p6, List.forall_mem_cons.mpr ⟨lw_p7, List.forall_mem_cons.mpr ⟨lw_p8, List.forall_mem_cons.mpr ⟨lw_p9, List.forall_mem_cons.mpr ⟨lw_p10, List.forall_mem_cons.mpr ⟨lw_p11, List.forall_mem_cons.mpr ⟨lw_p12, List.forall_mem_cons.mpr ⟨lw_p13, List.forall_mem_cons.mpr ⟨lw_p14, List.forall_mem_cons.mpr ⟨lw_p15, fun _ h => absurd h List.not_mem_nil⟩⟩⟩⟩⟩⟩⟩⟩⟩⟩⟩⟩⟩⟩⟩⟩
theorem lw_p16 : lw_okq (⟨"ShadowTesterModel", "asked", "()I"⟩, 15) := ⟨⟨by decide +kernel, by decide +kernel⟩, List.mem_of_getElem? (i := 616) (by decide +kernel), List.mem_of_getElem? (i := 787) (by decide +kernel), List.mem_of_getElem? (i := 788) (by decide +kernel)⟩
theorem lw_p17 : lw_okq (⟨"ShadowTesterModel", "answers", "()I"⟩, 15) := ⟨⟨by decide +kernel, by decide +kernel⟩, List.mem_of_getElem? (i := 616) (by decide +kernel), List.mem_of_getElem? (i := 791) (by decide +kernel), List.mem_of_getElem? (i := 792) (by decide +kernel)⟩
theorem lw_p18 : lw_okq (⟨"ShadowTesterModel", "askedAt", "(I)I"⟩, 15) := ⟨⟨by decide +kernel, by decide +kernel⟩, List.mem_of_getElem? (i := 616) (by decide +kernel), List.mem_of_getElem? (i := 795) (by decide +kernel), List.mem_of_getElem? (i := 796) (by decide +kernel)⟩
theorem lw_p19 : lw_okq (⟨"ShadowTesterModel", "inArea", "(II)I"⟩, 15) := ⟨⟨by decide +kernel, by decide +kernel⟩, List.mem_of_getElem? (i := 616) (by decide +kernel), List.mem_of_getElem? (i := 799) (by decide +kernel), List.mem_of_getElem? (i := 800) (by decide +kernel)⟩
theorem lw_p20 : lw_okq (⟨"ShadowTesterModel", "asks", "(II)V"⟩, 15) := ⟨⟨by decide +kernel, by decide +kernel⟩, List.mem_of_getElem? (i := 616) (by decide +kernel), List.mem_of_getElem? (i := 803) (by decide +kernel), List.mem_of_getElem? (i := 804) (by decide +kernel)⟩
theorem lw_p21 : lw_okq (⟨"ShadowTesterModel", "answerOf", "(I)I"⟩, 15) := ⟨⟨by decide +kernel, by decide +kernel⟩, List.mem_of_getElem? (i := 616) (by decide +kernel), List.mem_of_getElem? (i := 820) (by decide +kernel), List.mem_of_getElem? (i := 821) (by decide +kernel)⟩
theorem lw_p22 : lw_okq (⟨"ShadowTesterModel", "weighs", "()V"⟩, 15) := ⟨⟨by decide +kernel, by decide +kernel⟩, List.mem_of_getElem? (i := 616) (by decide +kernel), List.mem_of_getElem? (i := 829) (by decide +kernel), List.mem_of_getElem? (i := 830) (by decide +kernel)⟩
theorem lw_p23 : lw_okq (⟨"ShadowTesterModel", "weighsBy", "(I)V"⟩, 15) := ⟨⟨by decide +kernel, by decide +kernel⟩, List.mem_of_getElem? (i := 616) (by decide +kernel), List.mem_of_getElem? (i := 833) (by decide +kernel), List.mem_of_getElem? (i := 834) (by decide +kernel)⟩
theorem lw_p24 : lw_okq (⟨"ShadowTesterModel", "goesBy", "(II)V"⟩, 15) := ⟨⟨by decide +kernel, by decide +kernel⟩, List.mem_of_getElem? (i := 616) (by decide +kernel), List.mem_of_getElem? (i := 837) (by decide +kernel), List.mem_of_getElem? (i := 838) (by decide +kernel)⟩
theorem lw_p25 : lw_okq (⟨"ShadowTesterModel", "times", "(JJ)J"⟩, 15) := ⟨⟨by decide +kernel, by decide +kernel⟩, List.mem_of_getElem? (i := 616) (by decide +kernel), List.mem_of_getElem? (i := 841) (by decide +kernel), List.mem_of_getElem? (i := 842) (by decide +kernel)⟩
theorem lw_p26 : lw_okq (⟨"ShadowTesterModel", "modeNow", "()I"⟩, 15) := ⟨⟨by decide +kernel, by decide +kernel⟩, List.mem_of_getElem? (i := 616) (by decide +kernel), List.mem_of_getElem? (i := 850) (by decide +kernel), List.mem_of_getElem? (i := 851) (by decide +kernel)⟩
theorem lw_p27 : lw_okq (⟨"ShadowTesterModel", "looks", "(I)V"⟩, 15) := ⟨⟨by decide +kernel, by decide +kernel⟩, List.mem_of_getElem? (i := 616) (by decide +kernel), List.mem_of_getElem? (i := 861) (by decide +kernel), List.mem_of_getElem? (i := 862) (by decide +kernel)⟩
theorem lw_p28 : lw_okq (⟨"ShadowTesterModel", "spread", "()V"⟩, 15) := ⟨⟨by decide +kernel, by decide +kernel⟩, List.mem_of_getElem? (i := 616) (by decide +kernel), List.mem_of_getElem? (i := 865) (by decide +kernel), List.mem_of_getElem? (i := 866) (by decide +kernel)⟩
theorem lw_p29 : lw_okq (⟨"ShadowTesterModel", "all", "()J"⟩, 15) := ⟨⟨by decide +kernel, by decide +kernel⟩, List.mem_of_getElem? (i := 616) (by decide +kernel), List.mem_of_getElem? (i := 869) (by decide +kernel), List.mem_of_getElem? (i := 870) (by decide +kernel)⟩
theorem lw_p30 : lw_okq (⟨"ShadowTesterModel", "plus", "(JJ)J"⟩, 15) := ⟨⟨by decide +kernel, by decide +kernel⟩, List.mem_of_getElem? (i := 616) (by decide +kernel), List.mem_of_getElem? (i := 873) (by decide +kernel), List.mem_of_getElem? (i := 874) (by decide +kernel)⟩
theorem lw_p31 : lw_okq (⟨"ShadowTesterModel", "mean", "()J"⟩, 15) := ⟨⟨by decide +kernel, by decide +kernel⟩, List.mem_of_getElem? (i := 616) (by decide +kernel), List.mem_of_getElem? (i := 877) (by decide +kernel), List.mem_of_getElem? (i := 878) (by decide +kernel)⟩
def lw_privs_2 : List (MethodName × Nat) := [(⟨"ShadowTesterModel", "asked", "()I"⟩, 15), (⟨"ShadowTesterModel", "answers", "()I"⟩, 15), (⟨"ShadowTesterModel", "askedAt", "(I)I"⟩, 15), (⟨"ShadowTesterModel", "inArea", "(II)I"⟩, 15), (⟨"ShadowTesterModel", "asks", "(II)V"⟩, 15), (⟨"ShadowTesterModel", "answerOf", "(I)I"⟩, 15), (⟨"ShadowTesterModel", "weighs", "()V"⟩, 15), (⟨"ShadowTesterModel", "weighsBy", "(I)V"⟩, 15), (⟨"ShadowTesterModel", "goesBy", "(II)V"⟩, 15), (⟨"ShadowTesterModel", "times", "(JJ)J"⟩, 15), (⟨"ShadowTesterModel", "modeNow", "()I"⟩, 15), (⟨"ShadowTesterModel", "looks", "(I)V"⟩, 15), (⟨"ShadowTesterModel", "spread", "()V"⟩, 15), (⟨"ShadowTesterModel", "all", "()J"⟩, 15), (⟨"ShadowTesterModel", "plus", "(JJ)J"⟩, 15), (⟨"ShadowTesterModel", "mean", "()J"⟩, 15)]
theorem lw_r2 : ∀ q ∈ lw_privs_2, lw_okq q := List.forall_mem_cons.mpr ⟨lw_p16, List.forall_mem_cons.mpr ⟨lw_p17, List.forall_mem_cons.mpr ⟨lw_p18, List.forall_mem_cons.mpr ⟨lw_p19, List.forall_mem_cons.mpr ⟨lw_p20, List.forall_mem_cons.mpr ⟨lw_p21, List.forall_mem_cons.mpr ⟨lw_p22, List.forall_mem_cons.mpr ⟨lw_p23, List.forall_mem_cons.mpr ⟨lw_p24, List.forall_mem_cons.mpr ⟨lw_p25, List.forall_mem_cons.mpr ⟨lw_p26, List.forall_mem_cons.mpr ⟨lw_p27, List.forall_mem_cons.mpr ⟨lw_p28, List.forall_mem_cons.mpr ⟨lw_p29, List.forall_mem_cons.mpr ⟨lw_p30, List.forall_mem_cons.mpr ⟨lw_p31, fun _ h => absurd h List.not_mem_nil⟩⟩⟩⟩⟩⟩⟩⟩⟩⟩⟩⟩⟩⟩⟩⟩
theorem lw_p32 : lw_okq (⟨"ShadowTesterModel", "squares", "()J"⟩, 15) := ⟨⟨by decide +kernel, by decide +kernel⟩, List.mem_of_getElem? (i := 616) (by decide +kernel), List.mem_of_getElem? (i := 881) (by decide +kernel), List.mem_of_getElem? (i := 882) (by decide +kernel)⟩
theorem lw_p33 : lw_okq (⟨"ShadowTesterModel", "tellsAll", "(I)J"⟩, 15) := ⟨⟨by decide +kernel, by decide +kernel⟩, List.mem_of_getElem? (i := 616) (by decide +kernel), List.mem_of_getElem? (i := 885) (by decide +kernel), List.mem_of_getElem? (i := 886) (by decide +kernel)⟩
theorem lw_p34 : lw_okq (⟨"ShadowTesterModel", "rightAll", "(I)J"⟩, 15) := ⟨⟨by decide +kernel, by decide +kernel⟩, List.mem_of_getElem? (i := 616) (by decide +kernel), List.mem_of_getElem? (i := 889) (by decide +kernel), List.mem_of_getElem? (i := 890) (by decide +kernel)⟩
theorem lw_p35 : lw_okq (⟨"ShadowTesterModel", "part", "(I)J"⟩, 15) := ⟨⟨by decide +kernel, by decide +kernel⟩, List.mem_of_getElem? (i := 616) (by decide +kernel), List.mem_of_getElem? (i := 894) (by decide +kernel), List.mem_of_getElem? (i := 895) (by decide +kernel)⟩
theorem lw_p36 : lw_okq (⟨"ShadowTesterModel", "shadowNow", "()I"⟩, 15) := ⟨⟨by decide +kernel, by decide +kernel⟩, List.mem_of_getElem? (i := 616) (by decide +kernel), List.mem_of_getElem? (i := 906) (by decide +kernel), List.mem_of_getElem? (i := 907) (by decide +kernel)⟩
theorem lw_p37 : lw_okq (⟨"ShadowTesterModel", "isShadow", "(II)Z"⟩, 15) := ⟨⟨by decide +kernel, by decide +kernel⟩, List.mem_of_getElem? (i := 616) (by decide +kernel), List.mem_of_getElem? (i := 911) (by decide +kernel), List.mem_of_getElem? (i := 912) (by decide +kernel)⟩
theorem lw_p38 : lw_okq (⟨"ShadowTesterModel", "informs", "(I)J"⟩, 15) := ⟨⟨by decide +kernel, by decide +kernel⟩, List.mem_of_getElem? (i := 616) (by decide +kernel), List.mem_of_getElem? (i := 915) (by decide +kernel), List.mem_of_getElem? (i := 916) (by decide +kernel)⟩
theorem lw_p39 : lw_okq (⟨"ShadowTesterModel", "nextNow", "()I"⟩, 15) := ⟨⟨by decide +kernel, by decide +kernel⟩, List.mem_of_getElem? (i := 616) (by decide +kernel), List.mem_of_getElem? (i := 923) (by decide +kernel), List.mem_of_getElem? (i := 924) (by decide +kernel)⟩
theorem lw_p40 : lw_okq (⟨"ShadowTesterModel", "ruleNow", "(I)I"⟩, 15) := ⟨⟨by decide +kernel, by decide +kernel⟩, List.mem_of_getElem? (i := 616) (by decide +kernel), List.mem_of_getElem? (i := 931) (by decide +kernel), List.mem_of_getElem? (i := 932) (by decide +kernel)⟩
theorem lw_p41 : lw_okq (⟨"ShadowTesterModel", "isSure", "()Z"⟩, 15) := ⟨⟨by decide +kernel, by decide +kernel⟩, List.mem_of_getElem? (i := 616) (by decide +kernel), List.mem_of_getElem? (i := 935) (by decide +kernel), List.mem_of_getElem? (i := 936) (by decide +kernel)⟩
theorem lw_p42 : lw_okq (⟨"ShadowTesterModel", "isNarrow", "()Z"⟩, 15) := ⟨⟨by decide +kernel, by decide +kernel⟩, List.mem_of_getElem? (i := 616) (by decide +kernel), List.mem_of_getElem? (i := 940) (by decide +kernel), List.mem_of_getElem? (i := 941) (by decide +kernel)⟩
theorem lw_p43 : lw_okq (⟨"ShadowTesterModel", "isPoor", "()Z"⟩, 15) := ⟨⟨by decide +kernel, by decide +kernel⟩, List.mem_of_getElem? (i := 616) (by decide +kernel), List.mem_of_getElem? (i := 944) (by decide +kernel), List.mem_of_getElem? (i := 945) (by decide +kernel)⟩
theorem lw_p44 : lw_okq (⟨"ShadowTesterModel", "isClear", "()Z"⟩, 15) := ⟨⟨by decide +kernel, by decide +kernel⟩, List.mem_of_getElem? (i := 616) (by decide +kernel), List.mem_of_getElem? (i := 948) (by decide +kernel), List.mem_of_getElem? (i := 949) (by decide +kernel)⟩
theorem lw_p45 : lw_okq (⟨"ShadowTesterModel", "stopsNow", "()I"⟩, 15) := ⟨⟨by decide +kernel, by decide +kernel⟩, List.mem_of_getElem? (i := 616) (by decide +kernel), List.mem_of_getElem? (i := 956) (by decide +kernel), List.mem_of_getElem? (i := 957) (by decide +kernel)⟩
theorem lw_p46 : lw_okq (⟨"ShadowTesterModel", "draws", "(II)I"⟩, 15) := ⟨⟨by decide +kernel, by decide +kernel⟩, List.mem_of_getElem? (i := 616) (by decide +kernel), List.mem_of_getElem? (i := 964) (by decide +kernel), List.mem_of_getElem? (i := 965) (by decide +kernel)⟩
theorem lw_p47 : lw_okq (⟨"ShadowTesterModel", "areAnswers", "(I)Z"⟩, 15) := ⟨⟨by decide +kernel, by decide +kernel⟩, List.mem_of_getElem? (i := 616) (by decide +kernel), List.mem_of_getElem? (i := 984) (by decide +kernel), List.mem_of_getElem? (i := 985) (by decide +kernel)⟩
def lw_privs_3 : List (MethodName × Nat) := [(⟨"ShadowTesterModel", "squares", "()J"⟩, 15), (⟨"ShadowTesterModel", "tellsAll", "(I)J"⟩, 15), (⟨"ShadowTesterModel", "rightAll", "(I)J"⟩, 15), (⟨"ShadowTesterModel", "part", "(I)J"⟩, 15), (⟨"ShadowTesterModel", "shadowNow", "()I"⟩, 15), (⟨"ShadowTesterModel", "isShadow", "(II)Z"⟩, 15), (⟨"ShadowTesterModel", "informs", "(I)J"⟩, 15), (⟨"ShadowTesterModel", "nextNow", "()I"⟩, 15), (⟨"ShadowTesterModel", "ruleNow", "(I)I"⟩, 15), (⟨"ShadowTesterModel", "isSure", "()Z"⟩, 15), (⟨"ShadowTesterModel", "isNarrow", "()Z"⟩, 15), (⟨"ShadowTesterModel", "isPoor", "()Z"⟩, 15), (⟨"ShadowTesterModel", "isClear", "()Z"⟩, 15), (⟨"ShadowTesterModel", "stopsNow", "()I"⟩, 15), (⟨"ShadowTesterModel", "draws", "(II)I"⟩, 15), (⟨"ShadowTesterModel", "areAnswers", "(I)Z"⟩, 15)]
theorem lw_r3 : ∀ q ∈ lw_privs_3, lw_okq q := List.forall_mem_cons.mpr ⟨lw_p32, List.forall_mem_cons.mpr ⟨lw_p33, List.forall_mem_cons.mpr ⟨lw_p34, List.forall_mem_cons.mpr ⟨lw_p35, List.forall_mem_cons.mpr ⟨lw_p36, List.forall_mem_cons.mpr ⟨lw_p37, List.forall_mem_cons.mpr ⟨lw_p38, List.forall_mem_cons.mpr ⟨lw_p39, List.forall_mem_cons.mpr ⟨lw_p40, List.forall_mem_cons.mpr ⟨lw_p41, List.forall_mem_cons.mpr ⟨lw_p42, List.forall_mem_cons.mpr ⟨lw_p43, List.forall_mem_cons.mpr ⟨lw_p44, List.forall_mem_cons.mpr ⟨lw_p45, List.forall_mem_cons.mpr ⟨lw_p46, List.forall_mem_cons.mpr ⟨lw_p47, fun _ h => absurd h List.not_mem_nil⟩⟩⟩⟩⟩⟩⟩⟩⟩⟩⟩⟩⟩⟩⟩⟩
theorem lw_p48 : lw_okq (⟨"ShadowTesterModel", "best", "(I)I"⟩, 15) := ⟨⟨by decide +kernel, by decide +kernel⟩, List.mem_of_getElem? (i := 616) (by decide +kernel), List.mem_of_getElem? (i := 988) (by decide +kernel), List.mem_of_getElem? (i := 989) (by decide +kernel)⟩
theorem lw_p49 : lw_okq (⟨"ShadowTesterModel", "product", "(II)J"⟩, 15) := ⟨⟨by decide +kernel, by decide +kernel⟩, List.mem_of_getElem? (i := 616) (by decide +kernel), List.mem_of_getElem? (i := 992) (by decide +kernel), List.mem_of_getElem? (i := 993) (by decide +kernel)⟩
theorem lw_p50 : lw_okq (⟨"ShadowTesterModel", "turners", "(I)I"⟩, 15) := ⟨⟨by decide +kernel, by decide +kernel⟩, List.mem_of_getElem? (i := 616) (by decide +kernel), List.mem_of_getElem? (i := 996) (by decide +kernel), List.mem_of_getElem? (i := 997) (by decide +kernel)⟩
theorem lw_p51 : lw_okq (⟨"ShadowTesterModel", "kinds", "(III)I"⟩, 15) := ⟨⟨by decide +kernel, by decide +kernel⟩, List.mem_of_getElem? (i := 616) (by decide +kernel), List.mem_of_getElem? (i := 1000) (by decide +kernel), List.mem_of_getElem? (i := 1001) (by decide +kernel)⟩
theorem lw_p52 : lw_okq (⟨"ShadowTesterModel", "isCell", "(IJ)Z"⟩, 15) := ⟨⟨by decide +kernel, by decide +kernel⟩, List.mem_of_getElem? (i := 616) (by decide +kernel), List.mem_of_getElem? (i := 1032) (by decide +kernel), List.mem_of_getElem? (i := 1033) (by decide +kernel)⟩
theorem lw_p53 : lw_okq (⟨"ShadowTesterModel", "loads", "(IJ)I"⟩, 15) := ⟨⟨by decide +kernel, by decide +kernel⟩, List.mem_of_getElem? (i := 616) (by decide +kernel), List.mem_of_getElem? (i := 1044) (by decide +kernel), List.mem_of_getElem? (i := 1045) (by decide +kernel)⟩
def lw_privs_4 : List (MethodName × Nat) := [(⟨"ShadowTesterModel", "best", "(I)I"⟩, 15), (⟨"ShadowTesterModel", "product", "(II)J"⟩, 15), (⟨"ShadowTesterModel", "turners", "(I)I"⟩, 15), (⟨"ShadowTesterModel", "kinds", "(III)I"⟩, 15), (⟨"ShadowTesterModel", "isCell", "(IJ)Z"⟩, 15), (⟨"ShadowTesterModel", "loads", "(IJ)I"⟩, 15)]
theorem lw_r4 : ∀ q ∈ lw_privs_4, lw_okq q := List.forall_mem_cons.mpr ⟨lw_p48, List.forall_mem_cons.mpr ⟨lw_p49, List.forall_mem_cons.mpr ⟨lw_p50, List.forall_mem_cons.mpr ⟨lw_p51, List.forall_mem_cons.mpr ⟨lw_p52, List.forall_mem_cons.mpr ⟨lw_p53, fun _ h => absurd h List.not_mem_nil⟩⟩⟩⟩⟩⟩
def lw_privs : List (MethodName × Nat) := lw_privs_1 ++ (lw_privs_2 ++ (lw_privs_3 ++ (lw_privs_4)))
def lw_tbl : List Cond := k2_sels lw_privs ++ tables_1
theorem lw_privs_ok : ∀ q ∈ lw_privs, lw_okq q := by
  show ∀ q ∈ lw_privs_1 ++ (lw_privs_2 ++ (lw_privs_3 ++ (lw_privs_4))), lw_okq q
  exact List.forall_mem_append.mpr ⟨lw_r1, List.forall_mem_append.mpr ⟨lw_r2, List.forall_mem_append.mpr ⟨lw_r3, lw_r4⟩⟩⟩
-- names of classes, fields
def mCN : List String := ["ShadowTester", "ShadowTester$Course", "ShadowTester$Item", "ShadowTester$Sheet", "ShadowTester$Weights", "ShadowTesterModel", "ShadowTester$Exact", "java/lang/Integer", "java/lang/Math", "java/lang/Object", "ShadowTesterLaw"]
def mcn (o : Nat) : String := mCN.getD o ""
def mT0 : u_T := fun k => match k with
  | 0 => ("ShadowTester", "course", "LShadowTester$Course;", true)
  | 1 => ("ShadowTester", "image", "LShadowTester$Course;", true)
  | 2 => ("ShadowTester", "thought", "LShadowTester$Course;", true)
  | 3 => ("ShadowTester", "imageKept", "Z", false)
  | _ => ("ShadowTester", "sheets", "[LShadowTester$Sheet;", true)
def mty0 : Nat → FieldType := fun k => match k with
  | 0 => .object "ShadowTester$Course"
  | 1 => .object "ShadowTester$Course"
  | 2 => .object "ShadowTester$Course"
  | 3 => .boolean
  | _ => .array (.object "ShadowTester$Sheet")
theorem mnm0 : ∀ a, a < 5 → ∀ b, b < 5 → a ≠ b → (mT0 a).2.1 ≠ (mT0 b).2.1 := by decide +kernel
theorem mty0_ok : ∀ k, k < 5 → parseFieldDescriptor (mT0 k).2.2.1 = some (mty0 k) := by decide +kernel
def mT1 : u_T := fun k => match k with
  | 0 => ("ShadowTester$Course", "priors", "[I", true)
  | 1 => ("ShadowTester$Course", "least", "[I", true)
  | 2 => ("ShadowTester$Course", "most", "[I", true)
  | 3 => ("ShadowTester$Course", "bounds", "[I", true)
  | 4 => ("ShadowTester$Course", "ruleBits", "I", false)
  | 5 => ("ShadowTester$Course", "span", "I", false)
  | 6 => ("ShadowTester$Course", "caution", "I", false)
  | 7 => ("ShadowTester$Course", "testees", "I", false)
  | 8 => ("ShadowTester$Course", "items", "[LShadowTester$Item;", true)
  | 9 => ("ShadowTester$Course", "itemCount", "I", false)
  | 10 => ("ShadowTester$Course", "ofAreas", "[I", true)
  | 11 => ("ShadowTester$Course", "on", "Z", false)
  | 12 => ("ShadowTester$Course", "weights", "LShadowTester$Weights;", true)
  | 13 => ("ShadowTester$Course", "asked", "[I", true)
  | 14 => ("ShadowTester$Course", "answers", "I", false)
  | 15 => ("ShadowTester$Course", "modes", "[I", true)
  | _ => ("ShadowTester$Course", "informs", "[J", true)
def mty1 : Nat → FieldType := fun k => match k with
  | 0 => .array .int
  | 1 => .array .int
  | 2 => .array .int
  | 3 => .array .int
  | 4 => .int
  | 5 => .int
  | 6 => .int
  | 7 => .int
  | 8 => .array (.object "ShadowTester$Item")
  | 9 => .int
  | 10 => .array .int
  | 11 => .boolean
  | 12 => .object "ShadowTester$Weights"
  | 13 => .array .int
  | 14 => .int
  | 15 => .array .int
  | _ => .array .long
theorem mnm1 : ∀ a, a < 17 → ∀ b, b < 17 → a ≠ b → (mT1 a).2.1 ≠ (mT1 b).2.1 := by decide +kernel
theorem mty1_ok : ∀ k, k < 17 → parseFieldDescriptor (mT1 k).2.2.1 = some (mty1 k) := by decide +kernel
def mT2 : u_T := fun k => match k with
  | 0 => ("ShadowTester$Item", "kind", "I", false)
  | 1 => ("ShadowTester$Item", "area", "I", false)
  | 2 => ("ShadowTester$Item", "height", "I", false)
  | 3 => ("ShadowTester$Item", "slope", "I", false)
  | 4 => ("ShadowTester$Item", "ease", "I", false)
  | 5 => ("ShadowTester$Item", "given", "I", false)
  | 6 => ("ShadowTester$Item", "held", "Z", false)
  | 7 => ("ShadowTester$Item", "reply", "I", false)
  | 8 => ("ShadowTester$Item", "right", "[I", true)
  | _ => ("ShadowTester$Item", "tells", "[I", true)
def mty2 : Nat → FieldType := fun k => match k with
  | 0 => .int
  | 1 => .int
  | 2 => .int
  | 3 => .int
  | 4 => .int
  | 5 => .int
  | 6 => .boolean
  | 7 => .int
  | 8 => .array .int
  | _ => .array .int
theorem mnm2 : ∀ a, a < 10 → ∀ b, b < 10 → a ≠ b → (mT2 a).2.1 ≠ (mT2 b).2.1 := by decide +kernel
theorem mty2_ok : ∀ k, k < 10 → parseFieldDescriptor (mT2 k).2.2.1 = some (mty2 k) := by decide +kernel
def mT3 : u_T := fun k => match k with
  | 0 => ("ShadowTester$Sheet", "sort", "I", false)
  | 1 => ("ShadowTester$Sheet", "length", "I", false)
  | _ => ("ShadowTester$Sheet", "of", "[I", true)
def mty3 : Nat → FieldType := fun k => match k with
  | 0 => .int
  | 1 => .int
  | _ => .array .int
theorem mnm3 : ∀ a, a < 3 → ∀ b, b < 3 → a ≠ b → (mT3 a).2.1 ≠ (mT3 b).2.1 := by decide +kernel
theorem mty3_ok : ∀ k, k < 3 → parseFieldDescriptor (mT3 k).2.2.1 = some (mty3 k) := by decide +kernel
def mT4 : u_T := fun k => match k with
  | 0 => ("ShadowTester$Weights", "of", "[J", true)
  | 1 => ("ShadowTester$Weights", "all", "J", false)
  | 2 => ("ShadowTester$Weights", "byLevels", "J", false)
  | _ => ("ShadowTester$Weights", "bySquares", "J", false)
def mty4 : Nat → FieldType := fun k => match k with
  | 0 => .array .long
  | 1 => .long
  | 2 => .long
  | _ => .long
theorem mnm4 : ∀ a, a < 4 → ∀ b, b < 4 → a ≠ b → (mT4 a).2.1 ≠ (mT4 b).2.1 := by decide +kernel
theorem mty4_ok : ∀ k, k < 4 → parseFieldDescriptor (mT4 k).2.2.1 = some (mty4 k) := by decide +kernel
def mT5 : u_T := fun k => match k with
  | 0 => ("ShadowTesterModel", "g", "[J", true)
  | 1 => ("ShadowTesterModel", "kept", "[J", true)
  | 2 => ("ShadowTesterModel", "was", "[J", true)
  | 3 => ("ShadowTesterModel", "isKept", "Z", false)
  | 4 => ("ShadowTesterModel", "w", "[J", true)
  | 5 => ("ShadowTesterModel", "isGreat", "Z", false)
  | 6 => ("ShadowTesterModel", "up", "J", false)
  | 7 => ("ShadowTesterModel", "low", "J", false)
  | 8 => ("ShadowTesterModel", "drawnMode", "I", false)
  | 9 => ("ShadowTesterModel", "sort", "[I", true)
  | 10 => ("ShadowTesterModel", "size", "[I", true)
  | 11 => ("ShadowTesterModel", "cell", "[I", true)
  | 12 => ("ShadowTesterModel", "otherItem", "I", false)
  | 13 => ("ShadowTesterModel", "otherKind", "I", false)
  | _ => ("ShadowTesterModel", "otherAnswer", "I", false)
def mty5 : Nat → FieldType := fun k => match k with
  | 0 => .array .long
  | 1 => .array .long
  | 2 => .array .long
  | 3 => .boolean
  | 4 => .array .long
  | 5 => .boolean
  | 6 => .long
  | 7 => .long
  | 8 => .int
  | 9 => .array .int
  | 10 => .array .int
  | 11 => .array .int
  | 12 => .int
  | 13 => .int
  | _ => .int
theorem mnm5 : ∀ a, a < 15 → ∀ b, b < 15 → a ≠ b → (mT5 a).2.1 ≠ (mT5 b).2.1 := by decide +kernel
theorem mty5_ok : ∀ k, k < 15 → parseFieldDescriptor (mT5 k).2.2.1 = some (mty5 k) := by decide +kernel
abbrev mcl : List vw_C := [("ShadowTester", mT0, 5), ("ShadowTester$Course", mT1, 17), ("ShadowTester$Item", mT2, 10), ("ShadowTester$Sheet", mT3, 3), ("ShadowTester$Weights", mT4, 4), ("ShadowTesterModel", mT5, 15)]
def mT (c : Nat) : u_T := match c with
  | 0 => mT0
  | 1 => mT1
  | 2 => mT2
  | 3 => mT3
  | 4 => mT4
  | _ => mT5
def mtyp (c : Nat) : Nat → FieldType := match c with
  | 0 => mty0
  | 1 => mty1
  | 2 => mty2
  | 3 => mty3
  | 4 => mty4
  | _ => mty5
def mnf (c : Nat) : Nat := match c with
  | 0 => 5
  | 1 => 17
  | 2 => 10
  | 3 => 3
  | 4 => 4
  | _ => 15
def mSH : List (Nat × Nat) := [(0, 5), (1, 17), (16, 9), (16, 3), (16, 3), (16, 5), (18, 8), (16, 3), (4, 4), (17, 9), (16, 8), (16, 9), (17, 8), (2, 10), (16, 9), (16, 9), (2, 10), (16, 9), (16, 9), (2, 10), (16, 9), (16, 9), (2, 10), (16, 9), (16, 9), (2, 10), (16, 9), (16, 9), (2, 10), (16, 9), (16, 9), (2, 10), (16, 9), (16, 9), (2, 10), (16, 9), (16, 9), (1, 17), (16, 9), (16, 3), (16, 3), (16, 5), (18, 8), (16, 3), (4, 4), (17, 9), (16, 8), (16, 9), (17, 8), (2, 10), (16, 9), (16, 9), (2, 10), (16, 9), (16, 9), (2, 10), (16, 9), (16, 9), (2, 10), (16, 9), (16, 9), (2, 10), (16, 9), (16, 9), (2, 10), (16, 9), (16, 9), (2, 10), (16, 9), (16, 9), (2, 10), (16, 9), (16, 9), (1, 17), (16, 9), (16, 3), (16, 3), (16, 5), (18, 8), (16, 3), (4, 4), (17, 9), (16, 8), (16, 9), (17, 8), (2, 10), (16, 9), (16, 9), (2, 10), (16, 9), (16, 9), (2, 10), (16, 9), (16, 9), (2, 10), (16, 9), (16, 9), (2, 10), (16, 9), (16, 9), (2, 10), (16, 9), (16, 9), (2, 10), (16, 9), (16, 9), (2, 10), (16, 9), (16, 9), (19, 4), (3, 3), (16, 40), (3, 3), (16, 40), (3, 3), (16, 40), (3, 3), (16, 40), (5, 15), (17, 101), (17, 101), (17, 101), (17, 9), (16, 4), (16, 4), (16, 160)]
def shp (q : Nat) : Nat × Nat := mSH.getD q (999, 0)
def Yt_init : Nat := 0
def Yt_prior : Nat := 1
def Yt_quota : Nat := 2
def Yt_item : Nat := 3
def Yt_ease : Nat := 4
def Yt_set : Nat := 5
def Yt_rules : Nat := 6
def Yt_told : Nat := 7
def Yt_by : Nat := 8
def Yt_taken : Nat := 9
def Yt_begin : Nat := 10
def Yt_answer : Nat := 11
def Yt_end : Nat := 12
def Yt_answered : Nat := 13
def Yt_weight : Nat := 14
def Yt_now : Nat := 15
def Yt_mode : Nat := 16
def Yt_would : Nat := 17
def Yt_shadow : Nat := 18
def Yt_next : Nat := 19
def Yt_stops : Nat := 20
def Yt_says : Nat := 21
def Yt_drawn : Nat := 22
def Yt_chance : Nat := 23
def Yt_tells : Nat := 24
def Yt_film : Nat := 25
def Yt_image : Nat := 26
def Yt_back : Nat := 27
def Yt_count : Nat := 28
def Yt_sheet : Nat := 29
def Yt_put : Nat := 30
def Yt_copy : Nat := 31
def Yt_load : Nat := 32
def Yt_within : Nat := 33
def Yt_isLevel : Nat := 34
def Yt_isArea : Nat := 35
def Yt_isKind : Nat := 36
def Yt_isSheet : Nat := 37
def Yt_isSort : Nat := 38
def Yt_stir : Nat := 39
def Yo_init : Nat := 40
def Yo_copyFrom : Nat := 41
def Yo_othersAreZero : Nat := 42
def Yo_changePrior : Nat := 43
def Yo_isItem : Nat := 44
def Yo_addItem : Nat := 45
def Yo_start : Nat := 46
def Yo_finish : Nat := 47
def Yo_mayBeAsked : Nat := 48
def Yo_askedOf : Nat := 49
def Yo_ask : Nat := 50
def Yo_goOnFrom : Nat := 51
def Yo_bestTest : Nat := 52
def Yo_keepsQuotas : Nat := 53
def Yo_together : Nat := 54
def Yo_bestItem : Nat := 55
def Yo_isOver : Nat := 56
def Yo_ruleSays : Nat := 57
def Yo_isSure : Nat := 58
def Yo_isNarrow : Nat := 59
def Yo_isPoor : Nat := 60
def Yo_isClear : Nat := 61
def Yo_understands : Nat := 62
def Yo_bestLevel : Nat := 63
def Yo_kindsFor : Nat := 64
def Yo_decidingItems : Nat := 65
def Yi_init : Nat := 66
def Yi_become : Nat := 67
def Yi_copyFrom : Nat := 68
def Yi_isFree : Nat := 69
def Yi_isOf : Nat := 70
def Yi_rightAs : Nat := 71
def Yi_tellsOf : Nat := 72
def Yh_init : Nat := 73
def Yh_isMissing : Nat := 74
def Yh_become : Nat := 75
def Yh_has : Nat := 76
def Yh_write : Nat := 77
def Yw_init : Nat := 78
def Yw_copyFrom : Nat := 79
def Yw_become : Nat := 80
def Yw_lower : Nat := 81
def Yw_sumUp : Nat := 82
def Yw_go : Nat := 83
def Yw_mean : Nat := 84
def Yw_spreadAbove : Nat := 85
def Yw_spreadBelow : Nat := 86
def Yw_informs : Nat := 87
def Yw_rights : Nat := 88
def Yw_heaviest : Nat := 89
def Ym_init : Nat := 90
def Ym_isIn : Nat := 91
def Ym_copies : Nat := 92
def Ym_get : Nat := 93
def Ym_of : Nat := 94
def Ym_isItem : Nat := 95
def Ym_isLevel : Nat := 96
def Ym_isArea : Nat := 97
def Ym_isOn : Nat := 98
def Ym_has : Nat := 99
def Ym_bits : Nat := 100
def Ym_prior : Nat := 101
def Ym_quota : Nat := 102
def Ym_isSuch : Nat := 103
def Ym_comes : Nat := 104
def Ym_item : Nat := 105
def Ym_ease : Nat := 106
def Ym_maySet : Nat := 107
def Ym_set : Nat := 108
def Ym_rules : Nat := 109
def Ym_held : Nat := 110
def Ym_right : Nat := 111
def Ym_rightOf : Nat := 112
def Ym_tellsOf : Nat := 113
def Ym_by : Nat := 114
def Ym_above : Nat := 115
def Ym_taken : Nat := 116
def Ym_answers : Nat := 117
def Ym_askedAt : Nat := 118
def Ym_asked : Nat := 119
def Ym_inArea : Nat := 120
def Ym_begin : Nat := 121
def Ym_asks : Nat := 122
def Ym_answer : Nat := 123
def Ym_end : Nat := 124
def Ym_answered : Nat := 125
def Ym_answerOf : Nat := 126
def Ym_told : Nat := 127
def Ym_common : Nat := 128
def Ym_divides : Nat := 129
def Ym_times : Nat := 130
def Ym_plus : Nat := 131
def Ym_goesBy : Nat := 132
def Ym_weighsBy : Nat := 133
def Ym_weighs : Nat := 134
def Ym_weight : Nat := 135
def Ym_modeNow : Nat := 136
def Ym_mode : Nat := 137
def Ym_all : Nat := 138
def Ym_mean : Nat := 139
def Ym_squares : Nat := 140
def Ym_tellsAll : Nat := 141
def Ym_rightAll : Nat := 142
def Ym_spread : Nat := 143
def Ym_part : Nat := 144
def Ym_looks : Nat := 145
def Ym_now : Nat := 146
def Ym_would : Nat := 147
def Ym_isShadow : Nat := 148
def Ym_informs : Nat := 149
def Ym_shadowNow : Nat := 150
def Ym_shadow : Nat := 151
def Ym_nextNow : Nat := 152
def Ym_next : Nat := 153
def Ym_isSure : Nat := 154
def Ym_isNarrow : Nat := 155
def Ym_isPoor : Nat := 156
def Ym_isClear : Nat := 157
def Ym_ruleNow : Nat := 158
def Ym_says : Nat := 159
def Ym_stopsNow : Nat := 160
def Ym_stops : Nat := 161
def Ym_draws : Nat := 162
def Ym_drawn : Nat := 163
def Ym_chance : Nat := 164
def Ym_isSheet : Nat := 165
def Ym_isCell : Nat := 166
def Ym_product : Nat := 167
def Ym_best : Nat := 168
def Ym_areAnswers : Nat := 169
def Ym_turners : Nat := 170
def Ym_kinds : Nat := 171
def Ym_tells : Nat := 172
def Ym_film : Nat := 173
def Ym_image : Nat := 174
def Ym_back : Nat := 175
def Ym_count : Nat := 176
def Ym_sheet : Nat := 177
def Ym_put : Nat := 178
def Ym_copy : Nat := 179
def Ym_loads : Nat := 180
def Ym_load : Nat := 181
def Ye_plus : Nat := 182
def Ye_times : Nat := 183
def Ye_commonDivisor : Nat := 184
def Ye_inLowestTerms : Nat := 185
def Yj_bitCount : Nat := 186
def Yl_law : Nat := 187
-- a method: name, bytes, locals, what it returns, static, arguments, class, how many cells it makes, its code word's place
def mMT0 : List (MethodName × ByteArray × Nat × Option FieldType × Bool × Nat × Nat × Nat × Nat) := [(⟨"ShadowTester", "<init>", "()V"⟩, prog_1_method_1_code, 2, none, false, 0, 0, 117, 69),
  (⟨"ShadowTester", "prior", "(II)I"⟩, prog_1_method_2_code, 3, some .int, false, 2, 0, 0, 265),
  (⟨"ShadowTester", "quota", "(III)I"⟩, prog_1_method_3_code, 5, some .int, false, 3, 0, 0, 300),
  (⟨"ShadowTester", "item", "(IIII)I"⟩, prog_1_method_4_code, 5, some .int, false, 4, 0, 0, 307),
  (⟨"ShadowTester", "ease", "(II)I"⟩, prog_1_method_5_code, 4, some .int, false, 2, 0, 0, 339),
  (⟨"ShadowTester", "set", "(II)I"⟩, prog_1_method_6_code, 4, some .int, false, 2, 0, 0, 347),
  (⟨"ShadowTester", "rules", "(I)I"⟩, prog_1_method_7_code, 3, some .int, false, 1, 0, 0, 351),
  (⟨"ShadowTester", "told", "(II)I"⟩, prog_1_method_8_code, 4, some .int, false, 2, 0, 0, 355),
  (⟨"ShadowTester", "by", "(III)I"⟩, prog_1_method_9_code, 5, some .int, false, 3, 0, 0, 359),
  (⟨"ShadowTester", "taken", "(II)I"⟩, prog_1_method_10_code, 4, some .int, false, 2, 0, 0, 363),
  (⟨"ShadowTester", "begin", "(I)I"⟩, prog_1_method_11_code, 2, some .int, false, 1, 0, 0, 375),
  (⟨"ShadowTester", "answer", "(II)I"⟩, prog_1_method_12_code, 3, some .int, false, 2, 0, 0, 398),
  (⟨"ShadowTester", "end", "()I"⟩, prog_1_method_13_code, 1, some .int, false, 0, 0, 0, 423),
  (⟨"ShadowTester", "answered", "(II)I"⟩, prog_1_method_14_code, 4, some .int, false, 2, 0, 0, 431),
  (⟨"ShadowTester", "weight", "(I)J"⟩, prog_1_method_15_code, 2, some .long, false, 1, 0, 0, 435),
  (⟨"ShadowTester", "now", "(II)J"⟩, prog_1_method_16_code, 5, some .long, false, 2, 0, 0, 440),
  (⟨"ShadowTester", "mode", "()I"⟩, prog_1_method_17_code, 1, some .int, false, 0, 0, 0, 473),
  (⟨"ShadowTester", "would", "(III)J"⟩, prog_1_method_18_code, 5, some .long, false, 3, 0, 0, 478),
  (⟨"ShadowTester", "shadow", "()I"⟩, prog_1_method_19_code, 1, some .int, false, 0, 0, 0, 490),
  (⟨"ShadowTester", "next", "()I"⟩, prog_1_method_20_code, 1, some .int, false, 0, 0, 0, 515),
  (⟨"ShadowTester", "stops", "()I"⟩, prog_1_method_21_code, 1, some .int, false, 0, 0, 0, 524),
  (⟨"ShadowTester", "says", "(I)I"⟩, prog_1_method_22_code, 2, some .int, false, 1, 0, 0, 557),
  (⟨"ShadowTester", "drawn", "(III)I"⟩, prog_1_method_23_code, 5, some .int, false, 3, 0, 0, 562),
  (⟨"ShadowTester", "chance", "(IIII)I"⟩, prog_1_method_24_code, 7, some .int, false, 4, 0, 0, 584),
  (⟨"ShadowTester", "tells", "(III)I"⟩, prog_1_method_25_code, 6, some .int, false, 3, 0, 0, 591),
  (⟨"ShadowTester", "film", "(II)I"⟩, prog_1_method_26_code, 7, some .int, false, 2, 0, 0, 620),
  (⟨"ShadowTester", "image", "()I"⟩, prog_1_method_27_code, 1, some .int, false, 0, 0, 0, 637),
  (⟨"ShadowTester", "back", "()I"⟩, prog_1_method_28_code, 1, some .int, false, 0, 0, 0, 642),
  (⟨"ShadowTester", "count", "(I)I"⟩, prog_1_method_29_code, 2, some .int, false, 1, 0, 0, 646),
  (⟨"ShadowTester", "sheet", "(III)I"⟩, prog_1_method_30_code, 4, some .int, false, 3, 0, 0, 651),
  (⟨"ShadowTester", "put", "(III)I"⟩, prog_1_method_31_code, 5, some .int, false, 3, 0, 0, 658),
  (⟨"ShadowTester", "copy", "(IIIII)I"⟩, prog_1_method_32_code, 8, some .int, false, 5, 0, 0, 663),
  (⟨"ShadowTester", "load", "(IIII)I"⟩, prog_1_method_33_code, 9, some .int, false, 4, 0, 0, 668),
  (⟨"ShadowTester", "within", "(III)Z"⟩, prog_1_method_34_code, 3, some .boolean, true, 3, 0, 0, 271),
  (⟨"ShadowTester", "isLevel", "(I)Z"⟩, prog_1_method_35_code, 1, some .boolean, true, 1, 0, 0, 268),
  (⟨"ShadowTester", "isArea", "(I)Z"⟩, prog_1_method_36_code, 1, some .boolean, true, 1, 0, 0, 303),
  (⟨"ShadowTester", "isKind", "(I)Z"⟩, prog_1_method_37_code, 1, some .boolean, true, 1, 0, 0, 314),
  (⟨"ShadowTester", "isSheet", "(I)Z"⟩, prog_1_method_38_code, 1, some .boolean, true, 1, 0, 0, 594),
  (⟨"ShadowTester", "isSort", "(I)Z"⟩, prog_1_method_39_code, 1, some .boolean, true, 1, 0, 0, 654),
  (⟨"ShadowTester", "stir", "(I)I"⟩, prog_1_method_40_code, 1, some .int, true, 1, 0, 0, 382)]
def mMT1 : List (MethodName × ByteArray × Nat × Option FieldType × Bool × Nat × Nat × Nat × Nat) := [(⟨"ShadowTester$Course", "<init>", "()V"⟩, prog_2_method_1_code, 2, none, false, 0, 1, 35, 77),
  (⟨"ShadowTester$Course", "copyFrom", "(LShadowTester$Course;)V"⟩, prog_2_method_2_code, 3, none, false, 1, 1, 0, 570),
  (⟨"ShadowTester$Course", "othersAreZero", "(I)Z"⟩, prog_2_method_3_code, 3, some .boolean, false, 1, 1, 0, 276),
  (⟨"ShadowTester$Course", "changePrior", "(II)I"⟩, prog_2_method_4_code, 4, some .int, false, 2, 1, 0, 280),
  (⟨"ShadowTester$Course", "isItem", "(I)Z"⟩, prog_2_method_5_code, 2, some .boolean, false, 1, 1, 0, 343),
  (⟨"ShadowTester$Course", "addItem", "(IIII)I"⟩, prog_2_method_6_code, 5, some .int, false, 4, 1, 0, 311),
  (⟨"ShadowTester$Course", "start", "(I)I"⟩, prog_2_method_7_code, 6, some .int, false, 1, 1, 0, 379),
  (⟨"ShadowTester$Course", "finish", "()I"⟩, prog_2_method_8_code, 3, some .int, false, 0, 1, 0, 427),
  (⟨"ShadowTester$Course", "mayBeAsked", "(I)Z"⟩, prog_2_method_9_code, 2, some .boolean, false, 1, 1, 0, 402),
  (⟨"ShadowTester$Course", "askedOf", "(I)I"⟩, prog_2_method_10_code, 4, some .int, false, 1, 1, 0, 410),
  (⟨"ShadowTester$Course", "ask", "(II)V"⟩, prog_2_method_11_code, 3, none, false, 2, 1, 0, 414),
  (⟨"ShadowTester$Course", "goOnFrom", "(LShadowTester$Course;II)I"⟩, prog_2_method_12_code, 8, some .int, false, 3, 1, 0, 566),
  (⟨"ShadowTester$Course", "bestTest", "()I"⟩, prog_2_method_13_code, 10, some .int, false, 0, 1, 0, 494),
  (⟨"ShadowTester$Course", "keepsQuotas", "(I)Z"⟩, prog_2_method_14_code, 4, some .boolean, false, 1, 1, 0, 506),
  (⟨"ShadowTester$Course", "together", "(I)J"⟩, prog_2_method_15_code, 5, some .long, false, 1, 1, 0, 510),
  (⟨"ShadowTester$Course", "bestItem", "()I"⟩, prog_2_method_16_code, 4, some .int, false, 0, 1, 0, 519),
  (⟨"ShadowTester$Course", "isOver", "()I"⟩, prog_2_method_17_code, 3, some .int, false, 0, 1, 0, 528),
  (⟨"ShadowTester$Course", "ruleSays", "(I)I"⟩, prog_2_method_18_code, 3, some .int, false, 1, 1, 0, 532),
  (⟨"ShadowTester$Course", "isSure", "(I)I"⟩, prog_2_method_19_code, 6, some .int, false, 1, 1, 0, 536),
  (⟨"ShadowTester$Course", "isNarrow", "(I)I"⟩, prog_2_method_20_code, 6, some .int, false, 1, 1, 0, 542),
  (⟨"ShadowTester$Course", "isPoor", "(I)I"⟩, prog_2_method_21_code, 7, some .int, false, 1, 1, 0, 549),
  (⟨"ShadowTester$Course", "isClear", "(I)I"⟩, prog_2_method_22_code, 3, some .int, false, 1, 1, 0, 553),
  (⟨"ShadowTester$Course", "understands", "(LShadowTester$Sheet;)Z"⟩, prog_2_method_23_code, 3, some .boolean, false, 1, 1, 0, 602),
  (⟨"ShadowTester$Course", "bestLevel", "(LShadowTester$Sheet;III)I"⟩, prog_2_method_24_code, 14, some .int, false, 4, 1, 0, 610),
  (⟨"ShadowTester$Course", "kindsFor", "(LShadowTester$Sheet;II)I"⟩, prog_2_method_25_code, 6, some .int, false, 3, 1, 0, 606),
  (⟨"ShadowTester$Course", "decidingItems", "(LShadowTester$Sheet;)I"⟩, prog_2_method_26_code, 5, some .int, false, 1, 1, 0, 616),
  (⟨"ShadowTester$Item", "<init>", "()V"⟩, prog_4_method_1_code, 1, none, false, 0, 2, 2, 109),
  (⟨"ShadowTester$Item", "become", "(IIII)V"⟩, prog_4_method_2_code, 6, none, false, 4, 2, 0, 321),
  (⟨"ShadowTester$Item", "copyFrom", "(LShadowTester$Item;)V"⟩, prog_4_method_3_code, 2, none, false, 1, 2, 0, 575),
  (⟨"ShadowTester$Item", "isFree", "()Z"⟩, prog_4_method_4_code, 1, some .boolean, false, 0, 2, 0, 406),
  (⟨"ShadowTester$Item", "isOf", "(I)Z"⟩, prog_4_method_5_code, 4, some .boolean, false, 1, 2, 0, 368),
  (⟨"ShadowTester$Item", "rightAs", "(II)I"⟩, prog_4_method_6_code, 4, some .int, false, 2, 2, 0, 325),
  (⟨"ShadowTester$Item", "tellsOf", "(I)I"⟩, prog_4_method_7_code, 3, some .int, false, 1, 2, 0, 335),
  (⟨"ShadowTester$Sheet", "<init>", "()V"⟩, prog_5_method_1_code, 1, none, false, 0, 3, 1, 230),
  (⟨"ShadowTester$Sheet", "isMissing", "()Z"⟩, prog_5_method_2_code, 1, some .boolean, false, 0, 3, 0, 598),
  (⟨"ShadowTester$Sheet", "become", "(II)V"⟩, prog_5_method_3_code, 4, none, false, 2, 3, 0, 624),
  (⟨"ShadowTester$Sheet", "has", "(II)Z"⟩, prog_5_method_4_code, 3, some .boolean, false, 2, 3, 0, 633),
  (⟨"ShadowTester$Sheet", "write", "(II)V"⟩, prog_5_method_5_code, 3, none, false, 2, 3, 0, 629),
  (⟨"ShadowTester$Weights", "<init>", "()V"⟩, prog_6_method_1_code, 2, none, false, 0, 4, 1, 85),
  (⟨"ShadowTester$Weights", "copyFrom", "(LShadowTester$Weights;)V"⟩, prog_6_method_2_code, 2, none, false, 1, 4, 0, 482)]
def mMT2 : List (MethodName × ByteArray × Nat × Option FieldType × Bool × Nat × Nat × Nat × Nat) := [(⟨"ShadowTester$Weights", "become", "([I)V"⟩, prog_6_method_3_code, 3, none, false, 1, 4, 0, 284),
  (⟨"ShadowTester$Weights", "lower", "()V"⟩, prog_6_method_4_code, 4, none, false, 0, 4, 0, 387),
  (⟨"ShadowTester$Weights", "sumUp", "()V"⟩, prog_6_method_5_code, 2, none, false, 0, 4, 0, 288),
  (⟨"ShadowTester$Weights", "go", "(LShadowTester$Item;I)Z"⟩, prog_6_method_6_code, 4, some .boolean, false, 2, 4, 0, 418),
  (⟨"ShadowTester$Weights", "mean", "(I)J"⟩, prog_6_method_7_code, 2, some .long, false, 1, 4, 0, 444),
  (⟨"ShadowTester$Weights", "spreadAbove", "()J"⟩, prog_6_method_8_code, 5, some .long, false, 0, 4, 0, 453),
  (⟨"ShadowTester$Weights", "spreadBelow", "()J"⟩, prog_6_method_9_code, 1, some .long, false, 0, 4, 0, 458),
  (⟨"ShadowTester$Weights", "informs", "(LShadowTester$Item;)J"⟩, prog_6_method_10_code, 5, some .long, false, 1, 4, 0, 463),
  (⟨"ShadowTester$Weights", "rights", "(LShadowTester$Item;)J"⟩, prog_6_method_11_code, 5, some .long, false, 1, 4, 0, 467),
  (⟨"ShadowTester$Weights", "heaviest", "()I"⟩, prog_6_method_12_code, 3, some .int, false, 0, 4, 0, 394),
  (⟨"ShadowTesterModel", "<init>", "()V"⟩, prog_8_method_1_code, 2, none, false, 0, 5, 7, 673),
  (⟨"ShadowTesterModel", "isIn", "(JJJ)Z"⟩, prog_8_method_2_code, 6, some .boolean, true, 3, 5, 0, 732),
  (⟨"ShadowTesterModel", "copies", "([J[J)V"⟩, prog_8_method_3_code, 3, none, true, 2, 5, 0, 1023),
  (⟨"ShadowTesterModel", "get", "(I)I"⟩, prog_8_method_4_code, 2, some .int, false, 1, 5, 0, 737),
  (⟨"ShadowTesterModel", "of", "(II)I"⟩, prog_8_method_5_code, 3, some .int, false, 2, 5, 0, 775),
  (⟨"ShadowTesterModel", "isItem", "(I)Z"⟩, prog_8_method_6_code, 2, some .boolean, false, 1, 5, 0, 771),
  (⟨"ShadowTesterModel", "isLevel", "(I)Z"⟩, prog_8_method_7_code, 1, some .boolean, true, 1, 5, 0, 729),
  (⟨"ShadowTesterModel", "isArea", "(I)Z"⟩, prog_8_method_8_code, 1, some .boolean, true, 1, 5, 0, 744),
  (⟨"ShadowTesterModel", "isOn", "()Z"⟩, prog_8_method_9_code, 1, some .boolean, false, 0, 5, 0, 763),
  (⟨"ShadowTesterModel", "has", "(JI)Z"⟩, prog_8_method_10_code, 3, some .boolean, true, 2, 5, 0, 839),
  (⟨"ShadowTesterModel", "bits", "(I)I"⟩, prog_8_method_11_code, 3, some .int, true, 1, 5, 0, 832),
  (⟨"ShadowTesterModel", "prior", "(II)I"⟩, prog_8_method_12_code, 6, some .int, false, 2, 5, 0, 726),
  (⟨"ShadowTesterModel", "quota", "(III)I"⟩, prog_8_method_13_code, 5, some .int, false, 3, 5, 0, 741),
  (⟨"ShadowTesterModel", "isSuch", "(JJJJ)Z"⟩, prog_8_method_14_code, 8, some .boolean, true, 4, 5, 0, 752),
  (⟨"ShadowTesterModel", "comes", "(IIII)I"⟩, prog_8_method_15_code, 7, some .int, false, 4, 5, 0, 758),
  (⟨"ShadowTesterModel", "item", "(IIII)I"⟩, prog_8_method_16_code, 5, some .int, false, 4, 5, 0, 749),
  (⟨"ShadowTesterModel", "ease", "(II)I"⟩, prog_8_method_17_code, 4, some .int, false, 2, 5, 0, 767),
  (⟨"ShadowTesterModel", "maySet", "(II)Z"⟩, prog_8_method_18_code, 2, some .boolean, true, 2, 5, 0, 782),
  (⟨"ShadowTesterModel", "set", "(II)I"⟩, prog_8_method_19_code, 5, some .int, false, 2, 5, 0, 779),
  (⟨"ShadowTesterModel", "rules", "(I)I"⟩, prog_8_method_20_code, 3, some .int, false, 1, 5, 0, 789),
  (⟨"ShadowTesterModel", "held", "(III)I"⟩, prog_8_method_21_code, 3, some .int, true, 3, 5, 0, 804),
  (⟨"ShadowTesterModel", "right", "(IIII)I"⟩, prog_8_method_22_code, 5, some .int, true, 4, 5, 0, 801),
  (⟨"ShadowTesterModel", "rightOf", "(II)I"⟩, prog_8_method_23_code, 3, some .int, false, 2, 5, 0, 798),
  (⟨"ShadowTesterModel", "tellsOf", "(II)I"⟩, prog_8_method_24_code, 5, some .int, false, 2, 5, 0, 810),
  (⟨"ShadowTesterModel", "by", "(III)I"⟩, prog_8_method_25_code, 4, some .int, false, 3, 5, 0, 794),
  (⟨"ShadowTesterModel", "above", "(I)I"⟩, prog_8_method_26_code, 1, some .int, true, 1, 5, 0, 817),
  (⟨"ShadowTesterModel", "taken", "(II)I"⟩, prog_8_method_27_code, 4, some .int, false, 2, 5, 0, 814),
  (⟨"ShadowTesterModel", "answers", "()I"⟩, prog_8_method_28_code, 1, some .int, false, 0, 5, 0, 847),
  (⟨"ShadowTesterModel", "askedAt", "(I)I"⟩, prog_8_method_29_code, 2, some .int, false, 1, 5, 0, 851),
  (⟨"ShadowTesterModel", "asked", "()I"⟩, prog_8_method_30_code, 3, some .int, false, 0, 5, 0, 843)]
def mMT3 : List (MethodName × ByteArray × Nat × Option FieldType × Bool × Nat × Nat × Nat × Nat) := [(⟨"ShadowTesterModel", "inArea", "(II)I"⟩, prog_8_method_31_code, 5, some .int, false, 2, 5, 0, 855),
  (⟨"ShadowTesterModel", "begin", "(I)I"⟩, prog_8_method_32_code, 5, some .int, false, 1, 5, 0, 821),
  (⟨"ShadowTesterModel", "asks", "(II)V"⟩, prog_8_method_33_code, 3, none, false, 2, 5, 0, 859),
  (⟨"ShadowTesterModel", "answer", "(II)I"⟩, prog_8_method_34_code, 3, some .int, false, 2, 5, 0, 836),
  (⟨"ShadowTesterModel", "end", "()I"⟩, prog_8_method_35_code, 2, some .int, false, 0, 5, 0, 863),
  (⟨"ShadowTesterModel", "answered", "(II)I"⟩, prog_8_method_36_code, 3, some .int, false, 2, 5, 0, 867),
  (⟨"ShadowTesterModel", "answerOf", "(I)I"⟩, prog_8_method_37_code, 3, some .int, false, 1, 5, 0, 876),
  (⟨"ShadowTesterModel", "told", "(II)I"⟩, prog_8_method_38_code, 3, some .int, false, 2, 5, 0, 871),
  (⟨"ShadowTesterModel", "common", "(JJ)J"⟩, prog_8_method_39_code, 10, some .long, true, 2, 5, 0, 828),
  (⟨"ShadowTesterModel", "divides", "()V"⟩, prog_8_method_40_code, 4, none, false, 0, 5, 0, 825),
  (⟨"ShadowTesterModel", "times", "(JJ)J"⟩, prog_8_method_41_code, 5, some .long, false, 2, 5, 0, 897),
  (⟨"ShadowTesterModel", "plus", "(JJ)J"⟩, prog_8_method_42_code, 5, some .long, false, 2, 5, 0, 929),
  (⟨"ShadowTesterModel", "goesBy", "(II)V"⟩, prog_8_method_43_code, 5, none, false, 2, 5, 0, 893),
  (⟨"ShadowTesterModel", "weighsBy", "(I)V"⟩, prog_8_method_44_code, 3, none, false, 1, 5, 0, 889),
  (⟨"ShadowTesterModel", "weighs", "()V"⟩, prog_8_method_45_code, 1, none, false, 0, 5, 0, 885),
  (⟨"ShadowTesterModel", "weight", "(I)J"⟩, prog_8_method_46_code, 2, some .long, false, 1, 5, 0, 880),
  (⟨"ShadowTesterModel", "modeNow", "()I"⟩, prog_8_method_47_code, 3, some .int, false, 0, 5, 0, 906),
  (⟨"ShadowTesterModel", "mode", "()I"⟩, prog_8_method_48_code, 1, some .int, false, 0, 5, 0, 902),
  (⟨"ShadowTesterModel", "all", "()J"⟩, prog_8_method_49_code, 4, some .long, false, 0, 5, 0, 925),
  (⟨"ShadowTesterModel", "mean", "()J"⟩, prog_8_method_50_code, 4, some .long, false, 0, 5, 0, 933),
  (⟨"ShadowTesterModel", "squares", "()J"⟩, prog_8_method_51_code, 4, some .long, false, 0, 5, 0, 937),
  (⟨"ShadowTesterModel", "tellsAll", "(I)J"⟩, prog_8_method_52_code, 5, some .long, false, 1, 5, 0, 941),
  (⟨"ShadowTesterModel", "rightAll", "(I)J"⟩, prog_8_method_53_code, 5, some .long, false, 1, 5, 0, 945),
  (⟨"ShadowTesterModel", "spread", "()V"⟩, prog_8_method_54_code, 9, none, false, 0, 5, 0, 921),
  (⟨"ShadowTesterModel", "part", "(I)J"⟩, prog_8_method_55_code, 2, some .long, false, 1, 5, 0, 950),
  (⟨"ShadowTesterModel", "looks", "(I)V"⟩, prog_8_method_56_code, 2, none, false, 1, 5, 0, 917),
  (⟨"ShadowTesterModel", "now", "(II)J"⟩, prog_8_method_57_code, 4, some .long, false, 2, 5, 0, 910),
  (⟨"ShadowTesterModel", "would", "(III)J"⟩, prog_8_method_58_code, 4, some .long, false, 3, 5, 0, 954),
  (⟨"ShadowTesterModel", "isShadow", "(II)Z"⟩, prog_8_method_59_code, 4, some .boolean, false, 2, 5, 0, 967),
  (⟨"ShadowTesterModel", "informs", "(I)J"⟩, prog_8_method_60_code, 5, some .long, false, 1, 5, 0, 971),
  (⟨"ShadowTesterModel", "shadowNow", "()I"⟩, prog_8_method_61_code, 8, some .int, false, 0, 5, 0, 962),
  (⟨"ShadowTesterModel", "shadow", "()I"⟩, prog_8_method_62_code, 1, some .int, false, 0, 5, 0, 958),
  (⟨"ShadowTesterModel", "nextNow", "()I"⟩, prog_8_method_63_code, 8, some .int, false, 0, 5, 0, 979),
  (⟨"ShadowTesterModel", "next", "()I"⟩, prog_8_method_64_code, 1, some .int, false, 0, 5, 0, 975),
  (⟨"ShadowTesterModel", "isSure", "()Z"⟩, prog_8_method_65_code, 1, some .boolean, false, 0, 5, 0, 991),
  (⟨"ShadowTesterModel", "isNarrow", "()Z"⟩, prog_8_method_66_code, 1, some .boolean, false, 0, 5, 0, 996),
  (⟨"ShadowTesterModel", "isPoor", "()Z"⟩, prog_8_method_67_code, 4, some .boolean, false, 0, 5, 0, 1000),
  (⟨"ShadowTesterModel", "isClear", "()Z"⟩, prog_8_method_68_code, 5, some .boolean, false, 0, 5, 0, 1004),
  (⟨"ShadowTesterModel", "ruleNow", "(I)I"⟩, prog_8_method_69_code, 3, some .int, false, 1, 5, 0, 987),
  (⟨"ShadowTesterModel", "says", "(I)I"⟩, prog_8_method_70_code, 2, some .int, false, 1, 5, 0, 983)]
def mMT4 : List (MethodName × ByteArray × Nat × Option FieldType × Bool × Nat × Nat × Nat × Nat) := [(⟨"ShadowTesterModel", "stopsNow", "()I"⟩, prog_8_method_71_code, 3, some .int, false, 0, 5, 0, 1012),
  (⟨"ShadowTesterModel", "stops", "()I"⟩, prog_8_method_72_code, 1, some .int, false, 0, 5, 0, 1008),
  (⟨"ShadowTesterModel", "draws", "(II)I"⟩, prog_8_method_73_code, 7, some .int, false, 2, 5, 0, 1020),
  (⟨"ShadowTesterModel", "drawn", "(III)I"⟩, prog_8_method_74_code, 5, some .int, false, 3, 5, 0, 1016),
  (⟨"ShadowTesterModel", "chance", "(IIII)I"⟩, prog_8_method_75_code, 7, some .int, false, 4, 5, 0, 1028),
  (⟨"ShadowTesterModel", "isSheet", "(I)Z"⟩, prog_8_method_76_code, 1, some .boolean, true, 1, 5, 0, 1036),
  (⟨"ShadowTesterModel", "isCell", "(IJ)Z"⟩, prog_8_method_77_code, 4, some .boolean, false, 2, 5, 0, 1088),
  (⟨"ShadowTesterModel", "product", "(II)J"⟩, prog_8_method_78_code, 8, some .long, false, 2, 5, 0, 1048),
  (⟨"ShadowTesterModel", "best", "(I)I"⟩, prog_8_method_79_code, 4, some .int, false, 1, 5, 0, 1044),
  (⟨"ShadowTesterModel", "areAnswers", "(I)Z"⟩, prog_8_method_80_code, 4, some .boolean, false, 1, 5, 0, 1040),
  (⟨"ShadowTesterModel", "turners", "(I)I"⟩, prog_8_method_81_code, 5, some .int, false, 1, 5, 0, 1052),
  (⟨"ShadowTesterModel", "kinds", "(III)I"⟩, prog_8_method_82_code, 6, some .int, false, 3, 5, 0, 1056),
  (⟨"ShadowTesterModel", "tells", "(III)I"⟩, prog_8_method_83_code, 5, some .int, false, 3, 5, 0, 1033),
  (⟨"ShadowTesterModel", "film", "(II)I"⟩, prog_8_method_84_code, 5, some .int, false, 2, 5, 0, 1060),
  (⟨"ShadowTesterModel", "image", "()I"⟩, prog_8_method_85_code, 1, some .int, false, 0, 5, 0, 1064),
  (⟨"ShadowTesterModel", "back", "()I"⟩, prog_8_method_86_code, 1, some .int, false, 0, 5, 0, 1068),
  (⟨"ShadowTesterModel", "count", "(I)I"⟩, prog_8_method_87_code, 2, some .int, false, 1, 5, 0, 1072),
  (⟨"ShadowTesterModel", "sheet", "(III)I"⟩, prog_8_method_88_code, 5, some .int, false, 3, 5, 0, 1080),
  (⟨"ShadowTesterModel", "put", "(III)I"⟩, prog_8_method_89_code, 4, some .int, false, 3, 5, 0, 1084),
  (⟨"ShadowTesterModel", "copy", "(IIIII)I"⟩, prog_8_method_90_code, 8, some .int, false, 5, 5, 0, 1092),
  (⟨"ShadowTesterModel", "loads", "(IJ)I"⟩, prog_8_method_91_code, 5, some .int, false, 2, 5, 0, 1100),
  (⟨"ShadowTesterModel", "load", "(IIII)I"⟩, prog_8_method_92_code, 9, some .int, false, 4, 5, 0, 1096),
  (⟨"ShadowTester$Exact", "plus", "(JJ)J"⟩, prog_3_method_2_code, 4, some .long, true, 2, 6, 0, 291),
  (⟨"ShadowTester$Exact", "times", "(JJ)J"⟩, prog_3_method_3_code, 4, some .long, true, 2, 6, 0, 296),
  (⟨"ShadowTester$Exact", "commonDivisor", "(JJ)J"⟩, prog_3_method_4_code, 11, some .long, true, 2, 6, 0, 390),
  (⟨"ShadowTester$Exact", "inLowestTerms", "(JJI)J"⟩, prog_3_method_5_code, 7, some .long, true, 3, 6, 0, 447),
  (⟨"java/lang/Integer", "bitCount", "(I)I"⟩, prog_9_method_49_code, 1, some .int, true, 1, 7, 0, 499),
  (⟨"ShadowTesterLaw", "law", "([I)Z"⟩, code, 4, some .boolean, true, 1, 10, 0, 0)]
def mMT : List (MethodName × ByteArray × Nat × Option FieldType × Bool × Nat × Nat × Nat × Nat) := mMT0 ++ mMT1 ++ mMT2 ++ mMT3 ++ mMT4
def mmt (j : Nat) : MethodName × ByteArray × Nat × Option FieldType × Bool × Nat × Nat × Nat × Nat := mMT.getD j (⟨"", "", ""⟩, ⟨#[]⟩, 0, none, false, 0, 0, 0, 0)
def mmn (j : Nat) : MethodName := (mmt j).1
def mby (j : Nat) : ByteArray := (mmt j).2.1
def mml (j : Nat) : Nat := (mmt j).2.2.1
def mrt (j : Nat) : Option FieldType := (mmt j).2.2.2.1
def mst (j : Nat) : Bool := (mmt j).2.2.2.2.1
def mna (j : Nat) : Nat := (mmt j).2.2.2.2.2.1
def moi (j : Nat) : Nat := (mmt j).2.2.2.2.2.2.1
def mgr (j : Nat) : Nat := (mmt j).2.2.2.2.2.2.2.1
def mps (j : Nat) : Nat := (mmt j).2.2.2.2.2.2.2.2
def mok (j : Nat) : Bool := decide (j < 187)
theorem dk_app {b : ByteArray} {x y : List (Nat × Instr × Nat)} (h1 : ∀ e ∈ x, decode b e.1 = .ok e.2) (h2 : ∀ e ∈ y, decode b e.1 = .ok e.2) : ∀ e ∈ x ++ y, decode b e.1 = .ok e.2 := fun e h => (List.mem_append.mp h).elim (h1 e) (h2 e)
def cd_0_0 : List (Nat × Instr × Nat) := [(0, .aload_n 0, 1), (1, .invokespecial 3, 3), (4, .aload_n 0, 1), (5, .new 9, 3), (8, .dup, 1), (9, .invokespecial 11, 3), (12, .putfield 12, 3), (15, .aload_n 0, 1), (16, .new 9, 3), (19, .dup, 1), (20, .invokespecial 11, 3), (23, .putfield 18, 3), (26, .aload_n 0, 1), (27, .new 9, 3), (30, .dup, 1), (31, .invokespecial 11, 3), (34, .putfield 21, 3), (37, .aload_n 0, 1), (38, .iconst 0, 1), (39, .putfield 24, 3), (42, .aload_n 0, 1), (43, .iconst 4, 1), (44, .anewarray 28, 3), (47, .putfield 30, 3), (50, .iconst 0, 1), (51, .istore_n 1, 1), (52, .iload_n 1, 1), (53, .iconst 4, 1), (54, .if_icmp .ge 22, 3), (57, .aload_n 0, 1), (58, .getfield 30, 3), (61, .iload_n 1, 1), (62, .new 28, 3), (65, .dup, 1), (66, .invokespecial 34, 3), (69, .aastore, 1), (70, .iinc 1 1, 3), (73, .goto (-21), 3), (76, .return_, 1)]
theorem dk_0_0 : ∀ e ∈ cd_0_0, decode prog_1_method_1_code e.1 = .ok e.2 := by decide +kernel
def cd_0 : List (Nat × Instr × Nat) := cd_0_0
theorem dk_0 : ∀ e ∈ cd_0, decode prog_1_method_1_code e.1 = .ok e.2 := dk_0_0
def cd_1_0 : List (Nat × Instr × Nat) := [(0, .iload_n 1, 1), (1, .invokestatic 35, 3), (4, .ifCond .eq 13, 3), (7, .iload_n 2, 1), (8, .iconst 0, 1), (9, .ldc 39, 2), (11, .invokestatic 40, 3), (14, .ifCond .ne 6, 3), (17, .bipush (-2), 2), (19, .ireturn, 1), (20, .iload_n 2, 1), (21, .ifCond .ne 17, 3), (24, .aload_n 0, 1), (25, .getfield 12, 3), (28, .iload_n 1, 1), (29, .invokevirtual 44, 3), (32, .ifCond .eq 6, 3), (35, .bipush (-3), 2), (37, .ireturn, 1), (38, .aload_n 0, 1), (39, .getfield 12, 3), (42, .iload_n 1, 1), (43, .iload_n 2, 1), (44, .invokevirtual 47, 3), (47, .ireturn, 1)]
theorem dk_1_0 : ∀ e ∈ cd_1_0, decode prog_1_method_2_code e.1 = .ok e.2 := by decide +kernel
def cd_1 : List (Nat × Instr × Nat) := cd_1_0
theorem dk_1 : ∀ e ∈ cd_1, decode prog_1_method_2_code e.1 = .ok e.2 := dk_1_0
def cd_2_0 : List (Nat × Instr × Nat) := [(0, .iload_n 1, 1), (1, .invokestatic 51, 3), (4, .ifCond .eq 23, 3), (7, .iload_n 2, 1), (8, .iconst 0, 1), (9, .bipush 8, 2), (11, .invokestatic 40, 3), (14, .ifCond .eq 13, 3), (17, .iload_n 3, 1), (18, .iconst 0, 1), (19, .bipush 8, 2), (21, .invokestatic 40, 3), (24, .ifCond .ne 6, 3), (27, .bipush (-2), 2), (29, .ireturn, 1), (30, .iload_n 2, 1), (31, .iload_n 3, 1), (32, .if_icmp .le 6, 3), (35, .bipush (-2), 2), (37, .ireturn, 1), (38, .bipush 10, 2), (40, .aload_n 0, 1), (41, .getfield 12, 3), (44, .getfield 54, 3), (47, .iload_n 1, 1), (48, .iaload, 1), (49, .imul, 1), (50, .aload_n 0, 1), (51, .getfield 12, 3), (54, .getfield 58, 3), (57, .iload_n 1, 1), (58, .iaload, 1), (59, .iadd, 1), (60, .istore 4, 2), (62, .aload_n 0, 1), (63, .getfield 12, 3), (66, .getfield 54, 3), (69, .iload_n 1, 1), (70, .iload_n 2, 1), (71, .iastore, 1), (72, .aload_n 0, 1), (73, .getfield 12, 3), (76, .getfield 58, 3), (79, .iload_n 1, 1), (80, .iload_n 3, 1), (81, .iastore, 1), (82, .iload 4, 2), (84, .ireturn, 1)]
theorem dk_2_0 : ∀ e ∈ cd_2_0, decode prog_1_method_3_code e.1 = .ok e.2 := by decide +kernel
def cd_2 : List (Nat × Instr × Nat) := cd_2_0
theorem dk_2 : ∀ e ∈ cd_2, decode prog_1_method_3_code e.1 = .ok e.2 := dk_2_0
def cd_3_0 : List (Nat × Instr × Nat) := [(0, .aload_n 0, 1), (1, .getfield 12, 3), (4, .iload_n 1, 1), (5, .iload_n 2, 1), (6, .iload_n 3, 1), (7, .iload 4, 2), (9, .invokevirtual 61, 3), (12, .ireturn, 1)]
theorem dk_3_0 : ∀ e ∈ cd_3_0, decode prog_1_method_4_code e.1 = .ok e.2 := by decide +kernel
def cd_3 : List (Nat × Instr × Nat) := cd_3_0
theorem dk_3 : ∀ e ∈ cd_3, decode prog_1_method_4_code e.1 = .ok e.2 := dk_3_0
def cd_4_0 : List (Nat × Instr × Nat) := [(0, .aload_n 0, 1), (1, .getfield 12, 3), (4, .iload_n 1, 1), (5, .invokevirtual 65, 3), (8, .ifCond .eq 13, 3), (11, .iload_n 2, 1), (12, .iconst 0, 1), (13, .bipush 10, 2), (15, .invokestatic 40, 3), (18, .ifCond .ne 6, 3), (21, .bipush (-2), 2), (23, .ireturn, 1), (24, .aload_n 0, 1), (25, .getfield 12, 3), (28, .getfield 68, 3), (31, .iload_n 1, 1), (32, .aaload, 1), (33, .getfield 72, 3), (36, .istore_n 3, 1), (37, .aload_n 0, 1), (38, .getfield 12, 3), (41, .getfield 68, 3), (44, .iload_n 1, 1), (45, .aaload, 1), (46, .iload_n 2, 1), (47, .putfield 72, 3), (50, .iload_n 3, 1), (51, .ireturn, 1)]
theorem dk_4_0 : ∀ e ∈ cd_4_0, decode prog_1_method_5_code e.1 = .ok e.2 := by decide +kernel
def cd_4 : List (Nat × Instr × Nat) := cd_4_0
theorem dk_4 : ∀ e ∈ cd_4, decode prog_1_method_5_code e.1 = .ok e.2 := dk_4_0
def cd_5_0 : List (Nat × Instr × Nat) := [(0, .bipush (-2), 2), (2, .istore_n 3, 1), (3, .iload_n 1, 1), (4, .ifCond .ne 32, 3), (7, .iload_n 2, 1), (8, .iconst 1, 1), (9, .bipush 8, 2), (11, .invokestatic 40, 3), (14, .ifCond .eq 22, 3), (17, .aload_n 0, 1), (18, .getfield 12, 3), (21, .getfield 78, 3), (24, .istore_n 3, 1), (25, .aload_n 0, 1), (26, .getfield 12, 3), (29, .iload_n 2, 1), (30, .putfield 78, 3), (33, .goto 84, 3), (36, .iload_n 1, 1), (37, .iconst 1, 1), (38, .if_icmp .ne 32, 3), (41, .iload_n 2, 1), (42, .iconst 0, 1), (43, .bipush 9, 2), (45, .invokestatic 40, 3), (48, .ifCond .eq 22, 3), (51, .aload_n 0, 1), (52, .getfield 12, 3), (55, .getfield 81, 3), (58, .istore_n 3, 1), (59, .aload_n 0, 1), (60, .getfield 12, 3), (63, .iload_n 2, 1), (64, .putfield 81, 3), (67, .goto 50, 3), (70, .iload_n 1, 1), (71, .bipush 10, 2), (73, .bipush 14, 2), (75, .invokestatic 40, 3), (78, .ifCond .eq 39, 3), (81, .iload_n 2, 1), (82, .iconst 0, 1), (83, .bipush 99, 2), (85, .invokestatic 40, 3), (88, .ifCond .eq 29, 3), (91, .aload_n 0, 1), (92, .getfield 12, 3), (95, .getfield 84, 3), (98, .iload_n 1, 1), (99, .bipush 10, 2), (101, .isub, 1), (102, .iaload, 1), (103, .istore_n 3, 1), (104, .aload_n 0, 1), (105, .getfield 12, 3), (108, .getfield 84, 3), (111, .iload_n 1, 1), (112, .bipush 10, 2), (114, .isub, 1), (115, .iload_n 2, 1)]
theorem dk_5_0 : ∀ e ∈ cd_5_0, decode prog_1_method_6_code e.1 = .ok e.2 := by decide +kernel
def cd_5_1 : List (Nat × Instr × Nat) := [(116, .iastore, 1), (117, .iload_n 3, 1), (118, .ireturn, 1)]
theorem dk_5_1 : ∀ e ∈ cd_5_1, decode prog_1_method_6_code e.1 = .ok e.2 := by decide +kernel
def cd_5 : List (Nat × Instr × Nat) := cd_5_0 ++ cd_5_1
theorem dk_5 : ∀ e ∈ cd_5, decode prog_1_method_6_code e.1 = .ok e.2 := dk_app dk_5_0 dk_5_1
def cd_6_0 : List (Nat × Instr × Nat) := [(0, .iload_n 1, 1), (1, .iconst 0, 1), (2, .bipush 31, 2), (4, .invokestatic 40, 3), (7, .ifCond .ne 6, 3), (10, .bipush (-2), 2), (12, .ireturn, 1), (13, .aload_n 0, 1), (14, .getfield 12, 3), (17, .getfield 87, 3), (20, .istore_n 2, 1), (21, .aload_n 0, 1), (22, .getfield 12, 3), (25, .iload_n 1, 1), (26, .putfield 87, 3), (29, .iload_n 2, 1), (30, .ireturn, 1)]
theorem dk_6_0 : ∀ e ∈ cd_6_0, decode prog_1_method_7_code e.1 = .ok e.2 := by decide +kernel
def cd_6 : List (Nat × Instr × Nat) := cd_6_0
theorem dk_6 : ∀ e ∈ cd_6, decode prog_1_method_7_code e.1 = .ok e.2 := dk_6_0
def cd_7_0 : List (Nat × Instr × Nat) := [(0, .aload_n 0, 1), (1, .getfield 12, 3), (4, .iload_n 1, 1), (5, .invokevirtual 65, 3), (8, .ifCond .ne 6, 3), (11, .bipush (-2), 2), (13, .ireturn, 1), (14, .aload_n 0, 1), (15, .getfield 12, 3), (18, .getfield 68, 3), (21, .iload_n 1, 1), (22, .aaload, 1), (23, .astore_n 3, 1), (24, .iload_n 2, 1), (25, .tableswitch 95 0 7 #[47, 52, 57, 62, 67, 72, 77, 90], 47), (72, .aload_n 3, 1), (73, .getfield 90, 3), (76, .ireturn, 1), (77, .aload_n 3, 1), (78, .getfield 93, 3), (81, .ireturn, 1), (82, .aload_n 3, 1), (83, .getfield 96, 3), (86, .ireturn, 1), (87, .aload_n 3, 1), (88, .getfield 99, 3), (91, .ireturn, 1), (92, .aload_n 3, 1), (93, .getfield 72, 3), (96, .ireturn, 1), (97, .aload_n 3, 1), (98, .getfield 102, 3), (101, .ireturn, 1), (102, .aload_n 3, 1), (103, .getfield 105, 3), (106, .ifCond .eq 7, 3), (109, .iconst 1, 1), (110, .goto 4, 3), (113, .iconst 0, 1), (114, .ireturn, 1), (115, .aload_n 3, 1), (116, .getfield 108, 3), (119, .ireturn, 1), (120, .bipush (-2), 2), (122, .ireturn, 1)]
theorem dk_7_0 : ∀ e ∈ cd_7_0, decode prog_1_method_8_code e.1 = .ok e.2 := by decide +kernel
def cd_7 : List (Nat × Instr × Nat) := cd_7_0
theorem dk_7 : ∀ e ∈ cd_7, decode prog_1_method_8_code e.1 = .ok e.2 := dk_7_0
def cd_8_0 : List (Nat × Instr × Nat) := [(0, .aload_n 0, 1), (1, .getfield 12, 3), (4, .iload_n 1, 1), (5, .invokevirtual 65, 3), (8, .ifCond .eq 19, 3), (11, .iload_n 2, 1), (12, .invokestatic 35, 3), (15, .ifCond .eq 12, 3), (18, .iload_n 3, 1), (19, .iconst 0, 1), (20, .iconst 1, 1), (21, .invokestatic 40, 3), (24, .ifCond .ne 6, 3), (27, .bipush (-2), 2), (29, .ireturn, 1), (30, .aload_n 0, 1), (31, .getfield 12, 3), (34, .getfield 68, 3), (37, .iload_n 1, 1), (38, .aaload, 1), (39, .astore 4, 2), (41, .iload_n 3, 1), (42, .ifCond .ne 13, 3), (45, .aload 4, 2), (47, .getfield 111, 3), (50, .iload_n 2, 1), (51, .iaload, 1), (52, .goto 10, 3), (55, .aload 4, 2), (57, .getfield 114, 3), (60, .iload_n 2, 1), (61, .iaload, 1), (62, .ireturn, 1)]
theorem dk_8_0 : ∀ e ∈ cd_8_0, decode prog_1_method_9_code e.1 = .ok e.2 := by decide +kernel
def cd_8 : List (Nat × Instr × Nat) := cd_8_0
theorem dk_8 : ∀ e ∈ cd_8, decode prog_1_method_9_code e.1 = .ok e.2 := dk_8_0
def cd_9_0 : List (Nat × Instr × Nat) := [(0, .aload_n 0, 1), (1, .getfield 12, 3), (4, .iload_n 1, 1), (5, .invokevirtual 65, 3), (8, .ifCond .eq 10, 3), (11, .iload_n 2, 1), (12, .invokestatic 117, 3), (15, .ifCond .ne 6, 3), (18, .bipush (-2), 2), (20, .ireturn, 1), (21, .aload_n 0, 1), (22, .getfield 12, 3), (25, .getfield 68, 3), (28, .iload_n 1, 1), (29, .aaload, 1), (30, .astore_n 3, 1), (31, .aload_n 3, 1), (32, .iload_n 2, 1), (33, .invokevirtual 120, 3), (36, .ifCond .eq 10, 3), (39, .aload_n 3, 1), (40, .getfield 96, 3), (43, .goto 5, 3), (46, .bipush (-13), 2), (48, .ireturn, 1)]
theorem dk_9_0 : ∀ e ∈ cd_9_0, decode prog_1_method_10_code e.1 = .ok e.2 := by decide +kernel
def cd_9 : List (Nat × Instr × Nat) := cd_9_0
theorem dk_9 : ∀ e ∈ cd_9, decode prog_1_method_10_code e.1 = .ok e.2 := dk_9_0
def cd_10_0 : List (Nat × Instr × Nat) := [(0, .aload_n 0, 1), (1, .getfield 12, 3), (4, .getfield 123, 3), (7, .ifCond .eq 8, 3), (10, .bipush (-3), 2), (12, .goto 11, 3), (15, .aload_n 0, 1), (16, .getfield 12, 3), (19, .iload_n 1, 1), (20, .invokevirtual 126, 3), (23, .ireturn, 1)]
theorem dk_10_0 : ∀ e ∈ cd_10_0, decode prog_1_method_11_code e.1 = .ok e.2 := by decide +kernel
def cd_10 : List (Nat × Instr × Nat) := cd_10_0
theorem dk_10 : ∀ e ∈ cd_10, decode prog_1_method_11_code e.1 = .ok e.2 := dk_10_0
def cd_11_0 : List (Nat × Instr × Nat) := [(0, .aload_n 0, 1), (1, .getfield 12, 3), (4, .iload_n 1, 1), (5, .invokevirtual 65, 3), (8, .ifCond .eq 12, 3), (11, .iload_n 2, 1), (12, .iconst 0, 1), (13, .iconst 1, 1), (14, .invokestatic 40, 3), (17, .ifCond .ne 6, 3), (20, .bipush (-2), 2), (22, .ireturn, 1), (23, .aload_n 0, 1), (24, .getfield 12, 3), (27, .getfield 123, 3), (30, .ifCond .eq 14, 3), (33, .aload_n 0, 1), (34, .getfield 12, 3), (37, .iload_n 1, 1), (38, .invokevirtual 130, 3), (41, .ifCond .ne 6, 3), (44, .bipush (-3), 2), (46, .ireturn, 1), (47, .aload_n 0, 1), (48, .getfield 12, 3), (51, .iload_n 1, 1), (52, .iload_n 2, 1), (53, .invokevirtual 133, 3), (56, .aload_n 0, 1), (57, .getfield 12, 3), (60, .getfield 137, 3), (63, .ireturn, 1)]
theorem dk_11_0 : ∀ e ∈ cd_11_0, decode prog_1_method_12_code e.1 = .ok e.2 := by decide +kernel
def cd_11 : List (Nat × Instr × Nat) := cd_11_0
theorem dk_11 : ∀ e ∈ cd_11, decode prog_1_method_12_code e.1 = .ok e.2 := dk_11_0
def cd_12_0 : List (Nat × Instr × Nat) := [(0, .aload_n 0, 1), (1, .getfield 12, 3), (4, .getfield 123, 3), (7, .ifCond .eq 13, 3), (10, .aload_n 0, 1), (11, .getfield 12, 3), (14, .invokevirtual 140, 3), (17, .goto 5, 3), (20, .bipush (-3), 2), (22, .ireturn, 1)]
theorem dk_12_0 : ∀ e ∈ cd_12_0, decode prog_1_method_13_code e.1 = .ok e.2 := by decide +kernel
def cd_12 : List (Nat × Instr × Nat) := cd_12_0
theorem dk_12 : ∀ e ∈ cd_12, decode prog_1_method_13_code e.1 = .ok e.2 := dk_12_0
def cd_13_0 : List (Nat × Instr × Nat) := [(0, .iload_n 2, 1), (1, .iconst 0, 1), (2, .iconst 1, 1), (3, .invokestatic 40, 3), (6, .ifCond .ne 6, 3), (9, .bipush (-2), 2), (11, .ireturn, 1), (12, .aload_n 0, 1), (13, .getfield 12, 3), (16, .getfield 123, 3), (19, .ifCond .ne 6, 3), (22, .bipush (-3), 2), (24, .ireturn, 1), (25, .iload_n 1, 1), (26, .iconst 0, 1), (27, .aload_n 0, 1), (28, .getfield 12, 3), (31, .getfield 137, 3), (34, .iconst 1, 1), (35, .isub, 1), (36, .invokestatic 40, 3), (39, .ifCond .ne 6, 3), (42, .bipush (-12), 2), (44, .ireturn, 1), (45, .aload_n 0, 1), (46, .getfield 12, 3), (49, .getfield 144, 3), (52, .iload_n 1, 1), (53, .iaload, 1), (54, .istore_n 3, 1), (55, .iload_n 2, 1), (56, .ifCond .ne 7, 3), (59, .iload_n 3, 1), (60, .goto 15, 3), (63, .aload_n 0, 1), (64, .getfield 12, 3), (67, .getfield 68, 3), (70, .iload_n 3, 1), (71, .aaload, 1), (72, .getfield 108, 3), (75, .ireturn, 1)]
theorem dk_13_0 : ∀ e ∈ cd_13_0, decode prog_1_method_14_code e.1 = .ok e.2 := by decide +kernel
def cd_13 : List (Nat × Instr × Nat) := cd_13_0
theorem dk_13 : ∀ e ∈ cd_13, decode prog_1_method_14_code e.1 = .ok e.2 := dk_13_0
def cd_14_0 : List (Nat × Instr × Nat) := [(0, .iload_n 1, 1), (1, .invokestatic 35, 3), (4, .ifCond .eq 18, 3), (7, .aload_n 0, 1), (8, .getfield 12, 3), (11, .getfield 147, 3), (14, .getfield 151, 3), (17, .iload_n 1, 1), (18, .laload, 1), (19, .goto 6, 3), (22, .ldc2_w 157, 3), (25, .lreturn, 1)]
theorem dk_14_0 : ∀ e ∈ cd_14_0, decode prog_1_method_15_code e.1 = .ok e.2 := by decide +kernel
def cd_14 : List (Nat × Instr × Nat) := cd_14_0
theorem dk_14 : ∀ e ∈ cd_14, decode prog_1_method_15_code e.1 = .ok e.2 := dk_14_0
def cd_15_0 : List (Nat × Instr × Nat) := [(0, .iload_n 2, 1), (1, .iconst 0, 1), (2, .iconst 1, 1), (3, .invokestatic 40, 3), (6, .ifCond .ne 7, 3), (9, .ldc2_w 157, 3), (12, .lreturn, 1), (13, .aload_n 0, 1), (14, .getfield 12, 3), (17, .getfield 147, 3), (20, .astore_n 3, 1), (21, .iload_n 1, 1), (22, .ifCond .ne 9, 3), (25, .aload_n 3, 1), (26, .iload_n 2, 1), (27, .invokevirtual 159, 3), (30, .lreturn, 1), (31, .iload_n 1, 1), (32, .iconst 1, 1), (33, .if_icmp .ne 16, 3), (36, .aload_n 3, 1), (37, .invokevirtual 163, 3), (40, .aload_n 3, 1), (41, .invokevirtual 167, 3), (44, .iload_n 2, 1), (45, .invokestatic 170, 3), (48, .lreturn, 1), (49, .iload_n 1, 1), (50, .bipush 10, 2), (52, .bipush 9, 2), (54, .aload_n 0, 1), (55, .getfield 12, 3), (58, .getfield 176, 3), (61, .iadd, 1), (62, .invokestatic 40, 3), (65, .ifCond .eq 28, 3), (68, .aload_n 3, 1), (69, .aload_n 0, 1), (70, .getfield 12, 3), (73, .getfield 68, 3), (76, .iload_n 1, 1), (77, .bipush 10, 2), (79, .isub, 1), (80, .aaload, 1), (81, .invokevirtual 179, 3), (84, .aload_n 3, 1), (85, .getfield 183, 3), (88, .iload_n 2, 1), (89, .invokestatic 170, 3), (92, .lreturn, 1), (93, .iload_n 1, 1), (94, .bipush 20, 2), (96, .bipush 19, 2), (98, .aload_n 0, 1), (99, .getfield 12, 3), (102, .getfield 176, 3), (105, .iadd, 1), (106, .invokestatic 40, 3), (109, .ifCond .eq 38, 3), (112, .aload_n 0, 1)]
theorem dk_15_0 : ∀ e ∈ cd_15_0, decode prog_1_method_16_code e.1 = .ok e.2 := by decide +kernel
def cd_15_1 : List (Nat × Instr × Nat) := [(113, .getfield 12, 3), (116, .getfield 68, 3), (119, .iload_n 1, 1), (120, .bipush 20, 2), (122, .isub, 1), (123, .aaload, 1), (124, .astore 4, 2), (126, .aload_n 3, 1), (127, .aload 4, 2), (129, .invokevirtual 187, 3), (132, .ldc2_w 190, 3), (135, .aload_n 3, 1), (136, .getfield 183, 3), (139, .invokestatic 192, 3), (142, .iload_n 2, 1), (143, .invokestatic 170, 3), (146, .lreturn, 1), (147, .ldc2_w 157, 3), (150, .lreturn, 1)]
theorem dk_15_1 : ∀ e ∈ cd_15_1, decode prog_1_method_16_code e.1 = .ok e.2 := by decide +kernel
def cd_15 : List (Nat × Instr × Nat) := cd_15_0 ++ cd_15_1
theorem dk_15 : ∀ e ∈ cd_15, decode prog_1_method_16_code e.1 = .ok e.2 := dk_app dk_15_0 dk_15_1
def cd_16_0 : List (Nat × Instr × Nat) := [(0, .aload_n 0, 1), (1, .getfield 12, 3), (4, .getfield 147, 3), (7, .invokevirtual 196, 3), (10, .ireturn, 1)]
theorem dk_16_0 : ∀ e ∈ cd_16_0, decode prog_1_method_17_code e.1 = .ok e.2 := by decide +kernel
def cd_16 : List (Nat × Instr × Nat) := cd_16_0
theorem dk_16 : ∀ e ∈ cd_16, decode prog_1_method_17_code e.1 = .ok e.2 := dk_16_0
def cd_17_0 : List (Nat × Instr × Nat) := [(0, .aload_n 0, 1), (1, .getfield 12, 3), (4, .iload_n 1, 1), (5, .invokevirtual 65, 3), (8, .ifCond .eq 21, 3), (11, .iload_n 2, 1), (12, .iconst 0, 1), (13, .iconst 1, 1), (14, .invokestatic 40, 3), (17, .ifCond .eq 12, 3), (20, .iload_n 3, 1), (21, .iconst 0, 1), (22, .iconst 1, 1), (23, .invokestatic 40, 3), (26, .ifCond .ne 7, 3), (29, .ldc2_w 157, 3), (32, .lreturn, 1), (33, .aload_n 0, 1), (34, .getfield 21, 3), (37, .getfield 147, 3), (40, .astore 4, 2), (42, .aload 4, 2), (44, .aload_n 0, 1), (45, .getfield 12, 3), (48, .getfield 147, 3), (51, .invokevirtual 199, 3), (54, .aload 4, 2), (56, .aload_n 0, 1), (57, .getfield 12, 3), (60, .getfield 68, 3), (63, .iload_n 1, 1), (64, .aaload, 1), (65, .iload_n 2, 1), (66, .invokevirtual 203, 3), (69, .ifCond .eq 12, 3), (72, .aload 4, 2), (74, .iload_n 3, 1), (75, .invokevirtual 159, 3), (78, .goto 6, 3), (81, .ldc2_w 157, 3), (84, .lreturn, 1)]
theorem dk_17_0 : ∀ e ∈ cd_17_0, decode prog_1_method_18_code e.1 = .ok e.2 := by decide +kernel
def cd_17 : List (Nat × Instr × Nat) := cd_17_0
theorem dk_17 : ∀ e ∈ cd_17, decode prog_1_method_18_code e.1 = .ok e.2 := dk_17_0
def cd_18_0 : List (Nat × Instr × Nat) := [(0, .aload_n 0, 1), (1, .getfield 12, 3), (4, .getfield 123, 3), (7, .ifCond .eq 13, 3), (10, .aload_n 0, 1), (11, .getfield 12, 3), (14, .invokevirtual 207, 3), (17, .goto 5, 3), (20, .bipush (-3), 2), (22, .ireturn, 1)]
theorem dk_18_0 : ∀ e ∈ cd_18_0, decode prog_1_method_19_code e.1 = .ok e.2 := by decide +kernel
def cd_18 : List (Nat × Instr × Nat) := cd_18_0
theorem dk_18 : ∀ e ∈ cd_18, decode prog_1_method_19_code e.1 = .ok e.2 := dk_18_0
def cd_19_0 : List (Nat × Instr × Nat) := [(0, .aload_n 0, 1), (1, .getfield 12, 3), (4, .getfield 123, 3), (7, .ifCond .eq 13, 3), (10, .aload_n 0, 1), (11, .getfield 12, 3), (14, .invokevirtual 210, 3), (17, .goto 5, 3), (20, .bipush (-3), 2), (22, .ireturn, 1)]
theorem dk_19_0 : ∀ e ∈ cd_19_0, decode prog_1_method_20_code e.1 = .ok e.2 := by decide +kernel
def cd_19 : List (Nat × Instr × Nat) := cd_19_0
theorem dk_19 : ∀ e ∈ cd_19, decode prog_1_method_20_code e.1 = .ok e.2 := dk_19_0
def cd_20_0 : List (Nat × Instr × Nat) := [(0, .aload_n 0, 1), (1, .getfield 12, 3), (4, .getfield 123, 3), (7, .ifCond .eq 13, 3), (10, .aload_n 0, 1), (11, .getfield 12, 3), (14, .invokevirtual 213, 3), (17, .goto 5, 3), (20, .bipush (-3), 2), (22, .ireturn, 1)]
theorem dk_20_0 : ∀ e ∈ cd_20_0, decode prog_1_method_21_code e.1 = .ok e.2 := by decide +kernel
def cd_20 : List (Nat × Instr × Nat) := cd_20_0
theorem dk_20 : ∀ e ∈ cd_20, decode prog_1_method_21_code e.1 = .ok e.2 := dk_20_0
def cd_21_0 : List (Nat × Instr × Nat) := [(0, .iload_n 1, 1), (1, .iconst 0, 1), (2, .iconst 4, 1), (3, .invokestatic 40, 3), (6, .ifCond .ne 6, 3), (9, .bipush (-2), 2), (11, .ireturn, 1), (12, .aload_n 0, 1), (13, .getfield 12, 3), (16, .getfield 123, 3), (19, .ifCond .eq 14, 3), (22, .aload_n 0, 1), (23, .getfield 12, 3), (26, .iload_n 1, 1), (27, .invokevirtual 216, 3), (30, .goto 5, 3), (33, .bipush (-3), 2), (35, .ireturn, 1)]
theorem dk_21_0 : ∀ e ∈ cd_21_0, decode prog_1_method_22_code e.1 = .ok e.2 := by decide +kernel
def cd_21 : List (Nat × Instr × Nat) := cd_21_0
theorem dk_21 : ∀ e ∈ cd_21, decode prog_1_method_22_code e.1 = .ok e.2 := dk_21_0
def cd_22_0 : List (Nat × Instr × Nat) := [(0, .iload_n 2, 1), (1, .invokestatic 35, 3), (4, .ifCond .eq 12, 3), (7, .iload_n 3, 1), (8, .iconst 0, 1), (9, .iconst 1, 1), (10, .invokestatic 40, 3), (13, .ifCond .ne 6, 3), (16, .bipush (-2), 2), (18, .ireturn, 1), (19, .aload_n 0, 1), (20, .getfield 12, 3), (23, .getfield 123, 3), (26, .ifCond .ne 6, 3), (29, .bipush (-3), 2), (31, .ireturn, 1), (32, .aload_n 0, 1), (33, .getfield 21, 3), (36, .aload_n 0, 1), (37, .getfield 12, 3), (40, .iload_n 1, 1), (41, .iload_n 2, 1), (42, .invokevirtual 219, 3), (45, .istore 4, 2), (47, .iload_n 3, 1), (48, .ifCond .ne 8, 3), (51, .iload 4, 2), (53, .goto 13, 3), (56, .aload_n 0, 1), (57, .getfield 21, 3), (60, .getfield 147, 3), (63, .invokevirtual 196, 3), (66, .ireturn, 1)]
theorem dk_22_0 : ∀ e ∈ cd_22_0, decode prog_1_method_23_code e.1 = .ok e.2 := by decide +kernel
def cd_22 : List (Nat × Instr × Nat) := cd_22_0
theorem dk_22 : ∀ e ∈ cd_22, decode prog_1_method_23_code e.1 = .ok e.2 := dk_22_0
def cd_23_0 : List (Nat × Instr × Nat) := [(0, .iload_n 2, 1), (1, .invokestatic 35, 3), (4, .ifCond .eq 23, 3), (7, .iload_n 3, 1), (8, .iconst 1, 1), (9, .bipush 10, 2), (11, .invokestatic 40, 3), (14, .ifCond .eq 13, 3), (17, .iload 4, 2), (19, .iconst 0, 1), (20, .iconst 1, 1), (21, .invokestatic 40, 3), (24, .ifCond .ne 6, 3), (27, .bipush (-2), 2), (29, .ireturn, 1), (30, .aload_n 0, 1), (31, .getfield 12, 3), (34, .getfield 123, 3), (37, .ifCond .ne 6, 3), (40, .bipush (-3), 2), (42, .ireturn, 1), (43, .iconst 0, 1), (44, .istore 5, 2), (46, .iconst 0, 1), (47, .istore 6, 2), (49, .iload 6, 2), (51, .iload_n 3, 1), (52, .if_icmp .ge 48, 3), (55, .aload_n 0, 1), (56, .getfield 21, 3), (59, .aload_n 0, 1), (60, .getfield 12, 3), (63, .iload_n 1, 1), (64, .iload 6, 2), (66, .iadd, 1), (67, .iload_n 2, 1), (68, .invokevirtual 219, 3), (71, .pop, 1), (72, .aload_n 0, 1), (73, .getfield 21, 3), (76, .getfield 147, 3), (79, .invokevirtual 196, 3), (82, .iload_n 2, 1), (83, .isub, 1), (84, .invokestatic 223, 3), (87, .iconst 1, 1), (88, .if_icmp .gt 6, 3), (91, .iinc 5 1, 3), (94, .iinc 6 1, 3), (97, .goto (-48), 3), (100, .iload 5, 2), (102, .i2l, 1), (103, .iload_n 3, 1), (104, .i2l, 1), (105, .iload 4, 2), (107, .invokestatic 170, 3), (110, .l2i, 1), (111, .ireturn, 1)]
theorem dk_23_0 : ∀ e ∈ cd_23_0, decode prog_1_method_24_code e.1 = .ok e.2 := by decide +kernel
def cd_23 : List (Nat × Instr × Nat) := cd_23_0
theorem dk_23 : ∀ e ∈ cd_23, decode prog_1_method_24_code e.1 = .ok e.2 := dk_23_0
def cd_24_0 : List (Nat × Instr × Nat) := [(0, .iload_n 2, 1), (1, .bipush 10, 2), (3, .bipush 9, 2), (5, .aload_n 0, 1), (6, .getfield 12, 3), (9, .getfield 176, 3), (12, .iadd, 1), (13, .invokestatic 40, 3), (16, .istore 4, 2), (18, .iload_n 1, 1), (19, .invokestatic 228, 3), (22, .ifCond .eq 17, 3), (25, .iload_n 2, 1), (26, .iconst 0, 1), (27, .iconst 1, 1), (28, .invokestatic 40, 3), (31, .ifCond .ne 11, 3), (34, .iload 4, 2), (36, .ifCond .ne 6, 3), (39, .bipush (-2), 2), (41, .ireturn, 1), (42, .iload 4, 2), (44, .ifCond .eq 13, 3), (47, .iload_n 3, 1), (48, .invokestatic 35, 3), (51, .ifCond .ne 6, 3), (54, .bipush (-2), 2), (56, .ireturn, 1), (57, .aload_n 0, 1), (58, .getfield 30, 3), (61, .iload_n 1, 1), (62, .aaload, 1), (63, .astore 5, 2), (65, .aload 5, 2), (67, .invokevirtual 231, 3), (70, .ifCond .eq 6, 3), (73, .bipush (-11), 2), (75, .ireturn, 1), (76, .aload_n 0, 1), (77, .getfield 12, 3), (80, .aload 5, 2), (82, .invokevirtual 235, 3), (85, .ifCond .ne 6, 3), (88, .bipush (-2), 2), (90, .ireturn, 1), (91, .iload 4, 2), (93, .ifCond .eq 18, 3), (96, .aload_n 0, 1), (97, .getfield 12, 3), (100, .aload 5, 2), (102, .iload_n 2, 1), (103, .bipush 10, 2), (105, .isub, 1), (106, .iload_n 3, 1), (107, .invokevirtual 239, 3), (110, .ireturn, 1), (111, .iload_n 2, 1), (112, .ifCond .ne 18, 3), (115, .aload_n 0, 1), (116, .getfield 12, 3)]
theorem dk_24_0 : ∀ e ∈ cd_24_0, decode prog_1_method_25_code e.1 = .ok e.2 := by decide +kernel
def cd_24_1 : List (Nat × Instr × Nat) := [(119, .aload 5, 2), (121, .iconst (-1), 1), (122, .iconst (-1), 1), (123, .iconst (-1), 1), (124, .invokevirtual 243, 3), (127, .goto 12, 3), (130, .aload_n 0, 1), (131, .getfield 12, 3), (134, .aload 5, 2), (136, .invokevirtual 247, 3), (139, .ireturn, 1)]
theorem dk_24_1 : ∀ e ∈ cd_24_1, decode prog_1_method_25_code e.1 = .ok e.2 := by decide +kernel
def cd_24 : List (Nat × Instr × Nat) := cd_24_0 ++ cd_24_1
theorem dk_24 : ∀ e ∈ cd_24, decode prog_1_method_25_code e.1 = .ok e.2 := dk_app dk_24_0 dk_24_1
def cd_25_0 : List (Nat × Instr × Nat) := [(0, .iload_n 1, 1), (1, .invokestatic 228, 3), (4, .ifCond .eq 14, 3), (7, .aload_n 0, 1), (8, .getfield 12, 3), (11, .iload_n 2, 1), (12, .invokevirtual 65, 3), (15, .ifCond .ne 6, 3), (18, .bipush (-2), 2), (20, .ireturn, 1), (21, .aload_n 0, 1), (22, .getfield 30, 3), (25, .iload_n 1, 1), (26, .aaload, 1), (27, .astore_n 3, 1), (28, .aload_n 0, 1), (29, .getfield 12, 3), (32, .getfield 68, 3), (35, .iload_n 2, 1), (36, .aaload, 1), (37, .astore 4, 2), (39, .aload_n 3, 1), (40, .iconst 1, 1), (41, .bipush 9, 2), (43, .invokevirtual 251, 3), (46, .iconst 0, 1), (47, .istore 5, 2), (49, .iconst 0, 1), (50, .istore 6, 2), (52, .iload 6, 2), (54, .bipush 9, 2), (56, .if_icmp .ge 36, 3), (59, .aload_n 3, 1), (60, .iload 6, 2), (62, .aload 4, 2), (64, .getfield 114, 3), (67, .iload 6, 2), (69, .iaload, 1), (70, .invokevirtual 254, 3), (73, .iload 5, 2), (75, .aload 4, 2), (77, .getfield 114, 3), (80, .iload 6, 2), (82, .iaload, 1), (83, .iadd, 1), (84, .istore 5, 2), (86, .iinc 6 1, 3), (89, .goto (-37), 3), (92, .iload 5, 2), (94, .ireturn, 1)]
theorem dk_25_0 : ∀ e ∈ cd_25_0, decode prog_1_method_26_code e.1 = .ok e.2 := by decide +kernel
def cd_25 : List (Nat × Instr × Nat) := cd_25_0
theorem dk_25 : ∀ e ∈ cd_25, decode prog_1_method_26_code e.1 = .ok e.2 := dk_25_0
def cd_26_0 : List (Nat × Instr × Nat) := [(0, .aload_n 0, 1), (1, .getfield 18, 3), (4, .aload_n 0, 1), (5, .getfield 12, 3), (8, .invokevirtual 257, 3), (11, .aload_n 0, 1), (12, .iconst 1, 1), (13, .putfield 24, 3), (16, .aload_n 0, 1), (17, .getfield 18, 3), (20, .getfield 176, 3), (23, .ireturn, 1)]
theorem dk_26_0 : ∀ e ∈ cd_26_0, decode prog_1_method_27_code e.1 = .ok e.2 := by decide +kernel
def cd_26 : List (Nat × Instr × Nat) := cd_26_0
theorem dk_26 : ∀ e ∈ cd_26, decode prog_1_method_27_code e.1 = .ok e.2 := dk_26_0
def cd_27_0 : List (Nat × Instr × Nat) := [(0, .aload_n 0, 1), (1, .getfield 24, 3), (4, .ifCond .ne 6, 3), (7, .bipush (-3), 2), (9, .ireturn, 1), (10, .aload_n 0, 1), (11, .getfield 12, 3), (14, .aload_n 0, 1), (15, .getfield 18, 3), (18, .invokevirtual 257, 3), (21, .aload_n 0, 1), (22, .getfield 12, 3), (25, .getfield 176, 3), (28, .ireturn, 1)]
theorem dk_27_0 : ∀ e ∈ cd_27_0, decode prog_1_method_28_code e.1 = .ok e.2 := by decide +kernel
def cd_27 : List (Nat × Instr × Nat) := cd_27_0
theorem dk_27 : ∀ e ∈ cd_27, decode prog_1_method_28_code e.1 = .ok e.2 := dk_27_0
def cd_28_0 : List (Nat × Instr × Nat) := [(0, .iload_n 1, 1), (1, .iconst 3, 1), (2, .iconst 5, 1), (3, .invokestatic 40, 3), (6, .ifCond .eq 14, 3), (9, .aload_n 0, 1), (10, .getfield 12, 3), (13, .iload_n 1, 1), (14, .iconst 3, 1), (15, .isub, 1), (16, .invokevirtual 260, 3), (19, .ireturn, 1), (20, .iload_n 1, 1), (21, .bipush 10, 2), (23, .bipush 12, 2), (25, .invokestatic 40, 3), (28, .ifCond .eq 16, 3), (31, .aload_n 0, 1), (32, .getfield 12, 3), (35, .getfield 54, 3), (38, .iload_n 1, 1), (39, .bipush 10, 2), (41, .isub, 1), (42, .iaload, 1), (43, .ireturn, 1), (44, .iload_n 1, 1), (45, .bipush 20, 2), (47, .bipush 22, 2), (49, .invokestatic 40, 3), (52, .ifCond .eq 16, 3), (55, .aload_n 0, 1), (56, .getfield 12, 3), (59, .getfield 58, 3), (62, .iload_n 1, 1), (63, .bipush 20, 2), (65, .isub, 1), (66, .iaload, 1), (67, .ireturn, 1), (68, .iload_n 1, 1), (69, .bipush 30, 2), (71, .bipush 34, 2), (73, .invokestatic 40, 3), (76, .ifCond .eq 16, 3), (79, .aload_n 0, 1), (80, .getfield 12, 3), (83, .getfield 84, 3), (86, .iload_n 1, 1), (87, .bipush 30, 2), (89, .isub, 1), (90, .iaload, 1), (91, .ireturn, 1), (92, .iload_n 1, 1), (93, .tableswitch 119 0 9 #[55, 63, 71, 119, 119, 119, 79, 95, 103, 111], 55), (148, .aload_n 0, 1), (149, .getfield 12, 3), (152, .getfield 176, 3), (155, .ireturn, 1), (156, .aload_n 0, 1), (157, .getfield 12, 3), (160, .getfield 263, 3)]
theorem dk_28_0 : ∀ e ∈ cd_28_0, decode prog_1_method_29_code e.1 = .ok e.2 := by decide +kernel
def cd_28_1 : List (Nat × Instr × Nat) := [(163, .ireturn, 1), (164, .aload_n 0, 1), (165, .getfield 12, 3), (168, .getfield 137, 3), (171, .ireturn, 1), (172, .aload_n 0, 1), (173, .getfield 12, 3), (176, .getfield 123, 3), (179, .ifCond .eq 7, 3), (182, .iconst 1, 1), (183, .goto 4, 3), (186, .iconst 0, 1), (187, .ireturn, 1), (188, .aload_n 0, 1), (189, .getfield 12, 3), (192, .getfield 87, 3), (195, .ireturn, 1), (196, .aload_n 0, 1), (197, .getfield 12, 3), (200, .getfield 78, 3), (203, .ireturn, 1), (204, .aload_n 0, 1), (205, .getfield 12, 3), (208, .getfield 81, 3), (211, .ireturn, 1), (212, .bipush (-2), 2), (214, .ireturn, 1)]
theorem dk_28_1 : ∀ e ∈ cd_28_1, decode prog_1_method_29_code e.1 = .ok e.2 := by decide +kernel
def cd_28 : List (Nat × Instr × Nat) := cd_28_0 ++ cd_28_1
theorem dk_28 : ∀ e ∈ cd_28, decode prog_1_method_29_code e.1 = .ok e.2 := dk_app dk_28_0 dk_28_1
def cd_29_0 : List (Nat × Instr × Nat) := [(0, .iload_n 1, 1), (1, .invokestatic 228, 3), (4, .ifCond .ne 6, 3), (7, .bipush (-2), 2), (9, .ireturn, 1), (10, .iload_n 2, 1), (11, .iconst (-1), 1), (12, .if_icmp .ne 16, 3), (15, .aload_n 0, 1), (16, .getfield 30, 3), (19, .iload_n 1, 1), (20, .aaload, 1), (21, .iconst (-1), 1), (22, .iconst 0, 1), (23, .invokevirtual 251, 3), (26, .iconst 1, 1), (27, .ireturn, 1), (28, .iload_n 2, 1), (29, .invokestatic 266, 3), (32, .ifCond .eq 9, 3), (35, .iload_n 3, 1), (36, .bipush 40, 2), (38, .if_icmp .le 6, 3), (41, .bipush (-2), 2), (43, .ireturn, 1), (44, .iload_n 3, 1), (45, .ifCond .ge 6, 3), (48, .bipush (-14), 2), (50, .ireturn, 1), (51, .aload_n 0, 1), (52, .getfield 30, 3), (55, .iload_n 1, 1), (56, .aaload, 1), (57, .iload_n 2, 1), (58, .iload_n 3, 1), (59, .invokevirtual 251, 3), (62, .iconst 1, 1), (63, .ireturn, 1)]
theorem dk_29_0 : ∀ e ∈ cd_29_0, decode prog_1_method_30_code e.1 = .ok e.2 := by decide +kernel
def cd_29 : List (Nat × Instr × Nat) := cd_29_0
theorem dk_29 : ∀ e ∈ cd_29, decode prog_1_method_30_code e.1 = .ok e.2 := dk_29_0
def cd_30_0 : List (Nat × Instr × Nat) := [(0, .iload_n 1, 1), (1, .invokestatic 228, 3), (4, .ifCond .ne 6, 3), (7, .bipush (-2), 2), (9, .ireturn, 1), (10, .aload_n 0, 1), (11, .getfield 30, 3), (14, .iload_n 1, 1), (15, .aaload, 1), (16, .astore 4, 2), (18, .aload 4, 2), (20, .invokevirtual 231, 3), (23, .ifCond .eq 6, 3), (26, .bipush (-11), 2), (28, .ireturn, 1), (29, .aload 4, 2), (31, .iload_n 2, 1), (32, .iconst 1, 1), (33, .invokevirtual 269, 3), (36, .ifCond .ne 6, 3), (39, .bipush (-12), 2), (41, .ireturn, 1), (42, .aload 4, 2), (44, .iload_n 2, 1), (45, .iload_n 3, 1), (46, .invokevirtual 254, 3), (49, .iconst 1, 1), (50, .ireturn, 1)]
theorem dk_30_0 : ∀ e ∈ cd_30_0, decode prog_1_method_31_code e.1 = .ok e.2 := by decide +kernel
def cd_30 : List (Nat × Instr × Nat) := cd_30_0
theorem dk_30 : ∀ e ∈ cd_30, decode prog_1_method_31_code e.1 = .ok e.2 := dk_30_0
def cd_31_0 : List (Nat × Instr × Nat) := [(0, .iload_n 1, 1), (1, .invokestatic 228, 3), (4, .ifCond .eq 10, 3), (7, .iload_n 3, 1), (8, .invokestatic 228, 3), (11, .ifCond .ne 6, 3), (14, .bipush (-2), 2), (16, .ireturn, 1), (17, .aload_n 0, 1), (18, .getfield 30, 3), (21, .iload_n 1, 1), (22, .aaload, 1), (23, .astore 6, 2), (25, .aload_n 0, 1), (26, .getfield 30, 3), (29, .iload_n 3, 1), (30, .aaload, 1), (31, .astore 7, 2), (33, .aload 6, 2), (35, .invokevirtual 231, 3), (38, .ifCond .ne 11, 3), (41, .aload 7, 2), (43, .invokevirtual 231, 3), (46, .ifCond .eq 6, 3), (49, .bipush (-11), 2), (51, .ireturn, 1), (52, .aload 6, 2), (54, .getfield 273, 3), (57, .aload 7, 2), (59, .getfield 273, 3), (62, .if_icmp .eq 6, 3), (65, .bipush (-13), 2), (67, .ireturn, 1), (68, .aload 6, 2), (70, .iload_n 2, 1), (71, .iload 5, 2), (73, .invokevirtual 269, 3), (76, .ifCond .eq 15, 3), (79, .aload 7, 2), (81, .iload 4, 2), (83, .iload 5, 2), (85, .invokevirtual 269, 3), (88, .ifCond .ne 6, 3), (91, .bipush (-12), 2), (93, .ireturn, 1), (94, .aload 6, 2), (96, .getfield 276, 3), (99, .iload_n 2, 1), (100, .aload 7, 2), (102, .getfield 276, 3), (105, .iload 4, 2), (107, .iload 5, 2), (109, .invokestatic 278, 3), (112, .iload 5, 2), (114, .ireturn, 1)]
theorem dk_31_0 : ∀ e ∈ cd_31_0, decode prog_1_method_32_code e.1 = .ok e.2 := by decide +kernel
def cd_31 : List (Nat × Instr × Nat) := cd_31_0
theorem dk_31 : ∀ e ∈ cd_31, decode prog_1_method_32_code e.1 = .ok e.2 := dk_31_0
def cd_32_0 : List (Nat × Instr × Nat) := [(0, .iload_n 1, 1), (1, .invokestatic 228, 3), (4, .ifCond .eq 21, 3), (7, .iload_n 2, 1), (8, .invokestatic 266, 3), (11, .ifCond .eq 14, 3), (14, .iload 4, 2), (16, .iconst 0, 1), (17, .bipush 8, 2), (19, .invokestatic 40, 3), (22, .ifCond .ne 6, 3), (25, .bipush (-2), 2), (27, .ireturn, 1), (28, .aload_n 0, 1), (29, .getfield 30, 3), (32, .iload_n 1, 1), (33, .aaload, 1), (34, .astore 5, 2), (36, .aload 5, 2), (38, .invokevirtual 231, 3), (41, .ifCond .ne 15, 3), (44, .aload 5, 2), (46, .getfield 273, 3), (49, .iload_n 2, 1), (50, .if_icmp .eq 6, 3), (53, .bipush (-13), 2), (55, .ireturn, 1), (56, .aload 5, 2), (58, .invokevirtual 231, 3), (61, .ifCond .eq 6, 3), (64, .bipush (-11), 2), (66, .ireturn, 1), (67, .iconst 0, 1), (68, .istore 6, 2), (70, .iload_n 3, 1), (71, .istore 7, 2), (73, .iconst 0, 1), (74, .istore 8, 2), (76, .iload 8, 2), (78, .iload 4, 2), (80, .if_icmp .ge 77, 3), (83, .aload 5, 2), (85, .iload 7, 2), (87, .iconst 4, 1), (88, .invokevirtual 269, 3), (91, .ifCond .ne 6, 3), (94, .bipush (-12), 2), (96, .ireturn, 1), (97, .aload_n 0, 1), (98, .getfield 12, 3), (101, .aload 5, 2), (103, .getfield 276, 3), (106, .iload 7, 2), (108, .iaload, 1), (109, .aload 5, 2), (111, .getfield 276, 3), (114, .iload 7, 2), (116, .iconst 1, 1), (117, .iadd, 1), (118, .iaload, 1)]
theorem dk_32_0 : ∀ e ∈ cd_32_0, decode prog_1_method_33_code e.1 = .ok e.2 := by decide +kernel
def cd_32_1 : List (Nat × Instr × Nat) := [(119, .aload 5, 2), (121, .getfield 276, 3), (124, .iload 7, 2), (126, .iconst 2, 1), (127, .iadd, 1), (128, .iaload, 1), (129, .aload 5, 2), (131, .getfield 276, 3), (134, .iload 7, 2), (136, .iconst 3, 1), (137, .iadd, 1), (138, .iaload, 1), (139, .invokevirtual 61, 3), (142, .ifCond .lt 6, 3), (145, .iinc 6 1, 3), (148, .iinc 7 4, 3), (151, .iinc 8 1, 3), (154, .goto (-78), 3), (157, .iload 6, 2), (159, .ireturn, 1)]
theorem dk_32_1 : ∀ e ∈ cd_32_1, decode prog_1_method_33_code e.1 = .ok e.2 := by decide +kernel
def cd_32 : List (Nat × Instr × Nat) := cd_32_0 ++ cd_32_1
theorem dk_32 : ∀ e ∈ cd_32, decode prog_1_method_33_code e.1 = .ok e.2 := dk_app dk_32_0 dk_32_1
def cd_33_0 : List (Nat × Instr × Nat) := [(0, .iload_n 0, 1), (1, .iload_n 1, 1), (2, .if_icmp .lt 12, 3), (5, .iload_n 0, 1), (6, .iload_n 2, 1), (7, .if_icmp .gt 7, 3), (10, .iconst 1, 1), (11, .goto 4, 3), (14, .iconst 0, 1), (15, .ireturn, 1)]
theorem dk_33_0 : ∀ e ∈ cd_33_0, decode prog_1_method_34_code e.1 = .ok e.2 := by decide +kernel
def cd_33 : List (Nat × Instr × Nat) := cd_33_0
theorem dk_33 : ∀ e ∈ cd_33, decode prog_1_method_34_code e.1 = .ok e.2 := dk_33_0
def cd_34_0 : List (Nat × Instr × Nat) := [(0, .iload_n 0, 1), (1, .iconst 0, 1), (2, .bipush 8, 2), (4, .invokestatic 40, 3), (7, .ireturn, 1)]
theorem dk_34_0 : ∀ e ∈ cd_34_0, decode prog_1_method_35_code e.1 = .ok e.2 := by decide +kernel
def cd_34 : List (Nat × Instr × Nat) := cd_34_0
theorem dk_34 : ∀ e ∈ cd_34, decode prog_1_method_35_code e.1 = .ok e.2 := dk_34_0
def cd_35_0 : List (Nat × Instr × Nat) := [(0, .iload_n 0, 1), (1, .iconst 0, 1), (2, .iconst 2, 1), (3, .invokestatic 40, 3), (6, .ireturn, 1)]
theorem dk_35_0 : ∀ e ∈ cd_35_0, decode prog_1_method_36_code e.1 = .ok e.2 := by decide +kernel
def cd_35 : List (Nat × Instr × Nat) := cd_35_0
theorem dk_35 : ∀ e ∈ cd_35, decode prog_1_method_36_code e.1 = .ok e.2 := dk_35_0
def cd_36_0 : List (Nat × Instr × Nat) := [(0, .iload_n 0, 1), (1, .iconst 0, 1), (2, .iconst 5, 1), (3, .invokestatic 40, 3), (6, .ireturn, 1)]
theorem dk_36_0 : ∀ e ∈ cd_36_0, decode prog_1_method_37_code e.1 = .ok e.2 := by decide +kernel
def cd_36 : List (Nat × Instr × Nat) := cd_36_0
theorem dk_36 : ∀ e ∈ cd_36, decode prog_1_method_37_code e.1 = .ok e.2 := dk_36_0
def cd_37_0 : List (Nat × Instr × Nat) := [(0, .iload_n 0, 1), (1, .iconst 0, 1), (2, .iconst 3, 1), (3, .invokestatic 40, 3), (6, .ireturn, 1)]
theorem dk_37_0 : ∀ e ∈ cd_37_0, decode prog_1_method_38_code e.1 = .ok e.2 := by decide +kernel
def cd_37 : List (Nat × Instr × Nat) := cd_37_0
theorem dk_37 : ∀ e ∈ cd_37, decode prog_1_method_38_code e.1 = .ok e.2 := dk_37_0
def cd_38_0 : List (Nat × Instr × Nat) := [(0, .iload_n 0, 1), (1, .ifCond .eq 8, 3), (4, .iload_n 0, 1), (5, .iconst 1, 1), (6, .if_icmp .ne 7, 3), (9, .iconst 1, 1), (10, .goto 4, 3), (13, .iconst 0, 1), (14, .ireturn, 1)]
theorem dk_38_0 : ∀ e ∈ cd_38_0, decode prog_1_method_39_code e.1 = .ok e.2 := by decide +kernel
def cd_38 : List (Nat × Instr × Nat) := cd_38_0
theorem dk_38 : ∀ e ∈ cd_38, decode prog_1_method_39_code e.1 = .ok e.2 := dk_38_0
def cd_39_0 : List (Nat × Instr × Nat) := [(0, .iload_n 0, 1), (1, .ldc_w 284, 3), (4, .imul, 1), (5, .sipush 12345, 3), (8, .iadd, 1), (9, .ireturn, 1)]
theorem dk_39_0 : ∀ e ∈ cd_39_0, decode prog_1_method_40_code e.1 = .ok e.2 := by decide +kernel
def cd_39 : List (Nat × Instr × Nat) := cd_39_0
theorem dk_39 : ∀ e ∈ cd_39, decode prog_1_method_40_code e.1 = .ok e.2 := dk_39_0
def cd_40_0 : List (Nat × Instr × Nat) := [(0, .aload_n 0, 1), (1, .invokespecial 3, 3), (4, .aload_n 0, 1), (5, .bipush 9, 2), (7, .newarray .int, 2), (9, .putfield 9, 3), (12, .aload_n 0, 1), (13, .iconst 3, 1), (14, .newarray .int, 2), (16, .putfield 15, 3), (19, .aload_n 0, 1), (20, .iconst 3, 1), (21, .newarray .int, 2), (23, .putfield 18, 3), (26, .aload_n 0, 1), (27, .iconst 5, 1), (28, .newarray .int, 2), (30, .putfield 21, 3), (33, .aload_n 0, 1), (34, .iconst 0, 1), (35, .putfield 24, 3), (38, .aload_n 0, 1), (39, .iconst 4, 1), (40, .putfield 28, 3), (43, .aload_n 0, 1), (44, .iconst 0, 1), (45, .putfield 31, 3), (48, .aload_n 0, 1), (49, .iconst 0, 1), (50, .putfield 34, 3), (53, .aload_n 0, 1), (54, .bipush 8, 2), (56, .anewarray 37, 3), (59, .putfield 39, 3), (62, .aload_n 0, 1), (63, .iconst 0, 1), (64, .putfield 43, 3), (67, .aload_n 0, 1), (68, .iconst 3, 1), (69, .newarray .int, 2), (71, .putfield 46, 3), (74, .aload_n 0, 1), (75, .iconst 0, 1), (76, .putfield 49, 3), (79, .aload_n 0, 1), (80, .new 53, 3), (83, .dup, 1), (84, .invokespecial 55, 3), (87, .putfield 56, 3), (90, .aload_n 0, 1), (91, .bipush 8, 2), (93, .newarray .int, 2), (95, .putfield 60, 3), (98, .aload_n 0, 1), (99, .iconst 0, 1), (100, .putfield 63, 3), (103, .aload_n 0, 1), (104, .bipush 9, 2), (106, .newarray .int, 2), (108, .putfield 66, 3)]
theorem dk_40_0 : ∀ e ∈ cd_40_0, decode prog_2_method_1_code e.1 = .ok e.2 := by decide +kernel
def cd_40_1 : List (Nat × Instr × Nat) := [(111, .aload_n 0, 1), (112, .bipush 8, 2), (114, .newarray .long, 2), (116, .putfield 69, 3), (119, .iconst 0, 1), (120, .istore_n 1, 1), (121, .iload_n 1, 1), (122, .bipush 9, 2), (124, .if_icmp .ge 16, 3), (127, .aload_n 0, 1), (128, .getfield 9, 3), (131, .iload_n 1, 1), (132, .iconst 1, 1), (133, .iastore, 1), (134, .iinc 1 1, 3), (137, .goto (-16), 3), (140, .iconst 0, 1), (141, .istore_n 1, 1), (142, .iload_n 1, 1), (143, .iconst 3, 1), (144, .if_icmp .ge 17, 3), (147, .aload_n 0, 1), (148, .getfield 18, 3), (151, .iload_n 1, 1), (152, .bipush 8, 2), (154, .iastore, 1), (155, .iinc 1 1, 3), (158, .goto (-16), 3), (161, .iconst 0, 1), (162, .istore_n 1, 1), (163, .iload_n 1, 1), (164, .bipush 8, 2), (166, .if_icmp .ge 22, 3), (169, .aload_n 0, 1), (170, .getfield 39, 3), (173, .iload_n 1, 1), (174, .new 37, 3), (177, .dup, 1), (178, .invokespecial 73, 3), (181, .aastore, 1), (182, .iinc 1 1, 3), (185, .goto (-22), 3), (188, .return_, 1)]
theorem dk_40_1 : ∀ e ∈ cd_40_1, decode prog_2_method_1_code e.1 = .ok e.2 := by decide +kernel
def cd_40 : List (Nat × Instr × Nat) := cd_40_0 ++ cd_40_1
theorem dk_40 : ∀ e ∈ cd_40, decode prog_2_method_1_code e.1 = .ok e.2 := dk_app dk_40_0 dk_40_1
def cd_41_0 : List (Nat × Instr × Nat) := [(0, .aload_n 1, 1), (1, .getfield 9, 3), (4, .iconst 0, 1), (5, .aload_n 0, 1), (6, .getfield 9, 3), (9, .iconst 0, 1), (10, .bipush 9, 2), (12, .invokestatic 74, 3), (15, .aload_n 1, 1), (16, .getfield 15, 3), (19, .iconst 0, 1), (20, .aload_n 0, 1), (21, .getfield 15, 3), (24, .iconst 0, 1), (25, .iconst 3, 1), (26, .invokestatic 74, 3), (29, .aload_n 1, 1), (30, .getfield 18, 3), (33, .iconst 0, 1), (34, .aload_n 0, 1), (35, .getfield 18, 3), (38, .iconst 0, 1), (39, .iconst 3, 1), (40, .invokestatic 74, 3), (43, .aload_n 1, 1), (44, .getfield 21, 3), (47, .iconst 0, 1), (48, .aload_n 0, 1), (49, .getfield 21, 3), (52, .iconst 0, 1), (53, .iconst 5, 1), (54, .invokestatic 74, 3), (57, .aload_n 0, 1), (58, .aload_n 1, 1), (59, .getfield 24, 3), (62, .putfield 24, 3), (65, .aload_n 0, 1), (66, .aload_n 1, 1), (67, .getfield 28, 3), (70, .putfield 28, 3), (73, .aload_n 0, 1), (74, .aload_n 1, 1), (75, .getfield 31, 3), (78, .putfield 31, 3), (81, .aload_n 0, 1), (82, .aload_n 1, 1), (83, .getfield 34, 3), (86, .putfield 34, 3), (89, .iconst 0, 1), (90, .istore_n 2, 1), (91, .iload_n 2, 1), (92, .bipush 8, 2), (94, .if_icmp .ge 24, 3), (97, .aload_n 0, 1), (98, .getfield 39, 3), (101, .iload_n 2, 1), (102, .aaload, 1), (103, .aload_n 1, 1), (104, .getfield 39, 3), (107, .iload_n 2, 1)]
theorem dk_41_0 : ∀ e ∈ cd_41_0, decode prog_2_method_2_code e.1 = .ok e.2 := by decide +kernel
def cd_41_1 : List (Nat × Instr × Nat) := [(108, .aaload, 1), (109, .invokevirtual 80, 3), (112, .iinc 2 1, 3), (115, .goto (-24), 3), (118, .aload_n 0, 1), (119, .aload_n 1, 1), (120, .getfield 43, 3), (123, .putfield 43, 3), (126, .aload_n 1, 1), (127, .getfield 46, 3), (130, .iconst 0, 1), (131, .aload_n 0, 1), (132, .getfield 46, 3), (135, .iconst 0, 1), (136, .iconst 3, 1), (137, .invokestatic 74, 3), (140, .aload_n 0, 1), (141, .aload_n 1, 1), (142, .getfield 49, 3), (145, .putfield 49, 3), (148, .aload_n 0, 1), (149, .getfield 56, 3), (152, .aload_n 1, 1), (153, .getfield 56, 3), (156, .invokevirtual 84, 3), (159, .aload_n 1, 1), (160, .getfield 60, 3), (163, .iconst 0, 1), (164, .aload_n 0, 1), (165, .getfield 60, 3), (168, .iconst 0, 1), (169, .bipush 8, 2), (171, .invokestatic 74, 3), (174, .aload_n 0, 1), (175, .aload_n 1, 1), (176, .getfield 63, 3), (179, .putfield 63, 3), (182, .aload_n 1, 1), (183, .getfield 66, 3), (186, .iconst 0, 1), (187, .aload_n 0, 1), (188, .getfield 66, 3), (191, .iconst 0, 1), (192, .bipush 9, 2), (194, .invokestatic 74, 3), (197, .return_, 1)]
theorem dk_41_1 : ∀ e ∈ cd_41_1, decode prog_2_method_2_code e.1 = .ok e.2 := by decide +kernel
def cd_41 : List (Nat × Instr × Nat) := cd_41_0 ++ cd_41_1
theorem dk_41 : ∀ e ∈ cd_41, decode prog_2_method_2_code e.1 = .ok e.2 := dk_app dk_41_0 dk_41_1
def cd_42_0 : List (Nat × Instr × Nat) := [(0, .iconst 0, 1), (1, .istore_n 2, 1), (2, .iload_n 2, 1), (3, .bipush 9, 2), (5, .if_icmp .ge 25, 3), (8, .iload_n 2, 1), (9, .iload_n 1, 1), (10, .if_icmp .eq 14, 3), (13, .aload_n 0, 1), (14, .getfield 9, 3), (17, .iload_n 2, 1), (18, .iaload, 1), (19, .ifCond .eq 5, 3), (22, .iconst 0, 1), (23, .ireturn, 1), (24, .iinc 2 1, 3), (27, .goto (-25), 3), (30, .iconst 1, 1), (31, .ireturn, 1)]
theorem dk_42_0 : ∀ e ∈ cd_42_0, decode prog_2_method_3_code e.1 = .ok e.2 := by decide +kernel
def cd_42 : List (Nat × Instr × Nat) := cd_42_0
theorem dk_42 : ∀ e ∈ cd_42, decode prog_2_method_3_code e.1 = .ok e.2 := dk_42_0
def cd_43_0 : List (Nat × Instr × Nat) := [(0, .aload_n 0, 1), (1, .getfield 9, 3), (4, .iload_n 1, 1), (5, .iaload, 1), (6, .istore_n 3, 1), (7, .aload_n 0, 1), (8, .getfield 9, 3), (11, .iload_n 1, 1), (12, .iload_n 2, 1), (13, .iastore, 1), (14, .aload_n 0, 1), (15, .getfield 49, 3), (18, .ifCond .ne 14, 3), (21, .aload_n 0, 1), (22, .getfield 56, 3), (25, .aload_n 0, 1), (26, .getfield 9, 3), (29, .invokevirtual 87, 3), (32, .iload_n 3, 1), (33, .ireturn, 1)]
theorem dk_43_0 : ∀ e ∈ cd_43_0, decode prog_2_method_4_code e.1 = .ok e.2 := by decide +kernel
def cd_43 : List (Nat × Instr × Nat) := cd_43_0
theorem dk_43 : ∀ e ∈ cd_43, decode prog_2_method_4_code e.1 = .ok e.2 := dk_43_0
def cd_44_0 : List (Nat × Instr × Nat) := [(0, .iload_n 1, 1), (1, .iconst 0, 1), (2, .aload_n 0, 1), (3, .getfield 43, 3), (6, .iconst 1, 1), (7, .isub, 1), (8, .invokestatic 91, 3), (11, .ireturn, 1)]
theorem dk_44_0 : ∀ e ∈ cd_44_0, decode prog_2_method_5_code e.1 = .ok e.2 := by decide +kernel
def cd_44 : List (Nat × Instr × Nat) := cd_44_0
theorem dk_44 : ∀ e ∈ cd_44, decode prog_2_method_5_code e.1 = .ok e.2 := dk_44_0
def cd_45_0 : List (Nat × Instr × Nat) := [(0, .iload_n 1, 1), (1, .invokestatic 95, 3), (4, .ifCond .eq 27, 3), (7, .iload_n 2, 1), (8, .invokestatic 99, 3), (11, .ifCond .eq 20, 3), (14, .iload_n 3, 1), (15, .invokestatic 102, 3), (18, .ifCond .eq 13, 3), (21, .iload 4, 2), (23, .iconst 1, 1), (24, .iconst 3, 1), (25, .invokestatic 91, 3), (28, .ifCond .ne 6, 3), (31, .bipush (-2), 2), (33, .ireturn, 1), (34, .aload_n 0, 1), (35, .getfield 43, 3), (38, .bipush 8, 2), (40, .if_icmp .lt 6, 3), (43, .bipush (-4), 2), (45, .ireturn, 1), (46, .aload_n 0, 1), (47, .getfield 39, 3), (50, .aload_n 0, 1), (51, .getfield 43, 3), (54, .aaload, 1), (55, .iload_n 1, 1), (56, .iload_n 2, 1), (57, .iload_n 3, 1), (58, .iload 4, 2), (60, .invokevirtual 105, 3), (63, .aload_n 0, 1), (64, .getfield 39, 3), (67, .aload_n 0, 1), (68, .getfield 43, 3), (71, .aaload, 1), (72, .aload_n 0, 1), (73, .getfield 49, 3), (76, .putfield 108, 3), (79, .aload_n 0, 1), (80, .getfield 46, 3), (83, .iload_n 2, 1), (84, .dup2, 1), (85, .iaload, 1), (86, .iconst 1, 1), (87, .aload_n 0, 1), (88, .getfield 43, 3), (91, .ishl, 1), (92, .ior, 1), (93, .iastore, 1), (94, .aload_n 0, 1), (95, .dup, 1), (96, .getfield 43, 3), (99, .dup_x1, 1), (100, .iconst 1, 1), (101, .iadd, 1), (102, .putfield 43, 3), (105, .ireturn, 1)]
theorem dk_45_0 : ∀ e ∈ cd_45_0, decode prog_2_method_6_code e.1 = .ok e.2 := by decide +kernel
def cd_45 : List (Nat × Instr × Nat) := cd_45_0
theorem dk_45 : ∀ e ∈ cd_45, decode prog_2_method_6_code e.1 = .ok e.2 := dk_45_0
def cd_46_0 : List (Nat × Instr × Nat) := [(0, .aload_n 0, 1), (1, .dup, 1), (2, .getfield 34, 3), (5, .iconst 1, 1), (6, .iadd, 1), (7, .putfield 34, 3), (10, .iload_n 1, 1), (11, .istore_n 2, 1), (12, .iconst 0, 1), (13, .istore_n 3, 1), (14, .iconst 0, 1), (15, .istore 4, 2), (17, .iload 4, 2), (19, .aload_n 0, 1), (20, .getfield 43, 3), (23, .if_icmp .ge 81, 3), (26, .iload_n 2, 1), (27, .invokestatic 111, 3), (30, .istore_n 2, 1), (31, .aload_n 0, 1), (32, .getfield 39, 3), (35, .iload 4, 2), (37, .aaload, 1), (38, .astore 5, 2), (40, .aload 5, 2), (42, .bipush 10, 2), (44, .aload 5, 2), (46, .getfield 115, 3), (49, .iconst 1, 1), (50, .iadd, 1), (51, .imul, 1), (52, .aload 5, 2), (54, .getfield 118, 3), (57, .aload_n 0, 1), (58, .getfield 34, 3), (61, .imul, 1), (62, .if_icmp .gt 17, 3), (65, .iload_n 2, 1), (66, .bipush 9, 2), (68, .iushr, 1), (69, .bipush 10, 2), (71, .irem, 1), (72, .aload_n 0, 1), (73, .getfield 31, 3), (76, .if_icmp .ge 7, 3), (79, .iconst 1, 1), (80, .goto 4, 3), (83, .iconst 0, 1), (84, .putfield 108, 3), (87, .aload 5, 2), (89, .getfield 108, 3), (92, .ifCond .eq 6, 3), (95, .iinc 3 1, 3), (98, .iinc 4 1, 3), (101, .goto (-84), 3), (104, .aload_n 0, 1), (105, .iconst 1, 1), (106, .putfield 49, 3), (109, .aload_n 0, 1), (110, .getfield 56, 3)]
theorem dk_46_0 : ∀ e ∈ cd_46_0, decode prog_2_method_7_code e.1 = .ok e.2 := by decide +kernel
def cd_46_1 : List (Nat × Instr × Nat) := [(113, .aload_n 0, 1), (114, .getfield 9, 3), (117, .invokevirtual 87, 3), (120, .aload_n 0, 1), (121, .getfield 56, 3), (124, .invokevirtual 121, 3), (127, .aload_n 0, 1), (128, .getfield 66, 3), (131, .iconst 0, 1), (132, .aload_n 0, 1), (133, .getfield 56, 3), (136, .invokevirtual 124, 3), (139, .iastore, 1), (140, .iload_n 3, 1), (141, .ireturn, 1)]
theorem dk_46_1 : ∀ e ∈ cd_46_1, decode prog_2_method_7_code e.1 = .ok e.2 := by decide +kernel
def cd_46 : List (Nat × Instr × Nat) := cd_46_0 ++ cd_46_1
theorem dk_46 : ∀ e ∈ cd_46, decode prog_2_method_7_code e.1 = .ok e.2 := dk_app dk_46_0 dk_46_1
def cd_47_0 : List (Nat × Instr × Nat) := [(0, .aload_n 0, 1), (1, .getfield 63, 3), (4, .istore_n 1, 1), (5, .aload_n 0, 1), (6, .iconst 0, 1), (7, .putfield 49, 3), (10, .aload_n 0, 1), (11, .iconst 0, 1), (12, .putfield 63, 3), (15, .iconst 0, 1), (16, .istore_n 2, 1), (17, .iload_n 2, 1), (18, .aload_n 0, 1), (19, .getfield 43, 3), (22, .if_icmp .ge 29, 3), (25, .aload_n 0, 1), (26, .getfield 39, 3), (29, .iload_n 2, 1), (30, .aaload, 1), (31, .iconst 0, 1), (32, .putfield 108, 3), (35, .aload_n 0, 1), (36, .getfield 39, 3), (39, .iload_n 2, 1), (40, .aaload, 1), (41, .iconst (-1), 1), (42, .putfield 128, 3), (45, .iinc 2 1, 3), (48, .goto (-31), 3), (51, .aload_n 0, 1), (52, .getfield 56, 3), (55, .aload_n 0, 1), (56, .getfield 9, 3), (59, .invokevirtual 87, 3), (62, .iload_n 1, 1), (63, .ireturn, 1)]
theorem dk_47_0 : ∀ e ∈ cd_47_0, decode prog_2_method_8_code e.1 = .ok e.2 := by decide +kernel
def cd_47 : List (Nat × Instr × Nat) := cd_47_0
theorem dk_47 : ∀ e ∈ cd_47, decode prog_2_method_8_code e.1 = .ok e.2 := dk_47_0
def cd_48_0 : List (Nat × Instr × Nat) := [(0, .aload_n 0, 1), (1, .getfield 39, 3), (4, .iload_n 1, 1), (5, .aaload, 1), (6, .invokevirtual 131, 3), (9, .ifCond .eq 37, 3), (12, .aload_n 0, 1), (13, .aload_n 0, 1), (14, .getfield 39, 3), (17, .iload_n 1, 1), (18, .aaload, 1), (19, .getfield 135, 3), (22, .invokevirtual 138, 3), (25, .aload_n 0, 1), (26, .getfield 18, 3), (29, .aload_n 0, 1), (30, .getfield 39, 3), (33, .iload_n 1, 1), (34, .aaload, 1), (35, .getfield 135, 3), (38, .iaload, 1), (39, .if_icmp .ge 7, 3), (42, .iconst 1, 1), (43, .goto 4, 3), (46, .iconst 0, 1), (47, .ireturn, 1)]
theorem dk_48_0 : ∀ e ∈ cd_48_0, decode prog_2_method_9_code e.1 = .ok e.2 := by decide +kernel
def cd_48 : List (Nat × Instr × Nat) := cd_48_0
theorem dk_48 : ∀ e ∈ cd_48, decode prog_2_method_9_code e.1 = .ok e.2 := dk_48_0
def cd_49_0 : List (Nat × Instr × Nat) := [(0, .iconst 0, 1), (1, .istore_n 2, 1), (2, .iconst 0, 1), (3, .istore_n 3, 1), (4, .iload_n 3, 1), (5, .aload_n 0, 1), (6, .getfield 43, 3), (9, .if_icmp .ge 38, 3), (12, .aload_n 0, 1), (13, .getfield 39, 3), (16, .iload_n 3, 1), (17, .aaload, 1), (18, .getfield 128, 3), (21, .iconst (-1), 1), (22, .if_icmp .eq 19, 3), (25, .aload_n 0, 1), (26, .getfield 39, 3), (29, .iload_n 3, 1), (30, .aaload, 1), (31, .getfield 135, 3), (34, .iload_n 1, 1), (35, .if_icmp .ne 6, 3), (38, .iinc 2 1, 3), (41, .iinc 3 1, 3), (44, .goto (-40), 3), (47, .iload_n 2, 1), (48, .ireturn, 1)]
theorem dk_49_0 : ∀ e ∈ cd_49_0, decode prog_2_method_10_code e.1 = .ok e.2 := by decide +kernel
def cd_49 : List (Nat × Instr × Nat) := cd_49_0
theorem dk_49 : ∀ e ∈ cd_49, decode prog_2_method_10_code e.1 = .ok e.2 := dk_49_0
def cd_50_0 : List (Nat × Instr × Nat) := [(0, .aload_n 0, 1), (1, .getfield 63, 3), (4, .bipush 8, 2), (6, .if_icmp .lt 4, 3), (9, .return_, 1), (10, .aload_n 0, 1), (11, .getfield 39, 3), (14, .iload_n 1, 1), (15, .aaload, 1), (16, .dup, 1), (17, .getfield 115, 3), (20, .iconst 1, 1), (21, .iadd, 1), (22, .putfield 115, 3), (25, .aload_n 0, 1), (26, .getfield 39, 3), (29, .iload_n 1, 1), (30, .aaload, 1), (31, .iload_n 2, 1), (32, .putfield 128, 3), (35, .aload_n 0, 1), (36, .getfield 56, 3), (39, .aload_n 0, 1), (40, .getfield 39, 3), (43, .iload_n 1, 1), (44, .aaload, 1), (45, .iload_n 2, 1), (46, .invokevirtual 141, 3), (49, .pop, 1), (50, .aload_n 0, 1), (51, .getfield 60, 3), (54, .aload_n 0, 1), (55, .dup, 1), (56, .getfield 63, 3), (59, .dup_x1, 1), (60, .iconst 1, 1), (61, .iadd, 1), (62, .putfield 63, 3), (65, .iload_n 1, 1), (66, .iastore, 1), (67, .aload_n 0, 1), (68, .getfield 66, 3), (71, .aload_n 0, 1), (72, .getfield 63, 3), (75, .aload_n 0, 1), (76, .getfield 56, 3), (79, .invokevirtual 124, 3), (82, .iastore, 1), (83, .return_, 1)]
theorem dk_50_0 : ∀ e ∈ cd_50_0, decode prog_2_method_11_code e.1 = .ok e.2 := by decide +kernel
def cd_50 : List (Nat × Instr × Nat) := cd_50_0
theorem dk_50 : ∀ e ∈ cd_50, decode prog_2_method_11_code e.1 = .ok e.2 := dk_50_0
def cd_51_0 : List (Nat × Instr × Nat) := [(0, .aload_n 0, 1), (1, .aload_n 1, 1), (2, .invokevirtual 145, 3), (5, .aload_n 0, 1), (6, .getfield 63, 3), (9, .istore 4, 2), (11, .iload_n 2, 1), (12, .istore 5, 2), (14, .iconst 0, 1), (15, .istore 6, 2), (17, .iload 6, 2), (19, .bipush 8, 2), (21, .if_icmp .ge 71, 3), (24, .aload_n 0, 1), (25, .invokevirtual 148, 3), (28, .ifCond .ne 64, 3), (31, .aload_n 0, 1), (32, .invokevirtual 151, 3), (35, .istore 7, 2), (37, .iload 7, 2), (39, .ifCond .ge 6, 3), (42, .goto 50, 3), (45, .iload 5, 2), (47, .invokestatic 111, 3), (50, .istore 5, 2), (52, .aload_n 0, 1), (53, .iload 7, 2), (55, .iload 5, 2), (57, .bipush 9, 2), (59, .iushr, 1), (60, .bipush 16, 2), (62, .irem, 1), (63, .aload_n 0, 1), (64, .getfield 39, 3), (67, .iload 7, 2), (69, .aaload, 1), (70, .getfield 154, 3), (73, .iload_n 3, 1), (74, .iaload, 1), (75, .if_icmp .ge 7, 3), (78, .iconst 1, 1), (79, .goto 4, 3), (82, .iconst 0, 1), (83, .invokevirtual 157, 3), (86, .iinc 6 1, 3), (89, .goto (-72), 3), (92, .aload_n 0, 1), (93, .getfield 63, 3), (96, .iload 4, 2), (98, .isub, 1), (99, .ireturn, 1)]
theorem dk_51_0 : ∀ e ∈ cd_51_0, decode prog_2_method_12_code e.1 = .ok e.2 := by decide +kernel
def cd_51 : List (Nat × Instr × Nat) := cd_51_0
theorem dk_51 : ∀ e ∈ cd_51, decode prog_2_method_12_code e.1 = .ok e.2 := dk_51_0
def cd_52_0 : List (Nat × Instr × Nat) := [(0, .iconst 0, 1), (1, .istore_n 1, 1), (2, .iconst 0, 1), (3, .istore_n 2, 1), (4, .iconst 0, 1), (5, .istore_n 3, 1), (6, .iload_n 3, 1), (7, .aload_n 0, 1), (8, .getfield 43, 3), (11, .if_icmp .ge 65, 3), (14, .aload_n 0, 1), (15, .getfield 39, 3), (18, .iload_n 3, 1), (19, .aaload, 1), (20, .getfield 128, 3), (23, .iconst (-1), 1), (24, .if_icmp .eq 9, 3), (27, .iload_n 1, 1), (28, .iconst 1, 1), (29, .iload_n 3, 1), (30, .ishl, 1), (31, .ior, 1), (32, .istore_n 1, 1), (33, .aload_n 0, 1), (34, .getfield 39, 3), (37, .iload_n 3, 1), (38, .aaload, 1), (39, .invokevirtual 131, 3), (42, .ifCond .eq 9, 3), (45, .iload_n 2, 1), (46, .iconst 1, 1), (47, .iload_n 3, 1), (48, .ishl, 1), (49, .ior, 1), (50, .istore_n 2, 1), (51, .aload_n 0, 1), (52, .getfield 69, 3), (55, .iload_n 3, 1), (56, .aload_n 0, 1), (57, .getfield 56, 3), (60, .aload_n 0, 1), (61, .getfield 39, 3), (64, .iload_n 3, 1), (65, .aaload, 1), (66, .invokevirtual 161, 3), (69, .lastore, 1), (70, .iinc 3 1, 3), (73, .goto (-67), 3), (76, .bipush (-8), 2), (78, .istore_n 3, 1), (79, .ldc2_w 164, 3), (82, .lstore 4, 2), (84, .iconst 0, 1), (85, .istore 6, 2), (87, .iload 6, 2), (89, .iload_n 2, 1), (90, .if_icmp .gt 81, 3), (93, .iload_n 1, 1), (94, .iload 6, 2), (96, .ior, 1)]
theorem dk_52_0 : ∀ e ∈ cd_52_0, decode prog_2_method_13_code e.1 = .ok e.2 := by decide +kernel
def cd_52_1 : List (Nat × Instr × Nat) := [(97, .istore 7, 2), (99, .iload 6, 2), (101, .iload_n 2, 1), (102, .iconst (-1), 1), (103, .ixor, 1), (104, .iand, 1), (105, .ifCond .ne 60, 3), (108, .iload 7, 2), (110, .invokestatic 166, 3), (113, .aload_n 0, 1), (114, .getfield 28, 3), (117, .if_icmp .ne 48, 3), (120, .aload_n 0, 1), (121, .iload 7, 2), (123, .invokevirtual 171, 3), (126, .ifCond .ne 6, 3), (129, .goto 36, 3), (132, .aload_n 0, 1), (133, .iload 6, 2), (135, .invokevirtual 174, 3), (138, .lstore 8, 2), (140, .lload 8, 2), (142, .lconst 0, 1), (143, .lcmp, 1), (144, .ifCond .ge 6, 3), (147, .bipush (-7), 2), (149, .ireturn, 1), (150, .lload 8, 2), (152, .lload 4, 2), (154, .lcmp, 1), (155, .ifCond .le 10, 3), (158, .lload 8, 2), (160, .lstore 4, 2), (162, .iload 7, 2), (164, .istore_n 3, 1), (165, .iinc 6 1, 3), (168, .goto (-81), 3), (171, .iload_n 3, 1), (172, .ireturn, 1)]
theorem dk_52_1 : ∀ e ∈ cd_52_1, decode prog_2_method_13_code e.1 = .ok e.2 := by decide +kernel
def cd_52 : List (Nat × Instr × Nat) := cd_52_0 ++ cd_52_1
theorem dk_52 : ∀ e ∈ cd_52, decode prog_2_method_13_code e.1 = .ok e.2 := dk_app dk_52_0 dk_52_1
def cd_53_0 : List (Nat × Instr × Nat) := [(0, .iconst 0, 1), (1, .istore_n 2, 1), (2, .iload_n 2, 1), (3, .iconst 3, 1), (4, .if_icmp .ge 43, 3), (7, .iload_n 1, 1), (8, .aload_n 0, 1), (9, .getfield 46, 3), (12, .iload_n 2, 1), (13, .iaload, 1), (14, .iand, 1), (15, .invokestatic 166, 3), (18, .istore_n 3, 1), (19, .iload_n 3, 1), (20, .aload_n 0, 1), (21, .getfield 15, 3), (24, .iload_n 2, 1), (25, .iaload, 1), (26, .if_icmp .lt 13, 3), (29, .iload_n 3, 1), (30, .aload_n 0, 1), (31, .getfield 18, 3), (34, .iload_n 2, 1), (35, .iaload, 1), (36, .if_icmp .le 5, 3), (39, .iconst 0, 1), (40, .ireturn, 1), (41, .iinc 2 1, 3), (44, .goto (-42), 3), (47, .iconst 1, 1), (48, .ireturn, 1)]
theorem dk_53_0 : ∀ e ∈ cd_53_0, decode prog_2_method_14_code e.1 = .ok e.2 := by decide +kernel
def cd_53 : List (Nat × Instr × Nat) := cd_53_0
theorem dk_53 : ∀ e ∈ cd_53, decode prog_2_method_14_code e.1 = .ok e.2 := dk_53_0
def cd_54_0 : List (Nat × Instr × Nat) := [(0, .lconst 0, 1), (1, .lstore_n 2, 1), (2, .iconst 0, 1), (3, .istore 4, 2), (5, .iload 4, 2), (7, .aload_n 0, 1), (8, .getfield 43, 3), (11, .if_icmp .ge 31, 3), (14, .iload_n 1, 1), (15, .iload 4, 2), (17, .ishr, 1), (18, .iconst 1, 1), (19, .iand, 1), (20, .iconst 1, 1), (21, .if_icmp .ne 15, 3), (24, .lload_n 2, 1), (25, .aload_n 0, 1), (26, .getfield 69, 3), (29, .iload 4, 2), (31, .laload, 1), (32, .invokestatic 178, 3), (35, .lstore_n 2, 1), (36, .iinc 4 1, 3), (39, .goto (-34), 3), (42, .lload_n 2, 1), (43, .lreturn, 1)]
theorem dk_54_0 : ∀ e ∈ cd_54_0, decode prog_2_method_15_code e.1 = .ok e.2 := by decide +kernel
def cd_54 : List (Nat × Instr × Nat) := cd_54_0
theorem dk_54 : ∀ e ∈ cd_54, decode prog_2_method_15_code e.1 = .ok e.2 := dk_54_0
def cd_55_0 : List (Nat × Instr × Nat) := [(0, .aload_n 0, 1), (1, .invokevirtual 184, 3), (4, .istore_n 1, 1), (5, .iload_n 1, 1), (6, .ifCond .ge 5, 3), (9, .iload_n 1, 1), (10, .ireturn, 1), (11, .iconst (-1), 1), (12, .istore_n 2, 1), (13, .iconst 0, 1), (14, .istore_n 3, 1), (15, .iload_n 3, 1), (16, .aload_n 0, 1), (17, .getfield 43, 3), (20, .if_icmp .ge 56, 3), (23, .iload_n 1, 1), (24, .iload_n 3, 1), (25, .ishr, 1), (26, .iconst 1, 1), (27, .iand, 1), (28, .ifCond .eq 42, 3), (31, .aload_n 0, 1), (32, .getfield 39, 3), (35, .iload_n 3, 1), (36, .aaload, 1), (37, .getfield 128, 3), (40, .iconst (-1), 1), (41, .if_icmp .eq 6, 3), (44, .goto 26, 3), (47, .iload_n 2, 1), (48, .iconst (-1), 1), (49, .if_icmp .eq 19, 3), (52, .aload_n 0, 1), (53, .getfield 69, 3), (56, .iload_n 3, 1), (57, .laload, 1), (58, .aload_n 0, 1), (59, .getfield 69, 3), (62, .iload_n 2, 1), (63, .laload, 1), (64, .lcmp, 1), (65, .ifCond .le 5, 3), (68, .iload_n 3, 1), (69, .istore_n 2, 1), (70, .iinc 3 1, 3), (73, .goto (-58), 3), (76, .iload_n 2, 1), (77, .ireturn, 1)]
theorem dk_55_0 : ∀ e ∈ cd_55_0, decode prog_2_method_16_code e.1 = .ok e.2 := by decide +kernel
def cd_55 : List (Nat × Instr × Nat) := cd_55_0
theorem dk_55 : ∀ e ∈ cd_55, decode prog_2_method_16_code e.1 = .ok e.2 := dk_55_0
def cd_56_0 : List (Nat × Instr × Nat) := [(0, .iconst 0, 1), (1, .istore_n 1, 1), (2, .iload_n 1, 1), (3, .iconst 3, 1), (4, .if_icmp .ge 25, 3), (7, .aload_n 0, 1), (8, .iload_n 1, 1), (9, .invokevirtual 138, 3), (12, .aload_n 0, 1), (13, .getfield 15, 3), (16, .iload_n 1, 1), (17, .iaload, 1), (18, .if_icmp .ge 5, 3), (21, .iconst 0, 1), (22, .ireturn, 1), (23, .iinc 1 1, 3), (26, .goto (-24), 3), (29, .aload_n 0, 1), (30, .getfield 63, 3), (33, .aload_n 0, 1), (34, .getfield 28, 3), (37, .if_icmp .lt 5, 3), (40, .iconst 1, 1), (41, .ireturn, 1), (42, .iconst 0, 1), (43, .istore_n 1, 1), (44, .iload_n 1, 1), (45, .iconst 5, 1), (46, .if_icmp .ge 35, 3), (49, .aload_n 0, 1), (50, .getfield 24, 3), (53, .iload_n 1, 1), (54, .ishr, 1), (55, .iconst 1, 1), (56, .iand, 1), (57, .ifCond .ne 6, 3), (60, .goto 15, 3), (63, .aload_n 0, 1), (64, .iload_n 1, 1), (65, .invokevirtual 187, 3), (68, .istore_n 2, 1), (69, .iload_n 2, 1), (70, .ifCond .eq 5, 3), (73, .iload_n 2, 1), (74, .ireturn, 1), (75, .iinc 1 1, 3), (78, .goto (-34), 3), (81, .iconst 0, 1), (82, .ireturn, 1)]
theorem dk_56_0 : ∀ e ∈ cd_56_0, decode prog_2_method_17_code e.1 = .ok e.2 := by decide +kernel
def cd_56 : List (Nat × Instr × Nat) := cd_56_0
theorem dk_56 : ∀ e ∈ cd_56, decode prog_2_method_17_code e.1 = .ok e.2 := dk_56_0
def cd_57_0 : List (Nat × Instr × Nat) := [(0, .aload_n 0, 1), (1, .getfield 21, 3), (4, .iload_n 1, 1), (5, .iaload, 1), (6, .istore_n 2, 1), (7, .iload_n 1, 1), (8, .tableswitch 64 0 3 #[32, 46, 52, 58], 32), (40, .aload_n 0, 1), (41, .getfield 63, 3), (44, .iload_n 2, 1), (45, .if_icmp .lt 7, 3), (48, .iconst 1, 1), (49, .goto 4, 3), (52, .iconst 0, 1), (53, .ireturn, 1), (54, .aload_n 0, 1), (55, .iload_n 2, 1), (56, .invokevirtual 190, 3), (59, .ireturn, 1), (60, .aload_n 0, 1), (61, .iload_n 2, 1), (62, .invokevirtual 193, 3), (65, .ireturn, 1), (66, .aload_n 0, 1), (67, .iload_n 2, 1), (68, .invokevirtual 196, 3), (71, .ireturn, 1), (72, .aload_n 0, 1), (73, .iload_n 2, 1), (74, .invokevirtual 199, 3), (77, .ireturn, 1)]
theorem dk_57_0 : ∀ e ∈ cd_57_0, decode prog_2_method_18_code e.1 = .ok e.2 := by decide +kernel
def cd_57 : List (Nat × Instr × Nat) := cd_57_0
theorem dk_57 : ∀ e ∈ cd_57, decode prog_2_method_18_code e.1 = .ok e.2 := dk_57_0
def cd_58_0 : List (Nat × Instr × Nat) := [(0, .aload_n 0, 1), (1, .getfield 56, 3), (4, .getfield 202, 3), (7, .aload_n 0, 1), (8, .getfield 56, 3), (11, .invokevirtual 124, 3), (14, .laload, 1), (15, .ldc2_w 205, 3), (18, .invokestatic 207, 3), (21, .lstore_n 2, 1), (22, .aload_n 0, 1), (23, .getfield 56, 3), (26, .getfield 210, 3), (29, .iload_n 1, 1), (30, .i2l, 1), (31, .invokestatic 207, 3), (34, .lstore 4, 2), (36, .lload_n 2, 1), (37, .lconst 0, 1), (38, .lcmp, 1), (39, .ifCond .lt 10, 3), (42, .lload 4, 2), (44, .lconst 0, 1), (45, .lcmp, 1), (46, .ifCond .ge 6, 3), (49, .bipush (-7), 2), (51, .ireturn, 1), (52, .lload_n 2, 1), (53, .lload 4, 2), (55, .lcmp, 1), (56, .ifCond .lt 7, 3), (59, .iconst 1, 1), (60, .goto 4, 3), (63, .iconst 0, 1), (64, .ireturn, 1)]
theorem dk_58_0 : ∀ e ∈ cd_58_0, decode prog_2_method_19_code e.1 = .ok e.2 := by decide +kernel
def cd_58 : List (Nat × Instr × Nat) := cd_58_0
theorem dk_58 : ∀ e ∈ cd_58, decode prog_2_method_19_code e.1 = .ok e.2 := dk_58_0
def cd_59_0 : List (Nat × Instr × Nat) := [(0, .aload_n 0, 1), (1, .getfield 56, 3), (4, .invokevirtual 214, 3), (7, .ldc2_w 218, 3), (10, .invokestatic 207, 3), (13, .lstore_n 2, 1), (14, .aload_n 0, 1), (15, .getfield 56, 3), (18, .invokevirtual 220, 3), (21, .iload_n 1, 1), (22, .i2l, 1), (23, .invokestatic 207, 3), (26, .lstore 4, 2), (28, .lload_n 2, 1), (29, .lconst 0, 1), (30, .lcmp, 1), (31, .ifCond .lt 10, 3), (34, .lload 4, 2), (36, .lconst 0, 1), (37, .lcmp, 1), (38, .ifCond .ge 6, 3), (41, .bipush (-7), 2), (43, .ireturn, 1), (44, .lload_n 2, 1), (45, .lload 4, 2), (47, .lcmp, 1), (48, .ifCond .gt 7, 3), (51, .iconst 1, 1), (52, .goto 4, 3), (55, .iconst 0, 1), (56, .ireturn, 1)]
theorem dk_59_0 : ∀ e ∈ cd_59_0, decode prog_2_method_20_code e.1 = .ok e.2 := by decide +kernel
def cd_59 : List (Nat × Instr × Nat) := cd_59_0
theorem dk_59 : ∀ e ∈ cd_59, decode prog_2_method_20_code e.1 = .ok e.2 := dk_59_0
def cd_60_0 : List (Nat × Instr × Nat) := [(0, .aload_n 0, 1), (1, .getfield 56, 3), (4, .getfield 210, 3), (7, .iload_n 1, 1), (8, .i2l, 1), (9, .invokestatic 207, 3), (12, .lstore_n 2, 1), (13, .lload_n 2, 1), (14, .lconst 0, 1), (15, .lcmp, 1), (16, .ifCond .ge 6, 3), (19, .bipush (-7), 2), (21, .ireturn, 1), (22, .iconst 0, 1), (23, .istore 4, 2), (25, .iload 4, 2), (27, .aload_n 0, 1), (28, .getfield 43, 3), (31, .if_icmp .ge 60, 3), (34, .aload_n 0, 1), (35, .getfield 39, 3), (38, .iload 4, 2), (40, .aaload, 1), (41, .invokevirtual 131, 3), (44, .ifCond .ne 6, 3), (47, .goto 38, 3), (50, .aload_n 0, 1), (51, .getfield 56, 3), (54, .aload_n 0, 1), (55, .getfield 39, 3), (58, .iload 4, 2), (60, .aaload, 1), (61, .invokevirtual 161, 3), (64, .lstore 5, 2), (66, .lload 5, 2), (68, .lconst 0, 1), (69, .lcmp, 1), (70, .ifCond .ge 6, 3), (73, .bipush (-7), 2), (75, .ireturn, 1), (76, .lload 5, 2), (78, .lload_n 2, 1), (79, .lcmp, 1), (80, .ifCond .lt 5, 3), (83, .iconst 0, 1), (84, .ireturn, 1), (85, .iinc 4 1, 3), (88, .goto (-63), 3), (91, .iconst 1, 1), (92, .ireturn, 1)]
theorem dk_60_0 : ∀ e ∈ cd_60_0, decode prog_2_method_21_code e.1 = .ok e.2 := by decide +kernel
def cd_60 : List (Nat × Instr × Nat) := cd_60_0
theorem dk_60 : ∀ e ∈ cd_60, decode prog_2_method_21_code e.1 = .ok e.2 := dk_60_0
def cd_61_0 : List (Nat × Instr × Nat) := [(0, .aload_n 0, 1), (1, .getfield 63, 3), (4, .iload_n 1, 1), (5, .if_icmp .ge 5, 3), (8, .iconst 0, 1), (9, .ireturn, 1), (10, .aload_n 0, 1), (11, .getfield 63, 3), (14, .iload_n 1, 1), (15, .isub, 1), (16, .istore_n 2, 1), (17, .iload_n 2, 1), (18, .aload_n 0, 1), (19, .getfield 63, 3), (22, .if_icmp .ge 29, 3), (25, .aload_n 0, 1), (26, .getfield 66, 3), (29, .iload_n 2, 1), (30, .iaload, 1), (31, .aload_n 0, 1), (32, .getfield 66, 3), (35, .aload_n 0, 1), (36, .getfield 63, 3), (39, .iaload, 1), (40, .if_icmp .eq 5, 3), (43, .iconst 0, 1), (44, .ireturn, 1), (45, .iinc 2 1, 3), (48, .goto (-31), 3), (51, .iconst 1, 1), (52, .ireturn, 1)]
theorem dk_61_0 : ∀ e ∈ cd_61_0, decode prog_2_method_22_code e.1 = .ok e.2 := by decide +kernel
def cd_61 : List (Nat × Instr × Nat) := cd_61_0
theorem dk_61 : ∀ e ∈ cd_61, decode prog_2_method_22_code e.1 = .ok e.2 := dk_61_0
def cd_62_0 : List (Nat × Instr × Nat) := [(0, .aload_n 1, 1), (1, .getfield 223, 3), (4, .aload_n 0, 1), (5, .getfield 43, 3), (8, .if_icmp .le 5, 3), (11, .iconst 0, 1), (12, .ireturn, 1), (13, .iconst 0, 1), (14, .istore_n 2, 1), (15, .iload_n 2, 1), (16, .aload_n 1, 1), (17, .getfield 223, 3), (20, .if_icmp .ge 25, 3), (23, .aload_n 1, 1), (24, .getfield 228, 3), (27, .iload_n 2, 1), (28, .iaload, 1), (29, .iconst 0, 1), (30, .iconst 1, 1), (31, .invokestatic 91, 3), (34, .ifCond .ne 5, 3), (37, .iconst 0, 1), (38, .ireturn, 1), (39, .iinc 2 1, 3), (42, .goto (-27), 3), (45, .iconst 1, 1), (46, .ireturn, 1)]
theorem dk_62_0 : ∀ e ∈ cd_62_0, decode prog_2_method_23_code e.1 = .ok e.2 := by decide +kernel
def cd_62 : List (Nat × Instr × Nat) := cd_62_0
theorem dk_62 : ∀ e ∈ cd_62, decode prog_2_method_23_code e.1 = .ok e.2 := dk_62_0
def cd_63_0 : List (Nat × Instr × Nat) := [(0, .iconst 0, 1), (1, .istore 5, 2), (3, .ldc2_w 164, 3), (6, .lstore 6, 2), (8, .iconst 0, 1), (9, .istore 8, 2), (11, .iload 8, 2), (13, .bipush 9, 2), (15, .if_icmp .ge 135, 3), (18, .lconst 1, 1), (19, .lstore 9, 2), (21, .iconst 0, 1), (22, .istore 11, 2), (24, .iload 11, 2), (26, .aload_n 1, 1), (27, .getfield 223, 3), (30, .if_icmp .ge 98, 3), (33, .iload 11, 2), (35, .aload_n 0, 1), (36, .getfield 43, 3), (39, .if_icmp .ge 89, 3), (42, .iload 11, 2), (44, .iload_n 2, 1), (45, .if_icmp .ne 19, 3), (48, .aload_n 0, 1), (49, .getfield 39, 3), (52, .iload 11, 2), (54, .aaload, 1), (55, .iload_n 3, 1), (56, .iload 8, 2), (58, .invokevirtual 230, 3), (61, .goto 16, 3), (64, .aload_n 0, 1), (65, .getfield 39, 3), (68, .iload 11, 2), (70, .aaload, 1), (71, .getfield 154, 3), (74, .iload 8, 2), (76, .iaload, 1), (77, .istore 12, 2), (79, .iload 11, 2), (81, .iload 4, 2), (83, .if_icmp .ne 7, 3), (86, .iconst 1, 1), (87, .goto 4, 3), (90, .iconst 0, 1), (91, .istore 13, 2), (93, .lload 9, 2), (95, .aload_n 1, 1), (96, .getfield 228, 3), (99, .iload 11, 2), (101, .iaload, 1), (102, .iload 13, 2), (104, .if_icmp .ne 12, 3), (107, .bipush 16, 2), (109, .iload 12, 2), (111, .isub, 1), (112, .i2l, 1), (113, .goto 6, 3), (116, .iload 12, 2)]
theorem dk_63_0 : ∀ e ∈ cd_63_0, decode prog_2_method_24_code e.1 = .ok e.2 := by decide +kernel
def cd_63_1 : List (Nat × Instr × Nat) := [(118, .i2l, 1), (119, .lmul, 1), (120, .lstore 9, 2), (122, .iinc 11 1, 3), (125, .goto (-101), 3), (128, .lload 9, 2), (130, .lload 6, 2), (132, .lcmp, 1), (133, .ifCond .le 11, 3), (136, .lload 9, 2), (138, .lstore 6, 2), (140, .iload 8, 2), (142, .istore 5, 2), (144, .iinc 8 1, 3), (147, .goto (-136), 3), (150, .iload 5, 2), (152, .ireturn, 1)]
theorem dk_63_1 : ∀ e ∈ cd_63_1, decode prog_2_method_24_code e.1 = .ok e.2 := by decide +kernel
def cd_63 : List (Nat × Instr × Nat) := cd_63_0 ++ cd_63_1
theorem dk_63 : ∀ e ∈ cd_63, decode prog_2_method_24_code e.1 = .ok e.2 := dk_app dk_63_0 dk_63_1
def cd_64_0 : List (Nat × Instr × Nat) := [(0, .iconst 0, 1), (1, .istore 4, 2), (3, .iconst 0, 1), (4, .istore 5, 2), (6, .iload 5, 2), (8, .bipush 6, 2), (10, .if_icmp .ge 31, 3), (13, .aload_n 0, 1), (14, .aload_n 1, 1), (15, .iload_n 2, 1), (16, .iload 5, 2), (18, .iconst (-1), 1), (19, .invokevirtual 234, 3), (22, .iload_n 3, 1), (23, .if_icmp .ne 12, 3), (26, .iload 4, 2), (28, .iconst 1, 1), (29, .iload 5, 2), (31, .ishl, 1), (32, .ior, 1), (33, .istore 4, 2), (35, .iinc 5 1, 3), (38, .goto (-32), 3), (41, .iload 4, 2), (43, .ireturn, 1)]
theorem dk_64_0 : ∀ e ∈ cd_64_0, decode prog_2_method_25_code e.1 = .ok e.2 := by decide +kernel
def cd_64 : List (Nat × Instr × Nat) := cd_64_0
theorem dk_64 : ∀ e ∈ cd_64, decode prog_2_method_25_code e.1 = .ok e.2 := dk_64_0
def cd_65_0 : List (Nat × Instr × Nat) := [(0, .aload_n 0, 1), (1, .aload_n 1, 1), (2, .iconst (-1), 1), (3, .iconst (-1), 1), (4, .iconst (-1), 1), (5, .invokevirtual 234, 3), (8, .istore_n 2, 1), (9, .iconst 0, 1), (10, .istore_n 3, 1), (11, .iconst 0, 1), (12, .istore 4, 2), (14, .iload 4, 2), (16, .aload_n 1, 1), (17, .getfield 223, 3), (20, .if_icmp .ge 29, 3), (23, .aload_n 0, 1), (24, .aload_n 1, 1), (25, .iconst (-1), 1), (26, .iconst (-1), 1), (27, .iload 4, 2), (29, .invokevirtual 234, 3), (32, .iload_n 2, 1), (33, .if_icmp .eq 10, 3), (36, .iload_n 3, 1), (37, .iconst 1, 1), (38, .iload 4, 2), (40, .ishl, 1), (41, .ior, 1), (42, .istore_n 3, 1), (43, .iinc 4 1, 3), (46, .goto (-32), 3), (49, .iload_n 3, 1), (50, .ireturn, 1)]
theorem dk_65_0 : ∀ e ∈ cd_65_0, decode prog_2_method_26_code e.1 = .ok e.2 := by decide +kernel
def cd_65 : List (Nat × Instr × Nat) := cd_65_0
theorem dk_65 : ∀ e ∈ cd_65, decode prog_2_method_26_code e.1 = .ok e.2 := dk_65_0
def cd_66_0 : List (Nat × Instr × Nat) := [(0, .aload_n 0, 1), (1, .invokespecial 3, 3), (4, .aload_n 0, 1), (5, .iconst 0, 1), (6, .putfield 9, 3), (9, .aload_n 0, 1), (10, .iconst 0, 1), (11, .putfield 15, 3), (14, .aload_n 0, 1), (15, .iconst 0, 1), (16, .putfield 18, 3), (19, .aload_n 0, 1), (20, .iconst 1, 1), (21, .putfield 21, 3), (24, .aload_n 0, 1), (25, .bipush 10, 2), (27, .putfield 24, 3), (30, .aload_n 0, 1), (31, .iconst 0, 1), (32, .putfield 27, 3), (35, .aload_n 0, 1), (36, .iconst 0, 1), (37, .putfield 30, 3), (40, .aload_n 0, 1), (41, .iconst (-1), 1), (42, .putfield 34, 3), (45, .aload_n 0, 1), (46, .bipush 9, 2), (48, .newarray .int, 2), (50, .putfield 37, 3), (53, .aload_n 0, 1), (54, .bipush 9, 2), (56, .newarray .int, 2), (58, .putfield 41, 3), (61, .return_, 1)]
theorem dk_66_0 : ∀ e ∈ cd_66_0, decode prog_4_method_1_code e.1 = .ok e.2 := by decide +kernel
def cd_66 : List (Nat × Instr × Nat) := cd_66_0
theorem dk_66 : ∀ e ∈ cd_66, decode prog_4_method_1_code e.1 = .ok e.2 := dk_66_0
def cd_67_0 : List (Nat × Instr × Nat) := [(0, .aload_n 0, 1), (1, .iload_n 1, 1), (2, .putfield 9, 3), (5, .aload_n 0, 1), (6, .iload_n 2, 1), (7, .putfield 15, 3), (10, .aload_n 0, 1), (11, .iload_n 3, 1), (12, .putfield 18, 3), (15, .aload_n 0, 1), (16, .iload 4, 2), (18, .putfield 21, 3), (21, .aload_n 0, 1), (22, .bipush 10, 2), (24, .putfield 24, 3), (27, .aload_n 0, 1), (28, .iconst 0, 1), (29, .putfield 27, 3), (32, .aload_n 0, 1), (33, .iconst 0, 1), (34, .putfield 30, 3), (37, .aload_n 0, 1), (38, .iconst (-1), 1), (39, .putfield 34, 3), (42, .iconst 0, 1), (43, .istore 5, 2), (45, .iload 5, 2), (47, .bipush 9, 2), (49, .if_icmp .ge 44, 3), (52, .aload_n 0, 1), (53, .getfield 37, 3), (56, .iload 5, 2), (58, .aload_n 0, 1), (59, .aload_n 0, 1), (60, .getfield 9, 3), (63, .iload 5, 2), (65, .invokevirtual 44, 3), (68, .iastore, 1), (69, .aload_n 0, 1), (70, .getfield 41, 3), (73, .iload 5, 2), (75, .aload_n 0, 1), (76, .aload_n 0, 1), (77, .getfield 37, 3), (80, .iload 5, 2), (82, .iaload, 1), (83, .invokevirtual 48, 3), (86, .iastore, 1), (87, .iinc 5 1, 3), (90, .goto (-45), 3), (93, .return_, 1)]
theorem dk_67_0 : ∀ e ∈ cd_67_0, decode prog_4_method_2_code e.1 = .ok e.2 := by decide +kernel
def cd_67 : List (Nat × Instr × Nat) := cd_67_0
theorem dk_67 : ∀ e ∈ cd_67, decode prog_4_method_2_code e.1 = .ok e.2 := dk_67_0
def cd_68_0 : List (Nat × Instr × Nat) := [(0, .aload_n 0, 1), (1, .aload_n 1, 1), (2, .getfield 9, 3), (5, .putfield 9, 3), (8, .aload_n 0, 1), (9, .aload_n 1, 1), (10, .getfield 15, 3), (13, .putfield 15, 3), (16, .aload_n 0, 1), (17, .aload_n 1, 1), (18, .getfield 18, 3), (21, .putfield 18, 3), (24, .aload_n 0, 1), (25, .aload_n 1, 1), (26, .getfield 21, 3), (29, .putfield 21, 3), (32, .aload_n 0, 1), (33, .aload_n 1, 1), (34, .getfield 24, 3), (37, .putfield 24, 3), (40, .aload_n 0, 1), (41, .aload_n 1, 1), (42, .getfield 27, 3), (45, .putfield 27, 3), (48, .aload_n 0, 1), (49, .aload_n 1, 1), (50, .getfield 30, 3), (53, .putfield 30, 3), (56, .aload_n 0, 1), (57, .aload_n 1, 1), (58, .getfield 34, 3), (61, .putfield 34, 3), (64, .aload_n 1, 1), (65, .getfield 37, 3), (68, .iconst 0, 1), (69, .aload_n 0, 1), (70, .getfield 37, 3), (73, .iconst 0, 1), (74, .bipush 9, 2), (76, .invokestatic 52, 3), (79, .aload_n 1, 1), (80, .getfield 41, 3), (83, .iconst 0, 1), (84, .aload_n 0, 1), (85, .getfield 41, 3), (88, .iconst 0, 1), (89, .bipush 9, 2), (91, .invokestatic 52, 3), (94, .return_, 1)]
theorem dk_68_0 : ∀ e ∈ cd_68_0, decode prog_4_method_3_code e.1 = .ok e.2 := by decide +kernel
def cd_68 : List (Nat × Instr × Nat) := cd_68_0
theorem dk_68 : ∀ e ∈ cd_68, decode prog_4_method_3_code e.1 = .ok e.2 := dk_68_0
def cd_69_0 : List (Nat × Instr × Nat) := [(0, .aload_n 0, 1), (1, .getfield 30, 3), (4, .ifCond .ne 15, 3), (7, .aload_n 0, 1), (8, .getfield 34, 3), (11, .iconst (-1), 1), (12, .if_icmp .ne 7, 3), (15, .iconst 1, 1), (16, .goto 4, 3), (19, .iconst 0, 1), (20, .ireturn, 1)]
theorem dk_69_0 : ∀ e ∈ cd_69_0, decode prog_4_method_4_code e.1 = .ok e.2 := by decide +kernel
def cd_69 : List (Nat × Instr × Nat) := cd_69_0
theorem dk_69 : ∀ e ∈ cd_69, decode prog_4_method_4_code e.1 = .ok e.2 := dk_69_0
def cd_70_0 : List (Nat × Instr × Nat) := [(0, .aload_n 0, 1), (1, .getfield 9, 3), (4, .istore_n 2, 1), (5, .iconst 0, 1), (6, .istore_n 3, 1), (7, .iload_n 3, 1), (8, .bipush 6, 2), (10, .if_icmp .ge 29, 3), (13, .iload_n 2, 1), (14, .invokestatic 58, 3), (17, .ifCond .eq 22, 3), (20, .iload_n 2, 1), (21, .iload_n 1, 1), (22, .if_icmp .ne 5, 3), (25, .iconst 1, 1), (26, .ireturn, 1), (27, .getstatic 62, 3), (30, .iload_n 2, 1), (31, .iaload, 1), (32, .istore_n 2, 1), (33, .iinc 3 1, 3), (36, .goto (-29), 3), (39, .iconst 0, 1), (40, .ireturn, 1)]
theorem dk_70_0 : ∀ e ∈ cd_70_0, decode prog_4_method_5_code e.1 = .ok e.2 := by decide +kernel
def cd_70 : List (Nat × Instr × Nat) := cd_70_0
theorem dk_70 : ∀ e ∈ cd_70, decode prog_4_method_5_code e.1 = .ok e.2 := dk_70_0
def cd_71_0 : List (Nat × Instr × Nat) := [(0, .bipush 15, 2), (2, .iconst 1, 1), (3, .bipush 8, 2), (5, .iconst 2, 1), (6, .aload_n 0, 1), (7, .getfield 21, 3), (10, .imul, 1), (11, .iload_n 2, 1), (12, .aload_n 0, 1), (13, .getfield 18, 3), (16, .isub, 1), (17, .imul, 1), (18, .iadd, 1), (19, .invokestatic 65, 3), (22, .invokestatic 70, 3), (25, .istore_n 3, 1), (26, .iload_n 1, 1), (27, .tableswitch 73 1 5 #[33, 39, 46, 57, 70], 33), (60, .iconst 4, 1), (61, .iload_n 3, 1), (62, .invokestatic 65, 3), (65, .ireturn, 1), (66, .bipush 12, 2), (68, .iload_n 3, 1), (69, .invokestatic 70, 3), (72, .ireturn, 1), (73, .bipush 12, 2), (75, .iconst 4, 1), (76, .iload_n 3, 1), (77, .invokestatic 65, 3), (80, .invokestatic 70, 3), (83, .ireturn, 1), (84, .iconst 1, 1), (85, .bipush 12, 2), (87, .iload_n 3, 1), (88, .invokestatic 70, 3), (91, .iconst 2, 1), (92, .idiv, 1), (93, .invokestatic 65, 3), (96, .ireturn, 1), (97, .bipush 8, 2), (99, .ireturn, 1), (100, .iload_n 3, 1), (101, .ireturn, 1)]
theorem dk_71_0 : ∀ e ∈ cd_71_0, decode prog_4_method_6_code e.1 = .ok e.2 := by decide +kernel
def cd_71 : List (Nat × Instr × Nat) := cd_71_0
theorem dk_71 : ∀ e ∈ cd_71, decode prog_4_method_6_code e.1 = .ok e.2 := dk_71_0
def cd_72_0 : List (Nat × Instr × Nat) := [(0, .aload_n 0, 1), (1, .getfield 21, 3), (4, .aload_n 0, 1), (5, .getfield 21, 3), (8, .imul, 1), (9, .iload_n 1, 1), (10, .imul, 1), (11, .bipush 16, 2), (13, .iload_n 1, 1), (14, .isub, 1), (15, .imul, 1), (16, .istore_n 2, 1), (17, .aload_n 0, 1), (18, .getfield 9, 3), (21, .tableswitch 62 1 5 #[35, 62, 44, 56, 60], 35), (56, .iconst 0, 1), (57, .iload_n 2, 1), (58, .bipush 40, 2), (60, .isub, 1), (61, .invokestatic 65, 3), (64, .ireturn, 1), (65, .iconst 0, 1), (66, .iload_n 2, 1), (67, .bipush 40, 2), (69, .isub, 1), (70, .invokestatic 65, 3), (73, .bipush 10, 2), (75, .iadd, 1), (76, .ireturn, 1), (77, .iload_n 2, 1), (78, .iconst 2, 1), (79, .idiv, 1), (80, .ireturn, 1), (81, .iconst 0, 1), (82, .ireturn, 1), (83, .iload_n 2, 1), (84, .ireturn, 1)]
theorem dk_72_0 : ∀ e ∈ cd_72_0, decode prog_4_method_7_code e.1 = .ok e.2 := by decide +kernel
def cd_72 : List (Nat × Instr × Nat) := cd_72_0
theorem dk_72 : ∀ e ∈ cd_72, decode prog_4_method_7_code e.1 = .ok e.2 := dk_72_0
def cd_73_0 : List (Nat × Instr × Nat) := [(0, .aload_n 0, 1), (1, .invokespecial 3, 3), (4, .aload_n 0, 1), (5, .iconst (-1), 1), (6, .putfield 9, 3), (9, .aload_n 0, 1), (10, .iconst 0, 1), (11, .putfield 15, 3), (14, .aload_n 0, 1), (15, .bipush 40, 2), (17, .newarray .int, 2), (19, .putfield 18, 3), (22, .return_, 1)]
theorem dk_73_0 : ∀ e ∈ cd_73_0, decode prog_5_method_1_code e.1 = .ok e.2 := by decide +kernel
def cd_73 : List (Nat × Instr × Nat) := cd_73_0
theorem dk_73 : ∀ e ∈ cd_73, decode prog_5_method_1_code e.1 = .ok e.2 := dk_73_0
def cd_74_0 : List (Nat × Instr × Nat) := [(0, .aload_n 0, 1), (1, .getfield 9, 3), (4, .iconst (-1), 1), (5, .if_icmp .ne 7, 3), (8, .iconst 1, 1), (9, .goto 4, 3), (12, .iconst 0, 1), (13, .ireturn, 1)]
theorem dk_74_0 : ∀ e ∈ cd_74_0, decode prog_5_method_2_code e.1 = .ok e.2 := by decide +kernel
def cd_74 : List (Nat × Instr × Nat) := cd_74_0
theorem dk_74 : ∀ e ∈ cd_74, decode prog_5_method_2_code e.1 = .ok e.2 := dk_74_0
def cd_75_0 : List (Nat × Instr × Nat) := [(0, .aload_n 0, 1), (1, .iload_n 1, 1), (2, .putfield 9, 3), (5, .aload_n 0, 1), (6, .iload_n 2, 1), (7, .iconst 0, 1), (8, .bipush 40, 2), (10, .invokestatic 22, 3), (13, .ifCond .eq 7, 3), (16, .iload_n 2, 1), (17, .goto 4, 3), (20, .iconst 0, 1), (21, .putfield 15, 3), (24, .iconst 0, 1), (25, .istore_n 3, 1), (26, .iload_n 3, 1), (27, .bipush 40, 2), (29, .if_icmp .ge 16, 3), (32, .aload_n 0, 1), (33, .getfield 18, 3), (36, .iload_n 3, 1), (37, .iconst 0, 1), (38, .iastore, 1), (39, .iinc 3 1, 3), (42, .goto (-16), 3), (45, .return_, 1)]
theorem dk_75_0 : ∀ e ∈ cd_75_0, decode prog_5_method_3_code e.1 = .ok e.2 := by decide +kernel
def cd_75 : List (Nat × Instr × Nat) := cd_75_0
theorem dk_75 : ∀ e ∈ cd_75, decode prog_5_method_3_code e.1 = .ok e.2 := dk_75_0
def cd_76_0 : List (Nat × Instr × Nat) := [(0, .iload_n 1, 1), (1, .ifCond .lt 29, 3), (4, .iload_n 2, 1), (5, .ifCond .lt 25, 3), (8, .iload_n 2, 1), (9, .aload_n 0, 1), (10, .getfield 15, 3), (13, .if_icmp .gt 17, 3), (16, .iload_n 1, 1), (17, .aload_n 0, 1), (18, .getfield 15, 3), (21, .iload_n 2, 1), (22, .isub, 1), (23, .if_icmp .gt 7, 3), (26, .iconst 1, 1), (27, .goto 4, 3), (30, .iconst 0, 1), (31, .ireturn, 1)]
theorem dk_76_0 : ∀ e ∈ cd_76_0, decode prog_5_method_4_code e.1 = .ok e.2 := by decide +kernel
def cd_76 : List (Nat × Instr × Nat) := cd_76_0
theorem dk_76 : ∀ e ∈ cd_76, decode prog_5_method_4_code e.1 = .ok e.2 := dk_76_0
def cd_77_0 : List (Nat × Instr × Nat) := [(0, .aload_n 0, 1), (1, .iload_n 1, 1), (2, .iconst 1, 1), (3, .invokevirtual 26, 3), (6, .ifCond .eq 22, 3), (9, .aload_n 0, 1), (10, .getfield 18, 3), (13, .iload_n 1, 1), (14, .aload_n 0, 1), (15, .getfield 9, 3), (18, .ifCond .ne 8, 3), (21, .iload_n 2, 1), (22, .i2b, 1), (23, .goto 4, 3), (26, .iload_n 2, 1), (27, .iastore, 1), (28, .return_, 1)]
theorem dk_77_0 : ∀ e ∈ cd_77_0, decode prog_5_method_5_code e.1 = .ok e.2 := by decide +kernel
def cd_77 : List (Nat × Instr × Nat) := cd_77_0
theorem dk_77 : ∀ e ∈ cd_77, decode prog_5_method_5_code e.1 = .ok e.2 := dk_77_0
def cd_78_0 : List (Nat × Instr × Nat) := [(0, .aload_n 0, 1), (1, .invokespecial 3, 3), (4, .aload_n 0, 1), (5, .bipush 9, 2), (7, .newarray .long, 2), (9, .putfield 9, 3), (12, .aload_n 0, 1), (13, .lconst 0, 1), (14, .putfield 15, 3), (17, .aload_n 0, 1), (18, .lconst 0, 1), (19, .putfield 19, 3), (22, .aload_n 0, 1), (23, .lconst 0, 1), (24, .putfield 22, 3), (27, .iconst 0, 1), (28, .istore_n 1, 1), (29, .iload_n 1, 1), (30, .bipush 9, 2), (32, .if_icmp .ge 50, 3), (35, .aload_n 0, 1), (36, .getfield 9, 3), (39, .iload_n 1, 1), (40, .lconst 1, 1), (41, .lastore, 1), (42, .aload_n 0, 1), (43, .dup, 1), (44, .getfield 15, 3), (47, .lconst 1, 1), (48, .ladd, 1), (49, .putfield 15, 3), (52, .aload_n 0, 1), (53, .dup, 1), (54, .getfield 19, 3), (57, .iload_n 1, 1), (58, .i2l, 1), (59, .ladd, 1), (60, .putfield 19, 3), (63, .aload_n 0, 1), (64, .dup, 1), (65, .getfield 22, 3), (68, .iload_n 1, 1), (69, .iload_n 1, 1), (70, .imul, 1), (71, .i2l, 1), (72, .ladd, 1), (73, .putfield 22, 3), (76, .iinc 1 1, 3), (79, .goto (-50), 3), (82, .return_, 1)]
theorem dk_78_0 : ∀ e ∈ cd_78_0, decode prog_6_method_1_code e.1 = .ok e.2 := by decide +kernel
def cd_78 : List (Nat × Instr × Nat) := cd_78_0
theorem dk_78 : ∀ e ∈ cd_78, decode prog_6_method_1_code e.1 = .ok e.2 := dk_78_0
def cd_79_0 : List (Nat × Instr × Nat) := [(0, .aload_n 1, 1), (1, .getfield 9, 3), (4, .iconst 0, 1), (5, .aload_n 0, 1), (6, .getfield 9, 3), (9, .iconst 0, 1), (10, .bipush 9, 2), (12, .invokestatic 25, 3), (15, .aload_n 0, 1), (16, .aload_n 1, 1), (17, .getfield 15, 3), (20, .putfield 15, 3), (23, .aload_n 0, 1), (24, .aload_n 1, 1), (25, .getfield 19, 3), (28, .putfield 19, 3), (31, .aload_n 0, 1), (32, .aload_n 1, 1), (33, .getfield 22, 3), (36, .putfield 22, 3), (39, .return_, 1)]
theorem dk_79_0 : ∀ e ∈ cd_79_0, decode prog_6_method_2_code e.1 = .ok e.2 := by decide +kernel
def cd_79 : List (Nat × Instr × Nat) := cd_79_0
theorem dk_79 : ∀ e ∈ cd_79, decode prog_6_method_2_code e.1 = .ok e.2 := dk_79_0
def cd_80_0 : List (Nat × Instr × Nat) := [(0, .iconst 0, 1), (1, .istore_n 2, 1), (2, .iload_n 2, 1), (3, .bipush 9, 2), (5, .if_icmp .ge 25, 3), (8, .iload_n 2, 1), (9, .aload_n 1, 1), (10, .arraylength, 1), (11, .if_icmp .ge 19, 3), (14, .aload_n 0, 1), (15, .getfield 9, 3), (18, .iload_n 2, 1), (19, .aload_n 1, 1), (20, .iload_n 2, 1), (21, .iaload, 1), (22, .i2l, 1), (23, .lastore, 1), (24, .iinc 2 1, 3), (27, .goto (-25), 3), (30, .aload_n 0, 1), (31, .invokevirtual 31, 3), (34, .return_, 1)]
theorem dk_80_0 : ∀ e ∈ cd_80_0, decode prog_6_method_3_code e.1 = .ok e.2 := by decide +kernel
def cd_80 : List (Nat × Instr × Nat) := cd_80_0
theorem dk_80 : ∀ e ∈ cd_80, decode prog_6_method_3_code e.1 = .ok e.2 := dk_80_0
def cd_81_0 : List (Nat × Instr × Nat) := [(0, .lconst 0, 1), (1, .lstore_n 1, 1), (2, .iconst 0, 1), (3, .istore_n 3, 1), (4, .iload_n 3, 1), (5, .bipush 9, 2), (7, .if_icmp .ge 20, 3), (10, .aload_n 0, 1), (11, .getfield 9, 3), (14, .iload_n 3, 1), (15, .laload, 1), (16, .lload_n 1, 1), (17, .invokestatic 34, 3), (20, .lstore_n 1, 1), (21, .iinc 3 1, 3), (24, .goto (-20), 3), (27, .iconst 0, 1), (28, .istore_n 3, 1), (29, .iload_n 3, 1), (30, .bipush 9, 2), (32, .if_icmp .ge 25, 3), (35, .lload_n 1, 1), (36, .lconst 1, 1), (37, .lcmp, 1), (38, .ifCond .le 19, 3), (41, .aload_n 0, 1), (42, .getfield 9, 3), (45, .iload_n 3, 1), (46, .dup2, 1), (47, .laload, 1), (48, .lload_n 1, 1), (49, .ldiv, 1), (50, .lastore, 1), (51, .iinc 3 1, 3), (54, .goto (-25), 3), (57, .aload_n 0, 1), (58, .invokevirtual 31, 3), (61, .return_, 1)]
theorem dk_81_0 : ∀ e ∈ cd_81_0, decode prog_6_method_4_code e.1 = .ok e.2 := by decide +kernel
def cd_81 : List (Nat × Instr × Nat) := cd_81_0
theorem dk_81 : ∀ e ∈ cd_81, decode prog_6_method_4_code e.1 = .ok e.2 := dk_81_0
def cd_82_0 : List (Nat × Instr × Nat) := [(0, .aload_n 0, 1), (1, .lconst 0, 1), (2, .putfield 15, 3), (5, .aload_n 0, 1), (6, .lconst 0, 1), (7, .putfield 19, 3), (10, .aload_n 0, 1), (11, .lconst 0, 1), (12, .putfield 22, 3), (15, .iconst 0, 1), (16, .istore_n 1, 1), (17, .iload_n 1, 1), (18, .bipush 9, 2), (20, .if_icmp .ge 72, 3), (23, .aload_n 0, 1), (24, .aload_n 0, 1), (25, .getfield 15, 3), (28, .aload_n 0, 1), (29, .getfield 9, 3), (32, .iload_n 1, 1), (33, .laload, 1), (34, .invokestatic 40, 3), (37, .putfield 15, 3), (40, .aload_n 0, 1), (41, .aload_n 0, 1), (42, .getfield 19, 3), (45, .iload_n 1, 1), (46, .i2l, 1), (47, .aload_n 0, 1), (48, .getfield 9, 3), (51, .iload_n 1, 1), (52, .laload, 1), (53, .invokestatic 43, 3), (56, .invokestatic 40, 3), (59, .putfield 19, 3), (62, .aload_n 0, 1), (63, .aload_n 0, 1), (64, .getfield 22, 3), (67, .iload_n 1, 1), (68, .iload_n 1, 1), (69, .imul, 1), (70, .i2l, 1), (71, .aload_n 0, 1), (72, .getfield 9, 3), (75, .iload_n 1, 1), (76, .laload, 1), (77, .invokestatic 43, 3), (80, .invokestatic 40, 3), (83, .putfield 22, 3), (86, .iinc 1 1, 3), (89, .goto (-72), 3), (92, .return_, 1)]
theorem dk_82_0 : ∀ e ∈ cd_82_0, decode prog_6_method_5_code e.1 = .ok e.2 := by decide +kernel
def cd_82 : List (Nat × Instr × Nat) := cd_82_0
theorem dk_82 : ∀ e ∈ cd_82, decode prog_6_method_5_code e.1 = .ok e.2 := dk_82_0
def cd_83_0 : List (Nat × Instr × Nat) := [(0, .iconst 0, 1), (1, .istore_n 3, 1), (2, .iload_n 3, 1), (3, .bipush 9, 2), (5, .if_icmp .ge 62, 3), (8, .aload_n 0, 1), (9, .getfield 9, 3), (12, .iload_n 3, 1), (13, .aload_n 0, 1), (14, .getfield 9, 3), (17, .iload_n 3, 1), (18, .laload, 1), (19, .iload_n 2, 1), (20, .iconst 1, 1), (21, .if_icmp .ne 13, 3), (24, .aload_n 1, 1), (25, .getfield 46, 3), (28, .iload_n 3, 1), (29, .iaload, 1), (30, .i2l, 1), (31, .goto 13, 3), (34, .bipush 16, 2), (36, .aload_n 1, 1), (37, .getfield 46, 3), (40, .iload_n 3, 1), (41, .iaload, 1), (42, .isub, 1), (43, .i2l, 1), (44, .invokestatic 43, 3), (47, .lastore, 1), (48, .aload_n 0, 1), (49, .getfield 9, 3), (52, .iload_n 3, 1), (53, .laload, 1), (54, .lconst 0, 1), (55, .lcmp, 1), (56, .ifCond .ge 5, 3), (59, .iconst 0, 1), (60, .ireturn, 1), (61, .iinc 3 1, 3), (64, .goto (-62), 3), (67, .aload_n 0, 1), (68, .invokevirtual 52, 3), (71, .iconst 1, 1), (72, .ireturn, 1)]
theorem dk_83_0 : ∀ e ∈ cd_83_0, decode prog_6_method_6_code e.1 = .ok e.2 := by decide +kernel
def cd_83 : List (Nat × Instr × Nat) := cd_83_0
theorem dk_83 : ∀ e ∈ cd_83, decode prog_6_method_6_code e.1 = .ok e.2 := dk_83_0
def cd_84_0 : List (Nat × Instr × Nat) := [(0, .aload_n 0, 1), (1, .getfield 19, 3), (4, .aload_n 0, 1), (5, .getfield 15, 3), (8, .iload_n 1, 1), (9, .invokestatic 55, 3), (12, .lreturn, 1)]
theorem dk_84_0 : ∀ e ∈ cd_84_0, decode prog_6_method_7_code e.1 = .ok e.2 := by decide +kernel
def cd_84 : List (Nat × Instr × Nat) := cd_84_0
theorem dk_84 : ∀ e ∈ cd_84, decode prog_6_method_7_code e.1 = .ok e.2 := dk_84_0
def cd_85_0 : List (Nat × Instr × Nat) := [(0, .aload_n 0, 1), (1, .getfield 22, 3), (4, .aload_n 0, 1), (5, .getfield 15, 3), (8, .invokestatic 43, 3), (11, .lstore_n 1, 1), (12, .aload_n 0, 1), (13, .getfield 19, 3), (16, .aload_n 0, 1), (17, .getfield 19, 3), (20, .invokestatic 43, 3), (23, .lstore_n 3, 1), (24, .lload_n 1, 1), (25, .lconst 0, 1), (26, .lcmp, 1), (27, .ifCond .lt 9, 3), (30, .lload_n 3, 1), (31, .lconst 0, 1), (32, .lcmp, 1), (33, .ifCond .ge 9, 3), (36, .ldc2_w 59, 3), (39, .goto 6, 3), (42, .lload_n 1, 1), (43, .lload_n 3, 1), (44, .lsub, 1), (45, .lreturn, 1)]
theorem dk_85_0 : ∀ e ∈ cd_85_0, decode prog_6_method_8_code e.1 = .ok e.2 := by decide +kernel
def cd_85 : List (Nat × Instr × Nat) := cd_85_0
theorem dk_85 : ∀ e ∈ cd_85, decode prog_6_method_8_code e.1 = .ok e.2 := dk_85_0
def cd_86_0 : List (Nat × Instr × Nat) := [(0, .aload_n 0, 1), (1, .getfield 15, 3), (4, .aload_n 0, 1), (5, .getfield 15, 3), (8, .invokestatic 43, 3), (11, .lreturn, 1)]
theorem dk_86_0 : ∀ e ∈ cd_86_0, decode prog_6_method_9_code e.1 = .ok e.2 := by decide +kernel
def cd_86 : List (Nat × Instr × Nat) := cd_86_0
theorem dk_86 : ∀ e ∈ cd_86, decode prog_6_method_9_code e.1 = .ok e.2 := dk_86_0
def cd_87_0 : List (Nat × Instr × Nat) := [(0, .lconst 0, 1), (1, .lstore_n 2, 1), (2, .iconst 0, 1), (3, .istore 4, 2), (5, .iload 4, 2), (7, .bipush 9, 2), (9, .if_icmp .ge 32, 3), (12, .lload_n 2, 1), (13, .aload_n 0, 1), (14, .getfield 9, 3), (17, .iload 4, 2), (19, .laload, 1), (20, .aload_n 1, 1), (21, .getfield 61, 3), (24, .iload 4, 2), (26, .iaload, 1), (27, .i2l, 1), (28, .invokestatic 43, 3), (31, .invokestatic 40, 3), (34, .lstore_n 2, 1), (35, .iinc 4 1, 3), (38, .goto (-33), 3), (41, .lload_n 2, 1), (42, .lreturn, 1)]
theorem dk_87_0 : ∀ e ∈ cd_87_0, decode prog_6_method_10_code e.1 = .ok e.2 := by decide +kernel
def cd_87 : List (Nat × Instr × Nat) := cd_87_0
theorem dk_87 : ∀ e ∈ cd_87, decode prog_6_method_10_code e.1 = .ok e.2 := dk_87_0
def cd_88_0 : List (Nat × Instr × Nat) := [(0, .lconst 0, 1), (1, .lstore_n 2, 1), (2, .iconst 0, 1), (3, .istore 4, 2), (5, .iload 4, 2), (7, .bipush 9, 2), (9, .if_icmp .ge 32, 3), (12, .lload_n 2, 1), (13, .aload_n 0, 1), (14, .getfield 9, 3), (17, .iload 4, 2), (19, .laload, 1), (20, .aload_n 1, 1), (21, .getfield 46, 3), (24, .iload 4, 2), (26, .iaload, 1), (27, .i2l, 1), (28, .invokestatic 43, 3), (31, .invokestatic 40, 3), (34, .lstore_n 2, 1), (35, .iinc 4 1, 3), (38, .goto (-33), 3), (41, .lload_n 2, 1), (42, .lreturn, 1)]
theorem dk_88_0 : ∀ e ∈ cd_88_0, decode prog_6_method_11_code e.1 = .ok e.2 := by decide +kernel
def cd_88 : List (Nat × Instr × Nat) := cd_88_0
theorem dk_88 : ∀ e ∈ cd_88, decode prog_6_method_11_code e.1 = .ok e.2 := dk_88_0
def cd_89_0 : List (Nat × Instr × Nat) := [(0, .iconst 0, 1), (1, .istore_n 1, 1), (2, .iconst 1, 1), (3, .istore_n 2, 1), (4, .iload_n 2, 1), (5, .bipush 9, 2), (7, .if_icmp .ge 27, 3), (10, .aload_n 0, 1), (11, .getfield 9, 3), (14, .iload_n 2, 1), (15, .laload, 1), (16, .aload_n 0, 1), (17, .getfield 9, 3), (20, .iload_n 1, 1), (21, .laload, 1), (22, .lcmp, 1), (23, .ifCond .le 5, 3), (26, .iload_n 2, 1), (27, .istore_n 1, 1), (28, .iinc 2 1, 3), (31, .goto (-27), 3), (34, .iload_n 1, 1), (35, .ireturn, 1)]
theorem dk_89_0 : ∀ e ∈ cd_89_0, decode prog_6_method_12_code e.1 = .ok e.2 := by decide +kernel
def cd_89 : List (Nat × Instr × Nat) := cd_89_0
theorem dk_89 : ∀ e ∈ cd_89, decode prog_6_method_12_code e.1 = .ok e.2 := dk_89_0
def cd_90_0 : List (Nat × Instr × Nat) := [(0, .aload_n 0, 1), (1, .invokespecial 5, 3), (4, .aload_n 0, 1), (5, .bipush 101, 2), (7, .newarray .long, 2), (9, .putfield 11, 3), (12, .aload_n 0, 1), (13, .bipush 101, 2), (15, .newarray .long, 2), (17, .putfield 15, 3), (20, .aload_n 0, 1), (21, .bipush 101, 2), (23, .newarray .long, 2), (25, .putfield 18, 3), (28, .aload_n 0, 1), (29, .bipush 9, 2), (31, .newarray .long, 2), (33, .putfield 21, 3), (36, .aload_n 0, 1), (37, .iconst 4, 1), (38, .newarray .int, 2), (40, .putfield 24, 3), (43, .aload_n 0, 1), (44, .iconst 4, 1), (45, .newarray .int, 2), (47, .putfield 28, 3), (50, .aload_n 0, 1), (51, .sipush 160, 3), (54, .newarray .int, 2), (56, .putfield 31, 3), (59, .iconst 0, 1), (60, .istore_n 1, 1), (61, .iload_n 1, 1), (62, .bipush 9, 2), (64, .if_icmp .ge 18, 3), (67, .aload_n 0, 1), (68, .getfield 11, 3), (71, .iconst 0, 1), (72, .iload_n 1, 1), (73, .iadd, 1), (74, .lconst 1, 1), (75, .lastore, 1), (76, .iinc 1 1, 3), (79, .goto (-18), 3), (82, .iconst 0, 1), (83, .istore_n 1, 1), (84, .iload_n 1, 1), (85, .iconst 3, 1), (86, .if_icmp .ge 21, 3), (89, .aload_n 0, 1), (90, .getfield 11, 3), (93, .bipush 21, 2), (95, .iload_n 1, 1), (96, .iadd, 1), (97, .ldc2_w 34, 3), (100, .lastore, 1), (101, .iinc 1 1, 3), (104, .goto (-20), 3), (107, .aload_n 0, 1), (108, .getfield 11, 3)]
theorem dk_90_0 : ∀ e ∈ cd_90_0, decode prog_8_method_1_code e.1 = .ok e.2 := by decide +kernel
def cd_90_1 : List (Nat × Instr × Nat) := [(111, .bipush 30, 2), (113, .ldc2_w 36, 3), (116, .lastore, 1), (117, .iconst 0, 1), (118, .istore_n 1, 1), (119, .iload_n 1, 1), (120, .iconst 4, 1), (121, .if_icmp .ge 16, 3), (124, .aload_n 0, 1), (125, .getfield 24, 3), (128, .iload_n 1, 1), (129, .iconst (-1), 1), (130, .iastore, 1), (131, .iinc 1 1, 3), (134, .goto (-15), 3), (137, .return_, 1)]
theorem dk_90_1 : ∀ e ∈ cd_90_1, decode prog_8_method_1_code e.1 = .ok e.2 := by decide +kernel
def cd_90 : List (Nat × Instr × Nat) := cd_90_0 ++ cd_90_1
theorem dk_90 : ∀ e ∈ cd_90, decode prog_8_method_1_code e.1 = .ok e.2 := dk_app dk_90_0 dk_90_1
def cd_91_0 : List (Nat × Instr × Nat) := [(0, .lload_n 0, 1), (1, .lload_n 2, 1), (2, .lcmp, 1), (3, .ifCond .lt 14, 3), (6, .lload_n 0, 1), (7, .lload 4, 2), (9, .lcmp, 1), (10, .ifCond .gt 7, 3), (13, .iconst 1, 1), (14, .goto 4, 3), (17, .iconst 0, 1), (18, .ireturn, 1)]
theorem dk_91_0 : ∀ e ∈ cd_91_0, decode prog_8_method_2_code e.1 = .ok e.2 := by decide +kernel
def cd_91 : List (Nat × Instr × Nat) := cd_91_0
theorem dk_91 : ∀ e ∈ cd_91, decode prog_8_method_2_code e.1 = .ok e.2 := dk_91_0
def cd_92_0 : List (Nat × Instr × Nat) := [(0, .iconst 0, 1), (1, .istore_n 2, 1), (2, .iload_n 2, 1), (3, .bipush 101, 2), (5, .if_icmp .ge 15, 3), (8, .aload_n 1, 1), (9, .iload_n 2, 1), (10, .aload_n 0, 1), (11, .iload_n 2, 1), (12, .laload, 1), (13, .lastore, 1), (14, .iinc 2 1, 3), (17, .goto (-15), 3), (20, .return_, 1)]
theorem dk_92_0 : ∀ e ∈ cd_92_0, decode prog_8_method_3_code e.1 = .ok e.2 := by decide +kernel
def cd_92 : List (Nat × Instr × Nat) := cd_92_0
theorem dk_92 : ∀ e ∈ cd_92, decode prog_8_method_3_code e.1 = .ok e.2 := dk_92_0
def cd_93_0 : List (Nat × Instr × Nat) := [(0, .aload_n 0, 1), (1, .getfield 11, 3), (4, .iload_n 1, 1), (5, .laload, 1), (6, .l2i, 1), (7, .ireturn, 1)]
theorem dk_93_0 : ∀ e ∈ cd_93_0, decode prog_8_method_4_code e.1 = .ok e.2 := by decide +kernel
def cd_93 : List (Nat × Instr × Nat) := cd_93_0
theorem dk_93 : ∀ e ∈ cd_93, decode prog_8_method_4_code e.1 = .ok e.2 := dk_93_0
def cd_94_0 : List (Nat × Instr × Nat) := [(0, .aload_n 0, 1), (1, .getfield 11, 3), (4, .bipush 37, 2), (6, .bipush 6, 2), (8, .iload_n 1, 1), (9, .imul, 1), (10, .iadd, 1), (11, .iload_n 2, 1), (12, .iadd, 1), (13, .laload, 1), (14, .l2i, 1), (15, .ireturn, 1)]
theorem dk_94_0 : ∀ e ∈ cd_94_0, decode prog_8_method_5_code e.1 = .ok e.2 := by decide +kernel
def cd_94 : List (Nat × Instr × Nat) := cd_94_0
theorem dk_94 : ∀ e ∈ cd_94, decode prog_8_method_5_code e.1 = .ok e.2 := dk_94_0
def cd_95_0 : List (Nat × Instr × Nat) := [(0, .iload_n 1, 1), (1, .i2l, 1), (2, .lconst 0, 1), (3, .aload_n 0, 1), (4, .getfield 11, 3), (7, .bipush 29, 2), (9, .laload, 1), (10, .lconst 1, 1), (11, .lsub, 1), (12, .invokestatic 38, 3), (15, .ireturn, 1)]
theorem dk_95_0 : ∀ e ∈ cd_95_0, decode prog_8_method_6_code e.1 = .ok e.2 := by decide +kernel
def cd_95 : List (Nat × Instr × Nat) := cd_95_0
theorem dk_95 : ∀ e ∈ cd_95, decode prog_8_method_6_code e.1 = .ok e.2 := dk_95_0
def cd_96_0 : List (Nat × Instr × Nat) := [(0, .iload_n 0, 1), (1, .i2l, 1), (2, .lconst 0, 1), (3, .ldc2_w 34, 3), (6, .invokestatic 38, 3), (9, .ireturn, 1)]
theorem dk_96_0 : ∀ e ∈ cd_96_0, decode prog_8_method_7_code e.1 = .ok e.2 := by decide +kernel
def cd_96 : List (Nat × Instr × Nat) := cd_96_0
theorem dk_96 : ∀ e ∈ cd_96, decode prog_8_method_7_code e.1 = .ok e.2 := dk_96_0
def cd_97_0 : List (Nat × Instr × Nat) := [(0, .iload_n 0, 1), (1, .i2l, 1), (2, .lconst 0, 1), (3, .ldc2_w 42, 3), (6, .invokestatic 38, 3), (9, .ireturn, 1)]
theorem dk_97_0 : ∀ e ∈ cd_97_0, decode prog_8_method_8_code e.1 = .ok e.2 := by decide +kernel
def cd_97 : List (Nat × Instr × Nat) := cd_97_0
theorem dk_97 : ∀ e ∈ cd_97, decode prog_8_method_8_code e.1 = .ok e.2 := dk_97_0
def cd_98_0 : List (Nat × Instr × Nat) := [(0, .aload_n 0, 1), (1, .getfield 11, 3), (4, .bipush 34, 2), (6, .laload, 1), (7, .lconst 1, 1), (8, .lcmp, 1), (9, .ifCond .ne 7, 3), (12, .iconst 1, 1), (13, .goto 4, 3), (16, .iconst 0, 1), (17, .ireturn, 1)]
theorem dk_98_0 : ∀ e ∈ cd_98_0, decode prog_8_method_9_code e.1 = .ok e.2 := by decide +kernel
def cd_98 : List (Nat × Instr × Nat) := cd_98_0
theorem dk_98 : ∀ e ∈ cd_98, decode prog_8_method_9_code e.1 = .ok e.2 := dk_98_0
def cd_99_0 : List (Nat × Instr × Nat) := [(0, .lload_n 0, 1), (1, .iload_n 2, 1), (2, .lshr, 1), (3, .lconst 1, 1), (4, .land, 1), (5, .lconst 1, 1), (6, .lcmp, 1), (7, .ifCond .ne 7, 3), (10, .iconst 1, 1), (11, .goto 4, 3), (14, .iconst 0, 1), (15, .ireturn, 1)]
theorem dk_99_0 : ∀ e ∈ cd_99_0, decode prog_8_method_10_code e.1 = .ok e.2 := by decide +kernel
def cd_99 : List (Nat × Instr × Nat) := cd_99_0
theorem dk_99 : ∀ e ∈ cd_99, decode prog_8_method_10_code e.1 = .ok e.2 := dk_99_0
def cd_100_0 : List (Nat × Instr × Nat) := [(0, .iconst 0, 1), (1, .istore_n 1, 1), (2, .iload_n 0, 1), (3, .istore_n 2, 1), (4, .iload_n 2, 1), (5, .ifCond .eq 15, 3), (8, .iinc 1 1, 3), (11, .iload_n 2, 1), (12, .iload_n 2, 1), (13, .iconst 1, 1), (14, .isub, 1), (15, .iand, 1), (16, .istore_n 2, 1), (17, .goto (-13), 3), (20, .iload_n 1, 1), (21, .ireturn, 1)]
theorem dk_100_0 : ∀ e ∈ cd_100_0, decode prog_8_method_11_code e.1 = .ok e.2 := by decide +kernel
def cd_100 : List (Nat × Instr × Nat) := cd_100_0
theorem dk_100 : ∀ e ∈ cd_100, decode prog_8_method_11_code e.1 = .ok e.2 := dk_100_0
def cd_101_0 : List (Nat × Instr × Nat) := [(0, .iload_n 1, 1), (1, .invokestatic 44, 3), (4, .ifCond .eq 15, 3), (7, .iload_n 2, 1), (8, .i2l, 1), (9, .lconst 0, 1), (10, .ldc2_w 48, 3), (13, .invokestatic 38, 3), (16, .ifCond .ne 6, 3), (19, .bipush (-2), 2), (21, .ireturn, 1), (22, .lconst 0, 1), (23, .lstore_n 3, 1), (24, .iconst 0, 1), (25, .istore 5, 2), (27, .iload 5, 2), (29, .bipush 9, 2), (31, .if_icmp .ge 31, 3), (34, .lload_n 3, 1), (35, .iload 5, 2), (37, .iload_n 1, 1), (38, .if_icmp .ne 7, 3), (41, .lconst 0, 1), (42, .goto 12, 3), (45, .aload_n 0, 1), (46, .getfield 11, 3), (49, .iconst 0, 1), (50, .iload 5, 2), (52, .iadd, 1), (53, .laload, 1), (54, .ladd, 1), (55, .lstore_n 3, 1), (56, .iinc 5 1, 3), (59, .goto (-32), 3), (62, .iload_n 2, 1), (63, .ifCond .ne 12, 3), (66, .lload_n 3, 1), (67, .lconst 0, 1), (68, .lcmp, 1), (69, .ifCond .ne 6, 3), (72, .bipush (-3), 2), (74, .ireturn, 1), (75, .aload_n 0, 1), (76, .iconst 0, 1), (77, .iload_n 1, 1), (78, .iadd, 1), (79, .invokevirtual 50, 3), (82, .istore 5, 2), (84, .aload_n 0, 1), (85, .getfield 11, 3), (88, .iconst 0, 1), (89, .iload_n 1, 1), (90, .iadd, 1), (91, .iload_n 2, 1), (92, .i2l, 1), (93, .lastore, 1), (94, .iload 5, 2), (96, .ireturn, 1)]
theorem dk_101_0 : ∀ e ∈ cd_101_0, decode prog_8_method_12_code e.1 = .ok e.2 := by decide +kernel
def cd_101 : List (Nat × Instr × Nat) := cd_101_0
theorem dk_101 : ∀ e ∈ cd_101, decode prog_8_method_12_code e.1 = .ok e.2 := dk_101_0
def cd_102_0 : List (Nat × Instr × Nat) := [(0, .iload_n 1, 1), (1, .invokestatic 54, 3), (4, .ifCond .eq 28, 3), (7, .iload_n 2, 1), (8, .i2l, 1), (9, .lconst 0, 1), (10, .ldc2_w 34, 3), (13, .invokestatic 38, 3), (16, .ifCond .eq 16, 3), (19, .iload_n 3, 1), (20, .i2l, 1), (21, .iload_n 2, 1), (22, .i2l, 1), (23, .ldc2_w 34, 3), (26, .invokestatic 38, 3), (29, .ifCond .ne 6, 3), (32, .bipush (-2), 2), (34, .ireturn, 1), (35, .bipush 10, 2), (37, .aload_n 0, 1), (38, .bipush 18, 2), (40, .iload_n 1, 1), (41, .iadd, 1), (42, .invokevirtual 50, 3), (45, .imul, 1), (46, .aload_n 0, 1), (47, .bipush 21, 2), (49, .iload_n 1, 1), (50, .iadd, 1), (51, .invokevirtual 50, 3), (54, .iadd, 1), (55, .istore 4, 2), (57, .aload_n 0, 1), (58, .getfield 11, 3), (61, .bipush 18, 2), (63, .iload_n 1, 1), (64, .iadd, 1), (65, .iload_n 2, 1), (66, .i2l, 1), (67, .lastore, 1), (68, .aload_n 0, 1), (69, .getfield 11, 3), (72, .bipush 21, 2), (74, .iload_n 1, 1), (75, .iadd, 1), (76, .iload_n 3, 1), (77, .i2l, 1), (78, .lastore, 1), (79, .iload 4, 2), (81, .ireturn, 1)]
theorem dk_102_0 : ∀ e ∈ cd_102_0, decode prog_8_method_13_code e.1 = .ok e.2 := by decide +kernel
def cd_102 : List (Nat × Instr × Nat) := cd_102_0
theorem dk_102 : ∀ e ∈ cd_102, decode prog_8_method_13_code e.1 = .ok e.2 := dk_102_0
def cd_103_0 : List (Nat × Instr × Nat) := [(0, .lload_n 0, 1), (1, .lconst 0, 1), (2, .ldc2_w 57, 3), (5, .invokestatic 38, 3), (8, .ifCond .eq 42, 3), (11, .lload_n 2, 1), (12, .lconst 0, 1), (13, .ldc2_w 42, 3), (16, .invokestatic 38, 3), (19, .ifCond .eq 31, 3), (22, .lload 4, 2), (24, .lconst 0, 1), (25, .ldc2_w 34, 3), (28, .invokestatic 38, 3), (31, .ifCond .eq 19, 3), (34, .lload 6, 2), (36, .lconst 1, 1), (37, .ldc2_w 59, 3), (40, .invokestatic 38, 3), (43, .ifCond .eq 7, 3), (46, .iconst 1, 1), (47, .goto 4, 3), (50, .iconst 0, 1), (51, .ireturn, 1)]
theorem dk_103_0 : ∀ e ∈ cd_103_0, decode prog_8_method_14_code e.1 = .ok e.2 := by decide +kernel
def cd_103 : List (Nat × Instr × Nat) := cd_103_0
theorem dk_103 : ∀ e ∈ cd_103, decode prog_8_method_14_code e.1 = .ok e.2 := dk_103_0
def cd_104_0 : List (Nat × Instr × Nat) := [(0, .aload_n 0, 1), (1, .bipush 29, 2), (3, .invokevirtual 50, 3), (6, .istore 5, 2), (8, .bipush 37, 2), (10, .bipush 6, 2), (12, .iload 5, 2), (14, .imul, 1), (15, .iadd, 1), (16, .istore 6, 2), (18, .aload_n 0, 1), (19, .getfield 11, 3), (22, .iload 6, 2), (24, .iconst 0, 1), (25, .iadd, 1), (26, .iload_n 1, 1), (27, .i2l, 1), (28, .lastore, 1), (29, .aload_n 0, 1), (30, .getfield 11, 3), (33, .iload 6, 2), (35, .iconst 1, 1), (36, .iadd, 1), (37, .iload_n 2, 1), (38, .i2l, 1), (39, .lastore, 1), (40, .aload_n 0, 1), (41, .getfield 11, 3), (44, .iload 6, 2), (46, .iconst 2, 1), (47, .iadd, 1), (48, .iload_n 3, 1), (49, .i2l, 1), (50, .lastore, 1), (51, .aload_n 0, 1), (52, .getfield 11, 3), (55, .iload 6, 2), (57, .iconst 3, 1), (58, .iadd, 1), (59, .iload 4, 2), (61, .i2l, 1), (62, .lastore, 1), (63, .aload_n 0, 1), (64, .getfield 11, 3), (67, .iload 6, 2), (69, .iconst 4, 1), (70, .iadd, 1), (71, .ldc2_w 61, 3), (74, .lastore, 1), (75, .aload_n 0, 1), (76, .getfield 11, 3), (79, .iload 6, 2), (81, .iconst 5, 1), (82, .iadd, 1), (83, .lconst 0, 1), (84, .lastore, 1), (85, .aload_n 0, 1), (86, .getfield 11, 3), (89, .bipush 29, 2), (91, .dup2, 1)]
theorem dk_104_0 : ∀ e ∈ cd_104_0, decode prog_8_method_15_code e.1 = .ok e.2 := by decide +kernel
def cd_104_1 : List (Nat × Instr × Nat) := [(92, .laload, 1), (93, .lconst 1, 1), (94, .ladd, 1), (95, .lastore, 1), (96, .aload_n 0, 1), (97, .invokevirtual 63, 3), (100, .ifCond .eq 17, 3), (103, .aload_n 0, 1), (104, .getfield 11, 3), (107, .bipush 35, 2), (109, .dup2, 1), (110, .laload, 1), (111, .lconst 1, 1), (112, .iload 5, 2), (114, .lshl, 1), (115, .lor, 1), (116, .lastore, 1), (117, .iload 5, 2), (119, .ireturn, 1)]
theorem dk_104_1 : ∀ e ∈ cd_104_1, decode prog_8_method_15_code e.1 = .ok e.2 := by decide +kernel
def cd_104 : List (Nat × Instr × Nat) := cd_104_0 ++ cd_104_1
theorem dk_104 : ∀ e ∈ cd_104, decode prog_8_method_15_code e.1 = .ok e.2 := dk_app dk_104_0 dk_104_1
def cd_105_0 : List (Nat × Instr × Nat) := [(0, .iload_n 1, 1), (1, .i2l, 1), (2, .iload_n 2, 1), (3, .i2l, 1), (4, .iload_n 3, 1), (5, .i2l, 1), (6, .iload 4, 2), (8, .i2l, 1), (9, .invokestatic 67, 3), (12, .ifCond .ne 6, 3), (15, .bipush (-2), 2), (17, .ireturn, 1), (18, .aload_n 0, 1), (19, .getfield 11, 3), (22, .bipush 29, 2), (24, .laload, 1), (25, .ldc2_w 34, 3), (28, .lcmp, 1), (29, .ifCond .ne 8, 3), (32, .bipush (-4), 2), (34, .goto 12, 3), (37, .aload_n 0, 1), (38, .iload_n 1, 1), (39, .iload_n 2, 1), (40, .iload_n 3, 1), (41, .iload 4, 2), (43, .invokevirtual 71, 3), (46, .ireturn, 1)]
theorem dk_105_0 : ∀ e ∈ cd_105_0, decode prog_8_method_16_code e.1 = .ok e.2 := by decide +kernel
def cd_105 : List (Nat × Instr × Nat) := cd_105_0
theorem dk_105 : ∀ e ∈ cd_105, decode prog_8_method_16_code e.1 = .ok e.2 := dk_105_0
def cd_106_0 : List (Nat × Instr × Nat) := [(0, .aload_n 0, 1), (1, .iload_n 1, 1), (2, .invokevirtual 75, 3), (5, .ifCond .eq 15, 3), (8, .iload_n 2, 1), (9, .i2l, 1), (10, .lconst 0, 1), (11, .ldc2_w 61, 3), (14, .invokestatic 38, 3), (17, .ifCond .ne 6, 3), (20, .bipush (-2), 2), (22, .ireturn, 1), (23, .aload_n 0, 1), (24, .iload_n 1, 1), (25, .iconst 4, 1), (26, .invokevirtual 78, 3), (29, .istore_n 3, 1), (30, .aload_n 0, 1), (31, .getfield 11, 3), (34, .bipush 37, 2), (36, .bipush 6, 2), (38, .iload_n 1, 1), (39, .imul, 1), (40, .iadd, 1), (41, .iconst 4, 1), (42, .iadd, 1), (43, .iload_n 2, 1), (44, .i2l, 1), (45, .lastore, 1), (46, .iload_n 3, 1), (47, .ireturn, 1)]
theorem dk_106_0 : ∀ e ∈ cd_106_0, decode prog_8_method_17_code e.1 = .ok e.2 := by decide +kernel
def cd_106 : List (Nat × Instr × Nat) := cd_106_0
theorem dk_106 : ∀ e ∈ cd_106, decode prog_8_method_17_code e.1 = .ok e.2 := dk_106_0
def cd_107_0 : List (Nat × Instr × Nat) := [(0, .iload_n 0, 1), (1, .ifCond .ne 15, 3), (4, .iload_n 1, 1), (5, .i2l, 1), (6, .lconst 1, 1), (7, .ldc2_w 34, 3), (10, .invokestatic 38, 3), (13, .goto 51, 3), (16, .iload_n 0, 1), (17, .iconst 1, 1), (18, .if_icmp .ne 15, 3), (21, .iload_n 1, 1), (22, .i2l, 1), (23, .lconst 0, 1), (24, .ldc2_w 82, 3), (27, .invokestatic 38, 3), (30, .goto 34, 3), (33, .iload_n 0, 1), (34, .i2l, 1), (35, .ldc2_w 61, 3), (38, .ldc2_w 84, 3), (41, .invokestatic 38, 3), (44, .ifCond .eq 19, 3), (47, .iload_n 1, 1), (48, .i2l, 1), (49, .lconst 0, 1), (50, .ldc2_w 86, 3), (53, .invokestatic 38, 3), (56, .ifCond .eq 7, 3), (59, .iconst 1, 1), (60, .goto 4, 3), (63, .iconst 0, 1), (64, .ireturn, 1)]
theorem dk_107_0 : ∀ e ∈ cd_107_0, decode prog_8_method_18_code e.1 = .ok e.2 := by decide +kernel
def cd_107 : List (Nat × Instr × Nat) := cd_107_0
theorem dk_107 : ∀ e ∈ cd_107, decode prog_8_method_18_code e.1 = .ok e.2 := dk_107_0
def cd_108_0 : List (Nat × Instr × Nat) := [(0, .iload_n 1, 1), (1, .iload_n 2, 1), (2, .invokestatic 88, 3), (5, .ifCond .ne 6, 3), (8, .bipush (-2), 2), (10, .ireturn, 1), (11, .iload_n 1, 1), (12, .ifCond .ne 8, 3), (15, .bipush 30, 2), (17, .goto 20, 3), (20, .iload_n 1, 1), (21, .iconst 1, 1), (22, .if_icmp .ne 8, 3), (25, .bipush 31, 2), (27, .goto 10, 3), (30, .bipush 24, 2), (32, .iload_n 1, 1), (33, .iadd, 1), (34, .bipush 10, 2), (36, .isub, 1), (37, .istore_n 3, 1), (38, .aload_n 0, 1), (39, .iload_n 3, 1), (40, .invokevirtual 50, 3), (43, .istore 4, 2), (45, .aload_n 0, 1), (46, .getfield 11, 3), (49, .iload_n 3, 1), (50, .iload_n 2, 1), (51, .i2l, 1), (52, .lastore, 1), (53, .iload 4, 2), (55, .ireturn, 1)]
theorem dk_108_0 : ∀ e ∈ cd_108_0, decode prog_8_method_19_code e.1 = .ok e.2 := by decide +kernel
def cd_108 : List (Nat × Instr × Nat) := cd_108_0
theorem dk_108 : ∀ e ∈ cd_108, decode prog_8_method_19_code e.1 = .ok e.2 := dk_108_0
def cd_109_0 : List (Nat × Instr × Nat) := [(0, .iload_n 1, 1), (1, .i2l, 1), (2, .lconst 0, 1), (3, .ldc2_w 92, 3), (6, .invokestatic 38, 3), (9, .ifCond .ne 6, 3), (12, .bipush (-2), 2), (14, .ireturn, 1), (15, .aload_n 0, 1), (16, .bipush 32, 2), (18, .invokevirtual 50, 3), (21, .istore_n 2, 1), (22, .aload_n 0, 1), (23, .getfield 11, 3), (26, .bipush 32, 2), (28, .iload_n 1, 1), (29, .i2l, 1), (30, .lastore, 1), (31, .iload_n 2, 1), (32, .ireturn, 1)]
theorem dk_109_0 : ∀ e ∈ cd_109_0, decode prog_8_method_20_code e.1 = .ok e.2 := by decide +kernel
def cd_109 : List (Nat × Instr × Nat) := cd_109_0
theorem dk_109 : ∀ e ∈ cd_109, decode prog_8_method_20_code e.1 = .ok e.2 := dk_109_0
def cd_110_0 : List (Nat × Instr × Nat) := [(0, .iload_n 1, 1), (1, .iload_n 2, 1), (2, .iload_n 0, 1), (3, .invokestatic 94, 3), (6, .invokestatic 99, 3), (9, .ireturn, 1)]
theorem dk_110_0 : ∀ e ∈ cd_110_0, decode prog_8_method_21_code e.1 = .ok e.2 := by decide +kernel
def cd_110 : List (Nat × Instr × Nat) := cd_110_0
theorem dk_110 : ∀ e ∈ cd_110, decode prog_8_method_21_code e.1 = .ok e.2 := dk_110_0
def cd_111_0 : List (Nat × Instr × Nat) := [(0, .bipush 8, 2), (2, .iconst 2, 1), (3, .iload_n 2, 1), (4, .imul, 1), (5, .iload_n 3, 1), (6, .iload_n 1, 1), (7, .isub, 1), (8, .imul, 1), (9, .iadd, 1), (10, .iconst 1, 1), (11, .bipush 15, 2), (13, .invokestatic 102, 3), (16, .istore 4, 2), (18, .iload_n 0, 1), (19, .tableswitch 74 1 5 #[33, 40, 48, 57, 71], 33), (52, .iconst 4, 1), (53, .iload 4, 2), (55, .invokestatic 99, 3), (58, .ireturn, 1), (59, .bipush 12, 2), (61, .iload 4, 2), (63, .invokestatic 94, 3), (66, .ireturn, 1), (67, .iload 4, 2), (69, .iconst 4, 1), (70, .bipush 12, 2), (72, .invokestatic 102, 3), (75, .ireturn, 1), (76, .iconst 1, 1), (77, .bipush 12, 2), (79, .iload 4, 2), (81, .invokestatic 94, 3), (84, .iconst 2, 1), (85, .idiv, 1), (86, .invokestatic 99, 3), (89, .ireturn, 1), (90, .bipush 8, 2), (92, .ireturn, 1), (93, .iload 4, 2), (95, .ireturn, 1)]
theorem dk_111_0 : ∀ e ∈ cd_111_0, decode prog_8_method_22_code e.1 = .ok e.2 := by decide +kernel
def cd_111 : List (Nat × Instr × Nat) := cd_111_0
theorem dk_111 : ∀ e ∈ cd_111, decode prog_8_method_22_code e.1 = .ok e.2 := dk_111_0
def cd_112_0 : List (Nat × Instr × Nat) := [(0, .aload_n 0, 1), (1, .iload_n 1, 1), (2, .iconst 0, 1), (3, .invokevirtual 78, 3), (6, .aload_n 0, 1), (7, .iload_n 1, 1), (8, .iconst 2, 1), (9, .invokevirtual 78, 3), (12, .aload_n 0, 1), (13, .iload_n 1, 1), (14, .iconst 3, 1), (15, .invokevirtual 78, 3), (18, .iload_n 2, 1), (19, .invokestatic 106, 3), (22, .ireturn, 1)]
theorem dk_112_0 : ∀ e ∈ cd_112_0, decode prog_8_method_23_code e.1 = .ok e.2 := by decide +kernel
def cd_112 : List (Nat × Instr × Nat) := cd_112_0
theorem dk_112 : ∀ e ∈ cd_112, decode prog_8_method_23_code e.1 = .ok e.2 := dk_112_0
def cd_113_0 : List (Nat × Instr × Nat) := [(0, .aload_n 0, 1), (1, .iload_n 1, 1), (2, .iload_n 2, 1), (3, .invokevirtual 109, 3), (6, .istore_n 3, 1), (7, .aload_n 0, 1), (8, .iload_n 1, 1), (9, .iconst 3, 1), (10, .invokevirtual 78, 3), (13, .aload_n 0, 1), (14, .iload_n 1, 1), (15, .iconst 3, 1), (16, .invokevirtual 78, 3), (19, .imul, 1), (20, .iload_n 3, 1), (21, .imul, 1), (22, .bipush 16, 2), (24, .iload_n 3, 1), (25, .isub, 1), (26, .imul, 1), (27, .istore 4, 2), (29, .aload_n 0, 1), (30, .iload_n 1, 1), (31, .iconst 0, 1), (32, .invokevirtual 78, 3), (35, .tableswitch 63 1 5 #[33, 63, 43, 56, 61], 33), (68, .iconst 0, 1), (69, .iload 4, 2), (71, .bipush 40, 2), (73, .isub, 1), (74, .invokestatic 99, 3), (77, .ireturn, 1), (78, .iconst 0, 1), (79, .iload 4, 2), (81, .bipush 40, 2), (83, .isub, 1), (84, .invokestatic 99, 3), (87, .bipush 10, 2), (89, .iadd, 1), (90, .ireturn, 1), (91, .iload 4, 2), (93, .iconst 2, 1), (94, .idiv, 1), (95, .ireturn, 1), (96, .iconst 0, 1), (97, .ireturn, 1), (98, .iload 4, 2), (100, .ireturn, 1)]
theorem dk_113_0 : ∀ e ∈ cd_113_0, decode prog_8_method_24_code e.1 = .ok e.2 := by decide +kernel
def cd_113 : List (Nat × Instr × Nat) := cd_113_0
theorem dk_113 : ∀ e ∈ cd_113, decode prog_8_method_24_code e.1 = .ok e.2 := dk_113_0
def cd_114_0 : List (Nat × Instr × Nat) := [(0, .aload_n 0, 1), (1, .iload_n 1, 1), (2, .invokevirtual 75, 3), (5, .ifCond .eq 20, 3), (8, .iload_n 2, 1), (9, .invokestatic 44, 3), (12, .ifCond .eq 13, 3), (15, .iload_n 3, 1), (16, .i2l, 1), (17, .lconst 0, 1), (18, .lconst 1, 1), (19, .invokestatic 38, 3), (22, .ifCond .ne 6, 3), (25, .bipush (-2), 2), (27, .ireturn, 1), (28, .iload_n 3, 1), (29, .ifCond .ne 12, 3), (32, .aload_n 0, 1), (33, .iload_n 1, 1), (34, .iload_n 2, 1), (35, .invokevirtual 109, 3), (38, .goto 9, 3), (41, .aload_n 0, 1), (42, .iload_n 1, 1), (43, .iload_n 2, 1), (44, .invokevirtual 112, 3), (47, .ireturn, 1)]
theorem dk_114_0 : ∀ e ∈ cd_114_0, decode prog_8_method_25_code e.1 = .ok e.2 := by decide +kernel
def cd_114 : List (Nat × Instr × Nat) := cd_114_0
theorem dk_114 : ∀ e ∈ cd_114, decode prog_8_method_25_code e.1 = .ok e.2 := dk_114_0
def cd_115_0 : List (Nat × Instr × Nat) := [(0, .iload_n 0, 1), (1, .iconst 3, 1), (2, .if_icmp .ne 7, 3), (5, .iconst 1, 1), (6, .goto 21, 3), (9, .iload_n 0, 1), (10, .iconst 4, 1), (11, .if_icmp .ne 7, 3), (14, .iconst 2, 1), (15, .goto 12, 3), (18, .iload_n 0, 1), (19, .ifCond .ne 7, 3), (22, .iconst (-1), 1), (23, .goto 4, 3), (26, .iconst 0, 1), (27, .ireturn, 1)]
theorem dk_115_0 : ∀ e ∈ cd_115_0, decode prog_8_method_26_code e.1 = .ok e.2 := by decide +kernel
def cd_115 : List (Nat × Instr × Nat) := cd_115_0
theorem dk_115 : ∀ e ∈ cd_115, decode prog_8_method_26_code e.1 = .ok e.2 := dk_115_0
def cd_116_0 : List (Nat × Instr × Nat) := [(0, .aload_n 0, 1), (1, .iload_n 1, 1), (2, .invokevirtual 75, 3), (5, .ifCond .eq 15, 3), (8, .iload_n 2, 1), (9, .i2l, 1), (10, .lconst 0, 1), (11, .ldc2_w 57, 3), (14, .invokestatic 38, 3), (17, .ifCond .ne 6, 3), (20, .bipush (-2), 2), (22, .ireturn, 1), (23, .aload_n 0, 1), (24, .iload_n 1, 1), (25, .iconst 0, 1), (26, .invokevirtual 78, 3), (29, .istore_n 3, 1), (30, .iload_n 3, 1), (31, .iload_n 2, 1), (32, .if_icmp .eq 16, 3), (35, .iload_n 3, 1), (36, .iconst (-1), 1), (37, .if_icmp .eq 11, 3), (40, .iload_n 3, 1), (41, .invokestatic 115, 3), (44, .istore_n 3, 1), (45, .goto (-15), 3), (48, .iload_n 3, 1), (49, .iload_n 2, 1), (50, .if_icmp .ne 12, 3), (53, .aload_n 0, 1), (54, .iload_n 1, 1), (55, .iconst 2, 1), (56, .invokevirtual 78, 3), (59, .goto 5, 3), (62, .bipush (-13), 2), (64, .ireturn, 1)]
theorem dk_116_0 : ∀ e ∈ cd_116_0, decode prog_8_method_27_code e.1 = .ok e.2 := by decide +kernel
def cd_116 : List (Nat × Instr × Nat) := cd_116_0
theorem dk_116 : ∀ e ∈ cd_116, decode prog_8_method_27_code e.1 = .ok e.2 := dk_116_0
def cd_117_0 : List (Nat × Instr × Nat) := [(0, .aload_n 0, 1), (1, .bipush 36, 2), (3, .invokevirtual 50, 3), (6, .ireturn, 1)]
theorem dk_117_0 : ∀ e ∈ cd_117_0, decode prog_8_method_28_code e.1 = .ok e.2 := by decide +kernel
def cd_117 : List (Nat × Instr × Nat) := cd_117_0
theorem dk_117 : ∀ e ∈ cd_117, decode prog_8_method_28_code e.1 = .ok e.2 := dk_117_0
def cd_118_0 : List (Nat × Instr × Nat) := [(0, .aload_n 0, 1), (1, .getfield 11, 3), (4, .bipush 85, 2), (6, .iconst 2, 1), (7, .iload_n 1, 1), (8, .imul, 1), (9, .iadd, 1), (10, .laload, 1), (11, .l2i, 1), (12, .ireturn, 1)]
theorem dk_118_0 : ∀ e ∈ cd_118_0, decode prog_8_method_29_code e.1 = .ok e.2 := by decide +kernel
def cd_118 : List (Nat × Instr × Nat) := cd_118_0
theorem dk_118 : ∀ e ∈ cd_118, decode prog_8_method_29_code e.1 = .ok e.2 := dk_118_0
def cd_119_0 : List (Nat × Instr × Nat) := [(0, .iconst 0, 1), (1, .istore_n 1, 1), (2, .iconst 0, 1), (3, .istore_n 2, 1), (4, .iload_n 2, 1), (5, .aload_n 0, 1), (6, .invokevirtual 118, 3), (9, .if_icmp .ge 19, 3), (12, .iload_n 1, 1), (13, .iconst 1, 1), (14, .aload_n 0, 1), (15, .iload_n 2, 1), (16, .invokevirtual 122, 3), (19, .ishl, 1), (20, .ior, 1), (21, .istore_n 1, 1), (22, .iinc 2 1, 3), (25, .goto (-21), 3), (28, .iload_n 1, 1), (29, .ireturn, 1)]
theorem dk_119_0 : ∀ e ∈ cd_119_0, decode prog_8_method_30_code e.1 = .ok e.2 := by decide +kernel
def cd_119 : List (Nat × Instr × Nat) := cd_119_0
theorem dk_119 : ∀ e ∈ cd_119, decode prog_8_method_30_code e.1 = .ok e.2 := dk_119_0
def cd_120_0 : List (Nat × Instr × Nat) := [(0, .iconst 0, 1), (1, .istore_n 3, 1), (2, .iconst 0, 1), (3, .istore 4, 2), (5, .iload 4, 2), (7, .i2l, 1), (8, .aload_n 0, 1), (9, .getfield 11, 3), (12, .bipush 29, 2), (14, .laload, 1), (15, .lcmp, 1), (16, .ifCond .ge 38, 3), (19, .iload_n 3, 1), (20, .iload_n 1, 1), (21, .i2l, 1), (22, .iload 4, 2), (24, .invokestatic 125, 3), (27, .ifCond .eq 18, 3), (30, .aload_n 0, 1), (31, .iload 4, 2), (33, .iconst 1, 1), (34, .invokevirtual 78, 3), (37, .iload_n 2, 1), (38, .if_icmp .ne 7, 3), (41, .iconst 1, 1), (42, .goto 4, 3), (45, .iconst 0, 1), (46, .iadd, 1), (47, .istore_n 3, 1), (48, .iinc 4 1, 3), (51, .goto (-46), 3), (54, .iload_n 3, 1), (55, .ireturn, 1)]
theorem dk_120_0 : ∀ e ∈ cd_120_0, decode prog_8_method_31_code e.1 = .ok e.2 := by decide +kernel
def cd_120 : List (Nat × Instr × Nat) := cd_120_0
theorem dk_120 : ∀ e ∈ cd_120, decode prog_8_method_31_code e.1 = .ok e.2 := dk_120_0
def cd_121_0 : List (Nat × Instr × Nat) := [(0, .aload_n 0, 1), (1, .invokevirtual 63, 3), (4, .ifCond .eq 6, 3), (7, .bipush (-3), 2), (9, .ireturn, 1), (10, .aload_n 0, 1), (11, .getfield 11, 3), (14, .bipush 33, 2), (16, .dup2, 1), (17, .laload, 1), (18, .lconst 1, 1), (19, .ladd, 1), (20, .lastore, 1), (21, .aload_n 0, 1), (22, .getfield 11, 3), (25, .bipush 34, 2), (27, .lconst 1, 1), (28, .lastore, 1), (29, .aload_n 0, 1), (30, .getfield 11, 3), (33, .bipush 35, 2), (35, .lconst 0, 1), (36, .lastore, 1), (37, .aload_n 0, 1), (38, .getfield 11, 3), (41, .bipush 36, 2), (43, .lconst 0, 1), (44, .lastore, 1), (45, .iconst 0, 1), (46, .istore_n 2, 1), (47, .iload_n 2, 1), (48, .bipush 9, 2), (50, .if_icmp .ge 23, 3), (53, .aload_n 0, 1), (54, .getfield 21, 3), (57, .iload_n 2, 1), (58, .aload_n 0, 1), (59, .getfield 11, 3), (62, .iconst 0, 1), (63, .iload_n 2, 1), (64, .iadd, 1), (65, .laload, 1), (66, .lastore, 1), (67, .iinc 2 1, 3), (70, .goto (-23), 3), (73, .aload_n 0, 1), (74, .invokevirtual 129, 3), (77, .iconst 0, 1), (78, .istore_n 2, 1), (79, .iload_n 2, 1), (80, .bipush 9, 2), (82, .if_icmp .ge 24, 3), (85, .aload_n 0, 1), (86, .getfield 11, 3), (89, .bipush 9, 2), (91, .iload_n 2, 1), (92, .iadd, 1), (93, .aload_n 0, 1), (94, .getfield 21, 3), (97, .iload_n 2, 1)]
theorem dk_121_0 : ∀ e ∈ cd_121_0, decode prog_8_method_32_code e.1 = .ok e.2 := by decide +kernel
def cd_121_1 : List (Nat × Instr × Nat) := [(98, .laload, 1), (99, .lastore, 1), (100, .iinc 2 1, 3), (103, .goto (-24), 3), (106, .iload_n 1, 1), (107, .istore_n 2, 1), (108, .iconst 0, 1), (109, .istore_n 3, 1), (110, .iload_n 3, 1), (111, .i2l, 1), (112, .aload_n 0, 1), (113, .getfield 11, 3), (116, .bipush 29, 2), (118, .laload, 1), (119, .lcmp, 1), (120, .ifCond .ge 98, 3), (123, .iload_n 2, 1), (124, .ldc 132, 2), (126, .imul, 1), (127, .sipush 12345, 3), (130, .iadd, 1), (131, .istore_n 2, 1), (132, .ldc2_w 61, 3), (135, .aload_n 0, 1), (136, .iload_n 3, 1), (137, .iconst 5, 1), (138, .invokevirtual 78, 3), (141, .iconst 1, 1), (142, .iadd, 1), (143, .i2l, 1), (144, .lmul, 1), (145, .aload_n 0, 1), (146, .iload_n 3, 1), (147, .iconst 4, 1), (148, .invokevirtual 78, 3), (151, .i2l, 1), (152, .aload_n 0, 1), (153, .getfield 11, 3), (156, .bipush 33, 2), (158, .laload, 1), (159, .lmul, 1), (160, .lcmp, 1), (161, .ifCond .gt 22, 3), (164, .iload_n 2, 1), (165, .bipush 9, 2), (167, .iushr, 1), (168, .bipush 10, 2), (170, .irem, 1), (171, .i2l, 1), (172, .aload_n 0, 1), (173, .getfield 11, 3), (176, .bipush 31, 2), (178, .laload, 1), (179, .lcmp, 1), (180, .ifCond .ge 7, 3), (183, .iconst 1, 1), (184, .goto 4, 3), (187, .iconst 0, 1), (188, .istore 4, 2), (190, .aload_n 0, 1)]
theorem dk_121_1 : ∀ e ∈ cd_121_1, decode prog_8_method_32_code e.1 = .ok e.2 := by decide +kernel
def cd_121_2 : List (Nat × Instr × Nat) := [(191, .getfield 11, 3), (194, .bipush 35, 2), (196, .dup2, 1), (197, .laload, 1), (198, .iload 4, 2), (200, .ifCond .eq 9, 3), (203, .lconst 1, 1), (204, .iload_n 3, 1), (205, .lshl, 1), (206, .goto 4, 3), (209, .lconst 0, 1), (210, .lor, 1), (211, .lastore, 1), (212, .iinc 3 1, 3), (215, .goto (-105), 3), (218, .aload_n 0, 1), (219, .bipush 35, 2), (221, .invokevirtual 50, 3), (224, .invokestatic 133, 3), (227, .ireturn, 1)]
theorem dk_121_2 : ∀ e ∈ cd_121_2, decode prog_8_method_32_code e.1 = .ok e.2 := by decide +kernel
def cd_121 : List (Nat × Instr × Nat) := cd_121_0 ++ cd_121_1 ++ cd_121_2
theorem dk_121 : ∀ e ∈ cd_121, decode prog_8_method_32_code e.1 = .ok e.2 := dk_app (dk_app dk_121_0 dk_121_1) dk_121_2
def cd_122_0 : List (Nat × Instr × Nat) := [(0, .aload_n 0, 1), (1, .getfield 11, 3), (4, .bipush 37, 2), (6, .bipush 6, 2), (8, .iload_n 1, 1), (9, .imul, 1), (10, .iadd, 1), (11, .iconst 5, 1), (12, .iadd, 1), (13, .dup2, 1), (14, .laload, 1), (15, .lconst 1, 1), (16, .ladd, 1), (17, .lastore, 1), (18, .aload_n 0, 1), (19, .getfield 11, 3), (22, .bipush 85, 2), (24, .iconst 2, 1), (25, .aload_n 0, 1), (26, .invokevirtual 118, 3), (29, .imul, 1), (30, .iadd, 1), (31, .iload_n 1, 1), (32, .i2l, 1), (33, .lastore, 1), (34, .aload_n 0, 1), (35, .getfield 11, 3), (38, .bipush 85, 2), (40, .iconst 2, 1), (41, .aload_n 0, 1), (42, .invokevirtual 118, 3), (45, .imul, 1), (46, .iadd, 1), (47, .iconst 1, 1), (48, .iadd, 1), (49, .iload_n 2, 1), (50, .i2l, 1), (51, .lastore, 1), (52, .aload_n 0, 1), (53, .getfield 11, 3), (56, .bipush 36, 2), (58, .dup2, 1), (59, .laload, 1), (60, .lconst 1, 1), (61, .ladd, 1), (62, .lastore, 1), (63, .return_, 1)]
theorem dk_122_0 : ∀ e ∈ cd_122_0, decode prog_8_method_33_code e.1 = .ok e.2 := by decide +kernel
def cd_122 : List (Nat × Instr × Nat) := cd_122_0
theorem dk_122 : ∀ e ∈ cd_122, decode prog_8_method_33_code e.1 = .ok e.2 := dk_122_0
def cd_123_0 : List (Nat × Instr × Nat) := [(0, .aload_n 0, 1), (1, .iload_n 1, 1), (2, .invokevirtual 75, 3), (5, .ifCond .eq 13, 3), (8, .iload_n 2, 1), (9, .i2l, 1), (10, .lconst 0, 1), (11, .lconst 1, 1), (12, .invokestatic 38, 3), (15, .ifCond .ne 6, 3), (18, .bipush (-2), 2), (20, .ireturn, 1), (21, .aload_n 0, 1), (22, .invokevirtual 63, 3), (25, .ifCond .eq 62, 3), (28, .aload_n 0, 1), (29, .getfield 11, 3), (32, .bipush 35, 2), (34, .laload, 1), (35, .iload_n 1, 1), (36, .invokestatic 125, 3), (39, .ifCond .ne 48, 3), (42, .aload_n 0, 1), (43, .invokevirtual 136, 3), (46, .i2l, 1), (47, .iload_n 1, 1), (48, .invokestatic 125, 3), (51, .ifCond .ne 36, 3), (54, .aload_n 0, 1), (55, .aload_n 0, 1), (56, .invokevirtual 136, 3), (59, .aload_n 0, 1), (60, .iload_n 1, 1), (61, .iconst 1, 1), (62, .invokevirtual 78, 3), (65, .invokevirtual 139, 3), (68, .i2l, 1), (69, .aload_n 0, 1), (70, .getfield 11, 3), (73, .bipush 21, 2), (75, .aload_n 0, 1), (76, .iload_n 1, 1), (77, .iconst 1, 1), (78, .invokevirtual 78, 3), (81, .iadd, 1), (82, .laload, 1), (83, .lcmp, 1), (84, .ifCond .lt 6, 3), (87, .bipush (-3), 2), (89, .ireturn, 1), (90, .aload_n 0, 1), (91, .iload_n 1, 1), (92, .iload_n 2, 1), (93, .invokevirtual 142, 3), (96, .aload_n 0, 1), (97, .invokevirtual 118, 3), (100, .ireturn, 1)]
theorem dk_123_0 : ∀ e ∈ cd_123_0, decode prog_8_method_34_code e.1 = .ok e.2 := by decide +kernel
def cd_123 : List (Nat × Instr × Nat) := cd_123_0
theorem dk_123 : ∀ e ∈ cd_123, decode prog_8_method_34_code e.1 = .ok e.2 := dk_123_0
def cd_124_0 : List (Nat × Instr × Nat) := [(0, .aload_n 0, 1), (1, .invokevirtual 63, 3), (4, .ifCond .ne 6, 3), (7, .bipush (-3), 2), (9, .ireturn, 1), (10, .aload_n 0, 1), (11, .invokevirtual 118, 3), (14, .istore_n 1, 1), (15, .aload_n 0, 1), (16, .getfield 11, 3), (19, .bipush 34, 2), (21, .lconst 0, 1), (22, .lastore, 1), (23, .aload_n 0, 1), (24, .getfield 11, 3), (27, .bipush 36, 2), (29, .lconst 0, 1), (30, .lastore, 1), (31, .aload_n 0, 1), (32, .getfield 11, 3), (35, .bipush 35, 2), (37, .lconst 0, 1), (38, .lastore, 1), (39, .iload_n 1, 1), (40, .ireturn, 1)]
theorem dk_124_0 : ∀ e ∈ cd_124_0, decode prog_8_method_35_code e.1 = .ok e.2 := by decide +kernel
def cd_124 : List (Nat × Instr × Nat) := cd_124_0
theorem dk_124 : ∀ e ∈ cd_124, decode prog_8_method_35_code e.1 = .ok e.2 := dk_124_0
def cd_125_0 : List (Nat × Instr × Nat) := [(0, .iload_n 2, 1), (1, .i2l, 1), (2, .lconst 0, 1), (3, .lconst 1, 1), (4, .invokestatic 38, 3), (7, .ifCond .ne 6, 3), (10, .bipush (-2), 2), (12, .ireturn, 1), (13, .aload_n 0, 1), (14, .invokevirtual 63, 3), (17, .ifCond .ne 6, 3), (20, .bipush (-3), 2), (22, .ireturn, 1), (23, .iload_n 1, 1), (24, .i2l, 1), (25, .lconst 0, 1), (26, .aload_n 0, 1), (27, .invokevirtual 118, 3), (30, .iconst 1, 1), (31, .isub, 1), (32, .i2l, 1), (33, .invokestatic 38, 3), (36, .ifCond .eq 20, 3), (39, .aload_n 0, 1), (40, .getfield 11, 3), (43, .bipush 85, 2), (45, .iconst 2, 1), (46, .iload_n 1, 1), (47, .imul, 1), (48, .iadd, 1), (49, .iload_n 2, 1), (50, .iadd, 1), (51, .laload, 1), (52, .l2i, 1), (53, .goto 5, 3), (56, .bipush (-12), 2), (58, .ireturn, 1)]
theorem dk_125_0 : ∀ e ∈ cd_125_0, decode prog_8_method_36_code e.1 = .ok e.2 := by decide +kernel
def cd_125 : List (Nat × Instr × Nat) := cd_125_0
theorem dk_125 : ∀ e ∈ cd_125, decode prog_8_method_36_code e.1 = .ok e.2 := dk_125_0
def cd_126_0 : List (Nat × Instr × Nat) := [(0, .iconst 0, 1), (1, .istore_n 2, 1), (2, .iload_n 2, 1), (3, .aload_n 0, 1), (4, .invokevirtual 118, 3), (7, .if_icmp .ge 33, 3), (10, .aload_n 0, 1), (11, .iload_n 2, 1), (12, .invokevirtual 122, 3), (15, .iload_n 1, 1), (16, .if_icmp .ne 18, 3), (19, .aload_n 0, 1), (20, .getfield 11, 3), (23, .bipush 85, 2), (25, .iconst 2, 1), (26, .iload_n 2, 1), (27, .imul, 1), (28, .iadd, 1), (29, .iconst 1, 1), (30, .iadd, 1), (31, .laload, 1), (32, .l2i, 1), (33, .ireturn, 1), (34, .iinc 2 1, 3), (37, .goto (-35), 3), (40, .iconst (-1), 1), (41, .ireturn, 1)]
theorem dk_126_0 : ∀ e ∈ cd_126_0, decode prog_8_method_37_code e.1 = .ok e.2 := by decide +kernel
def cd_126 : List (Nat × Instr × Nat) := cd_126_0
theorem dk_126 : ∀ e ∈ cd_126, decode prog_8_method_37_code e.1 = .ok e.2 := dk_126_0
def cd_127_0 : List (Nat × Instr × Nat) := [(0, .aload_n 0, 1), (1, .iload_n 1, 1), (2, .invokevirtual 75, 3), (5, .ifCond .eq 15, 3), (8, .iload_n 2, 1), (9, .i2l, 1), (10, .lconst 0, 1), (11, .ldc2_w 146, 3), (14, .invokestatic 38, 3), (17, .ifCond .ne 6, 3), (20, .bipush (-2), 2), (22, .ireturn, 1), (23, .iload_n 2, 1), (24, .bipush 6, 2), (26, .if_icmp .ge 12, 3), (29, .aload_n 0, 1), (30, .iload_n 1, 1), (31, .iload_n 2, 1), (32, .invokevirtual 78, 3), (35, .goto 36, 3), (38, .iload_n 2, 1), (39, .bipush 6, 2), (41, .if_icmp .ne 25, 3), (44, .aload_n 0, 1), (45, .getfield 11, 3), (48, .bipush 35, 2), (50, .laload, 1), (51, .iload_n 1, 1), (52, .invokestatic 125, 3), (55, .ifCond .eq 7, 3), (58, .iconst 1, 1), (59, .goto 12, 3), (62, .iconst 0, 1), (63, .goto 8, 3), (66, .aload_n 0, 1), (67, .iload_n 1, 1), (68, .invokevirtual 148, 3), (71, .ireturn, 1)]
theorem dk_127_0 : ∀ e ∈ cd_127_0, decode prog_8_method_38_code e.1 = .ok e.2 := by decide +kernel
def cd_127 : List (Nat × Instr × Nat) := cd_127_0
theorem dk_127 : ∀ e ∈ cd_127, decode prog_8_method_38_code e.1 = .ok e.2 := dk_127_0
def cd_128_0 : List (Nat × Instr × Nat) := [(0, .lload_n 0, 1), (1, .lstore 4, 2), (3, .lload_n 2, 1), (4, .lstore 6, 2), (6, .lload 6, 2), (8, .lconst 0, 1), (9, .lcmp, 1), (10, .ifCond .eq 21, 3), (13, .lload 4, 2), (15, .lload 6, 2), (17, .lrem, 1), (18, .lstore 8, 2), (20, .lload 6, 2), (22, .lstore 4, 2), (24, .lload 8, 2), (26, .lstore 6, 2), (28, .goto (-22), 3), (31, .lload 4, 2), (33, .lreturn, 1)]
theorem dk_128_0 : ∀ e ∈ cd_128_0, decode prog_8_method_39_code e.1 = .ok e.2 := by decide +kernel
def cd_128 : List (Nat × Instr × Nat) := cd_128_0
theorem dk_128 : ∀ e ∈ cd_128, decode prog_8_method_39_code e.1 = .ok e.2 := dk_128_0
def cd_129_0 : List (Nat × Instr × Nat) := [(0, .lconst 0, 1), (1, .lstore_n 1, 1), (2, .iconst 0, 1), (3, .istore_n 3, 1), (4, .iload_n 3, 1), (5, .bipush 9, 2), (7, .if_icmp .ge 20, 3), (10, .lload_n 1, 1), (11, .aload_n 0, 1), (12, .getfield 21, 3), (15, .iload_n 3, 1), (16, .laload, 1), (17, .invokestatic 151, 3), (20, .lstore_n 1, 1), (21, .iinc 3 1, 3), (24, .goto (-20), 3), (27, .iconst 0, 1), (28, .istore_n 3, 1), (29, .iload_n 3, 1), (30, .bipush 9, 2), (32, .if_icmp .ge 19, 3), (35, .aload_n 0, 1), (36, .getfield 21, 3), (39, .iload_n 3, 1), (40, .dup2, 1), (41, .laload, 1), (42, .lload_n 1, 1), (43, .ldiv, 1), (44, .lastore, 1), (45, .iinc 3 1, 3), (48, .goto (-19), 3), (51, .return_, 1)]
theorem dk_129_0 : ∀ e ∈ cd_129_0, decode prog_8_method_40_code e.1 = .ok e.2 := by decide +kernel
def cd_129 : List (Nat × Instr × Nat) := cd_129_0
theorem dk_129 : ∀ e ∈ cd_129, decode prog_8_method_40_code e.1 = .ok e.2 := dk_129_0
def cd_130_0 : List (Nat × Instr × Nat) := [(0, .lload_n 1, 1), (1, .lconst 0, 1), (2, .lcmp, 1), (3, .ifCond .eq 20, 3), (6, .lload_n 3, 1), (7, .ldc2_w 155, 3), (10, .lload_n 1, 1), (11, .ldiv, 1), (12, .lcmp, 1), (13, .ifCond .le 10, 3), (16, .aload_n 0, 1), (17, .iconst 1, 1), (18, .putfield 157, 3), (21, .lconst 0, 1), (22, .lreturn, 1), (23, .lload_n 1, 1), (24, .lload_n 3, 1), (25, .lmul, 1), (26, .lreturn, 1)]
theorem dk_130_0 : ∀ e ∈ cd_130_0, decode prog_8_method_41_code e.1 = .ok e.2 := by decide +kernel
def cd_130 : List (Nat × Instr × Nat) := cd_130_0
theorem dk_130 : ∀ e ∈ cd_130, decode prog_8_method_41_code e.1 = .ok e.2 := dk_130_0
def cd_131_0 : List (Nat × Instr × Nat) := [(0, .lload_n 1, 1), (1, .ldc2_w 155, 3), (4, .lload_n 3, 1), (5, .lsub, 1), (6, .lcmp, 1), (7, .ifCond .le 10, 3), (10, .aload_n 0, 1), (11, .iconst 1, 1), (12, .putfield 157, 3), (15, .lconst 0, 1), (16, .lreturn, 1), (17, .lload_n 1, 1), (18, .lload_n 3, 1), (19, .ladd, 1), (20, .lreturn, 1)]
theorem dk_131_0 : ∀ e ∈ cd_131_0, decode prog_8_method_42_code e.1 = .ok e.2 := by decide +kernel
def cd_131 : List (Nat × Instr × Nat) := cd_131_0
theorem dk_131 : ∀ e ∈ cd_131, decode prog_8_method_42_code e.1 = .ok e.2 := dk_131_0
def cd_132_0 : List (Nat × Instr × Nat) := [(0, .iconst 0, 1), (1, .istore_n 3, 1), (2, .iload_n 3, 1), (3, .bipush 9, 2), (5, .if_icmp .ge 50, 3), (8, .aload_n 0, 1), (9, .iload_n 1, 1), (10, .iload_n 3, 1), (11, .invokevirtual 109, 3), (14, .istore 4, 2), (16, .aload_n 0, 1), (17, .getfield 21, 3), (20, .iload_n 3, 1), (21, .aload_n 0, 1), (22, .aload_n 0, 1), (23, .getfield 21, 3), (26, .iload_n 3, 1), (27, .laload, 1), (28, .iload_n 2, 1), (29, .iconst 1, 1), (30, .if_icmp .ne 9, 3), (33, .iload 4, 2), (35, .i2l, 1), (36, .goto 9, 3), (39, .bipush 16, 2), (41, .iload 4, 2), (43, .isub, 1), (44, .i2l, 1), (45, .invokevirtual 161, 3), (48, .lastore, 1), (49, .iinc 3 1, 3), (52, .goto (-50), 3), (55, .aload_n 0, 1), (56, .getfield 157, 3), (59, .ifCond .ne 7, 3), (62, .aload_n 0, 1), (63, .invokevirtual 129, 3), (66, .return_, 1)]
theorem dk_132_0 : ∀ e ∈ cd_132_0, decode prog_8_method_43_code e.1 = .ok e.2 := by decide +kernel
def cd_132 : List (Nat × Instr × Nat) := cd_132_0
theorem dk_132 : ∀ e ∈ cd_132, decode prog_8_method_43_code e.1 = .ok e.2 := dk_132_0
def cd_133_0 : List (Nat × Instr × Nat) := [(0, .aload_n 0, 1), (1, .iconst 0, 1), (2, .putfield 157, 3), (5, .iconst 0, 1), (6, .istore_n 2, 1), (7, .iload_n 2, 1), (8, .bipush 9, 2), (10, .if_icmp .ge 35, 3), (13, .aload_n 0, 1), (14, .getfield 21, 3), (17, .iload_n 2, 1), (18, .aload_n 0, 1), (19, .getfield 11, 3), (22, .aload_n 0, 1), (23, .invokevirtual 63, 3), (26, .ifCond .eq 8, 3), (29, .bipush 9, 2), (31, .goto 4, 3), (34, .iconst 0, 1), (35, .iload_n 2, 1), (36, .iadd, 1), (37, .laload, 1), (38, .lastore, 1), (39, .iinc 2 1, 3), (42, .goto (-35), 3), (45, .iconst 0, 1), (46, .istore_n 2, 1), (47, .iload_n 2, 1), (48, .iload_n 1, 1), (49, .if_icmp .ge 32, 3), (52, .aload_n 0, 1), (53, .aload_n 0, 1), (54, .iload_n 2, 1), (55, .invokevirtual 122, 3), (58, .aload_n 0, 1), (59, .getfield 11, 3), (62, .bipush 85, 2), (64, .iconst 2, 1), (65, .iload_n 2, 1), (66, .imul, 1), (67, .iadd, 1), (68, .iconst 1, 1), (69, .iadd, 1), (70, .laload, 1), (71, .l2i, 1), (72, .invokevirtual 164, 3), (75, .iinc 2 1, 3), (78, .goto (-31), 3), (81, .return_, 1)]
theorem dk_133_0 : ∀ e ∈ cd_133_0, decode prog_8_method_44_code e.1 = .ok e.2 := by decide +kernel
def cd_133 : List (Nat × Instr × Nat) := cd_133_0
theorem dk_133 : ∀ e ∈ cd_133, decode prog_8_method_44_code e.1 = .ok e.2 := dk_133_0
def cd_134_0 : List (Nat × Instr × Nat) := [(0, .aload_n 0, 1), (1, .aload_n 0, 1), (2, .invokevirtual 118, 3), (5, .invokevirtual 167, 3), (8, .return_, 1)]
theorem dk_134_0 : ∀ e ∈ cd_134_0, decode prog_8_method_45_code e.1 = .ok e.2 := by decide +kernel
def cd_134 : List (Nat × Instr × Nat) := cd_134_0
theorem dk_134 : ∀ e ∈ cd_134, decode prog_8_method_45_code e.1 = .ok e.2 := dk_134_0
def cd_135_0 : List (Nat × Instr × Nat) := [(0, .iload_n 1, 1), (1, .invokestatic 44, 3), (4, .ifCond .ne 7, 3), (7, .ldc2_w 171, 3), (10, .lreturn, 1), (11, .aload_n 0, 1), (12, .invokevirtual 173, 3), (15, .aload_n 0, 1), (16, .getfield 21, 3), (19, .iload_n 1, 1), (20, .laload, 1), (21, .lreturn, 1)]
theorem dk_135_0 : ∀ e ∈ cd_135_0, decode prog_8_method_46_code e.1 = .ok e.2 := by decide +kernel
def cd_135 : List (Nat × Instr × Nat) := cd_135_0
theorem dk_135 : ∀ e ∈ cd_135, decode prog_8_method_46_code e.1 = .ok e.2 := dk_135_0
def cd_136_0 : List (Nat × Instr × Nat) := [(0, .iconst 0, 1), (1, .istore_n 1, 1), (2, .iconst 1, 1), (3, .istore_n 2, 1), (4, .iload_n 2, 1), (5, .bipush 9, 2), (7, .if_icmp .ge 31, 3), (10, .aload_n 0, 1), (11, .getfield 21, 3), (14, .iload_n 2, 1), (15, .laload, 1), (16, .aload_n 0, 1), (17, .getfield 21, 3), (20, .iload_n 1, 1), (21, .laload, 1), (22, .lcmp, 1), (23, .ifCond .le 7, 3), (26, .iload_n 2, 1), (27, .goto 4, 3), (30, .iload_n 1, 1), (31, .istore_n 1, 1), (32, .iinc 2 1, 3), (35, .goto (-31), 3), (38, .iload_n 1, 1), (39, .ireturn, 1)]
theorem dk_136_0 : ∀ e ∈ cd_136_0, decode prog_8_method_47_code e.1 = .ok e.2 := by decide +kernel
def cd_136 : List (Nat × Instr × Nat) := cd_136_0
theorem dk_136 : ∀ e ∈ cd_136, decode prog_8_method_47_code e.1 = .ok e.2 := dk_136_0
def cd_137_0 : List (Nat × Instr × Nat) := [(0, .aload_n 0, 1), (1, .invokevirtual 173, 3), (4, .aload_n 0, 1), (5, .invokevirtual 176, 3), (8, .ireturn, 1)]
theorem dk_137_0 : ∀ e ∈ cd_137_0, decode prog_8_method_48_code e.1 = .ok e.2 := by decide +kernel
def cd_137 : List (Nat × Instr × Nat) := cd_137_0
theorem dk_137 : ∀ e ∈ cd_137, decode prog_8_method_48_code e.1 = .ok e.2 := dk_137_0
def cd_138_0 : List (Nat × Instr × Nat) := [(0, .lconst 0, 1), (1, .lstore_n 1, 1), (2, .iconst 0, 1), (3, .istore_n 3, 1), (4, .iload_n 3, 1), (5, .bipush 9, 2), (7, .if_icmp .ge 21, 3), (10, .aload_n 0, 1), (11, .lload_n 1, 1), (12, .aload_n 0, 1), (13, .getfield 21, 3), (16, .iload_n 3, 1), (17, .laload, 1), (18, .invokevirtual 179, 3), (21, .lstore_n 1, 1), (22, .iinc 3 1, 3), (25, .goto (-21), 3), (28, .lload_n 1, 1), (29, .lreturn, 1)]
theorem dk_138_0 : ∀ e ∈ cd_138_0, decode prog_8_method_49_code e.1 = .ok e.2 := by decide +kernel
def cd_138 : List (Nat × Instr × Nat) := cd_138_0
theorem dk_138 : ∀ e ∈ cd_138, decode prog_8_method_49_code e.1 = .ok e.2 := dk_138_0
def cd_139_0 : List (Nat × Instr × Nat) := [(0, .lconst 0, 1), (1, .lstore_n 1, 1), (2, .iconst 0, 1), (3, .istore_n 3, 1), (4, .iload_n 3, 1), (5, .bipush 9, 2), (7, .if_icmp .ge 27, 3), (10, .aload_n 0, 1), (11, .lload_n 1, 1), (12, .aload_n 0, 1), (13, .iload_n 3, 1), (14, .i2l, 1), (15, .aload_n 0, 1), (16, .getfield 21, 3), (19, .iload_n 3, 1), (20, .laload, 1), (21, .invokevirtual 161, 3), (24, .invokevirtual 179, 3), (27, .lstore_n 1, 1), (28, .iinc 3 1, 3), (31, .goto (-27), 3), (34, .lload_n 1, 1), (35, .lreturn, 1)]
theorem dk_139_0 : ∀ e ∈ cd_139_0, decode prog_8_method_50_code e.1 = .ok e.2 := by decide +kernel
def cd_139 : List (Nat × Instr × Nat) := cd_139_0
theorem dk_139 : ∀ e ∈ cd_139, decode prog_8_method_50_code e.1 = .ok e.2 := dk_139_0
def cd_140_0 : List (Nat × Instr × Nat) := [(0, .lconst 0, 1), (1, .lstore_n 1, 1), (2, .iconst 0, 1), (3, .istore_n 3, 1), (4, .iload_n 3, 1), (5, .bipush 9, 2), (7, .if_icmp .ge 29, 3), (10, .aload_n 0, 1), (11, .lload_n 1, 1), (12, .aload_n 0, 1), (13, .iload_n 3, 1), (14, .iload_n 3, 1), (15, .imul, 1), (16, .i2l, 1), (17, .aload_n 0, 1), (18, .getfield 21, 3), (21, .iload_n 3, 1), (22, .laload, 1), (23, .invokevirtual 161, 3), (26, .invokevirtual 179, 3), (29, .lstore_n 1, 1), (30, .iinc 3 1, 3), (33, .goto (-29), 3), (36, .lload_n 1, 1), (37, .lreturn, 1)]
theorem dk_140_0 : ∀ e ∈ cd_140_0, decode prog_8_method_51_code e.1 = .ok e.2 := by decide +kernel
def cd_140 : List (Nat × Instr × Nat) := cd_140_0
theorem dk_140 : ∀ e ∈ cd_140, decode prog_8_method_51_code e.1 = .ok e.2 := dk_140_0
def cd_141_0 : List (Nat × Instr × Nat) := [(0, .lconst 0, 1), (1, .lstore_n 2, 1), (2, .iconst 0, 1), (3, .istore 4, 2), (5, .iload 4, 2), (7, .bipush 9, 2), (9, .if_icmp .ge 34, 3), (12, .aload_n 0, 1), (13, .lload_n 2, 1), (14, .aload_n 0, 1), (15, .aload_n 0, 1), (16, .getfield 21, 3), (19, .iload 4, 2), (21, .laload, 1), (22, .aload_n 0, 1), (23, .iload_n 1, 1), (24, .iload 4, 2), (26, .invokevirtual 112, 3), (29, .i2l, 1), (30, .invokevirtual 161, 3), (33, .invokevirtual 179, 3), (36, .lstore_n 2, 1), (37, .iinc 4 1, 3), (40, .goto (-35), 3), (43, .lload_n 2, 1), (44, .lreturn, 1)]
theorem dk_141_0 : ∀ e ∈ cd_141_0, decode prog_8_method_52_code e.1 = .ok e.2 := by decide +kernel
def cd_141 : List (Nat × Instr × Nat) := cd_141_0
theorem dk_141 : ∀ e ∈ cd_141, decode prog_8_method_52_code e.1 = .ok e.2 := dk_141_0
def cd_142_0 : List (Nat × Instr × Nat) := [(0, .lconst 0, 1), (1, .lstore_n 2, 1), (2, .iconst 0, 1), (3, .istore 4, 2), (5, .iload 4, 2), (7, .bipush 9, 2), (9, .if_icmp .ge 34, 3), (12, .aload_n 0, 1), (13, .lload_n 2, 1), (14, .aload_n 0, 1), (15, .aload_n 0, 1), (16, .getfield 21, 3), (19, .iload 4, 2), (21, .laload, 1), (22, .aload_n 0, 1), (23, .iload_n 1, 1), (24, .iload 4, 2), (26, .invokevirtual 109, 3), (29, .i2l, 1), (30, .invokevirtual 161, 3), (33, .invokevirtual 179, 3), (36, .lstore_n 2, 1), (37, .iinc 4 1, 3), (40, .goto (-35), 3), (43, .lload_n 2, 1), (44, .lreturn, 1)]
theorem dk_142_0 : ∀ e ∈ cd_142_0, decode prog_8_method_53_code e.1 = .ok e.2 := by decide +kernel
def cd_142 : List (Nat × Instr × Nat) := cd_142_0
theorem dk_142 : ∀ e ∈ cd_142, decode prog_8_method_53_code e.1 = .ok e.2 := dk_142_0
def cd_143_0 : List (Nat × Instr × Nat) := [(0, .aload_n 0, 1), (1, .invokevirtual 182, 3), (4, .lstore_n 1, 1), (5, .aload_n 0, 1), (6, .invokevirtual 186, 3), (9, .lstore_n 3, 1), (10, .aload_n 0, 1), (11, .aload_n 0, 1), (12, .invokevirtual 189, 3), (15, .lload_n 1, 1), (16, .invokevirtual 161, 3), (19, .lstore 5, 2), (21, .aload_n 0, 1), (22, .lload_n 3, 1), (23, .lload_n 3, 1), (24, .invokevirtual 161, 3), (27, .lstore 7, 2), (29, .aload_n 0, 1), (30, .lload 5, 2), (32, .lload 7, 2), (34, .lsub, 1), (35, .putfield 192, 3), (38, .aload_n 0, 1), (39, .aload_n 0, 1), (40, .lload_n 1, 1), (41, .lload_n 1, 1), (42, .invokevirtual 161, 3), (45, .putfield 196, 3), (48, .return_, 1)]
theorem dk_143_0 : ∀ e ∈ cd_143_0, decode prog_8_method_54_code e.1 = .ok e.2 := by decide +kernel
def cd_143 : List (Nat × Instr × Nat) := cd_143_0
theorem dk_143 : ∀ e ∈ cd_143, decode prog_8_method_54_code e.1 = .ok e.2 := dk_143_0
def cd_144_0 : List (Nat × Instr × Nat) := [(0, .aload_n 0, 1), (1, .getfield 157, 3), (4, .ifCond .eq 7, 3), (7, .ldc2_w 171, 3), (10, .lreturn, 1), (11, .iload_n 1, 1), (12, .ifCond .ne 10, 3), (15, .aload_n 0, 1), (16, .getfield 192, 3), (19, .goto 7, 3), (22, .aload_n 0, 1), (23, .getfield 196, 3), (26, .aload_n 0, 1), (27, .getfield 192, 3), (30, .aload_n 0, 1), (31, .getfield 196, 3), (34, .invokestatic 151, 3), (37, .ldiv, 1), (38, .lreturn, 1)]
theorem dk_144_0 : ∀ e ∈ cd_144_0, decode prog_8_method_55_code e.1 = .ok e.2 := by decide +kernel
def cd_144 : List (Nat × Instr × Nat) := cd_144_0
theorem dk_144 : ∀ e ∈ cd_144, decode prog_8_method_55_code e.1 = .ok e.2 := dk_144_0
def cd_145_0 : List (Nat × Instr × Nat) := [(0, .iload_n 1, 1), (1, .iconst 1, 1), (2, .if_icmp .ne 8, 3), (5, .aload_n 0, 1), (6, .invokevirtual 199, 3), (9, .return_, 1), (10, .aload_n 0, 1), (11, .iload_n 1, 1), (12, .ifCond .ne 10, 3), (15, .aload_n 0, 1), (16, .invokevirtual 186, 3), (19, .goto 28, 3), (22, .iload_n 1, 1), (23, .bipush 20, 2), (25, .if_icmp .ge 14, 3), (28, .aload_n 0, 1), (29, .iload_n 1, 1), (30, .bipush 10, 2), (32, .isub, 1), (33, .invokevirtual 202, 3), (36, .goto 11, 3), (39, .aload_n 0, 1), (40, .iload_n 1, 1), (41, .bipush 20, 2), (43, .isub, 1), (44, .invokevirtual 206, 3), (47, .putfield 192, 3), (50, .aload_n 0, 1), (51, .iload_n 1, 1), (52, .bipush 20, 2), (54, .if_icmp .ge 10, 3), (57, .aload_n 0, 1), (58, .invokevirtual 182, 3), (61, .goto 14, 3), (64, .aload_n 0, 1), (65, .ldc2_w 209, 3), (68, .aload_n 0, 1), (69, .invokevirtual 182, 3), (72, .invokevirtual 161, 3), (75, .putfield 196, 3), (78, .return_, 1)]
theorem dk_145_0 : ∀ e ∈ cd_145_0, decode prog_8_method_56_code e.1 = .ok e.2 := by decide +kernel
def cd_145 : List (Nat × Instr × Nat) := cd_145_0
theorem dk_145 : ∀ e ∈ cd_145, decode prog_8_method_56_code e.1 = .ok e.2 := dk_145_0
def cd_146_0 : List (Nat × Instr × Nat) := [(0, .iload_n 1, 1), (1, .i2l, 1), (2, .lconst 0, 1), (3, .lconst 1, 1), (4, .invokestatic 38, 3), (7, .ifCond .ne 53, 3), (10, .iload_n 1, 1), (11, .i2l, 1), (12, .ldc2_w 61, 3), (15, .ldc2_w 211, 3), (18, .invokestatic 38, 3), (21, .ifCond .eq 14, 3), (24, .aload_n 0, 1), (25, .iload_n 1, 1), (26, .bipush 10, 2), (28, .isub, 1), (29, .invokevirtual 75, 3), (32, .ifCond .ne 28, 3), (35, .iload_n 1, 1), (36, .i2l, 1), (37, .ldc2_w 213, 3), (40, .ldc2_w 215, 3), (43, .invokestatic 38, 3), (46, .ifCond .eq 18, 3), (49, .aload_n 0, 1), (50, .iload_n 1, 1), (51, .bipush 20, 2), (53, .isub, 1), (54, .invokevirtual 75, 3), (57, .ifCond .eq 7, 3), (60, .iconst 1, 1), (61, .goto 4, 3), (64, .iconst 0, 1), (65, .istore_n 3, 1), (66, .iload_n 3, 1), (67, .ifCond .eq 13, 3), (70, .iload_n 2, 1), (71, .i2l, 1), (72, .lconst 0, 1), (73, .lconst 1, 1), (74, .invokestatic 38, 3), (77, .ifCond .ne 7, 3), (80, .ldc2_w 171, 3), (83, .lreturn, 1), (84, .aload_n 0, 1), (85, .invokevirtual 173, 3), (88, .aload_n 0, 1), (89, .iload_n 1, 1), (90, .invokevirtual 217, 3), (93, .aload_n 0, 1), (94, .iload_n 2, 1), (95, .invokevirtual 220, 3), (98, .lreturn, 1)]
theorem dk_146_0 : ∀ e ∈ cd_146_0, decode prog_8_method_57_code e.1 = .ok e.2 := by decide +kernel
def cd_146 : List (Nat × Instr × Nat) := cd_146_0
theorem dk_146 : ∀ e ∈ cd_146, decode prog_8_method_57_code e.1 = .ok e.2 := dk_146_0
def cd_147_0 : List (Nat × Instr × Nat) := [(0, .aload_n 0, 1), (1, .iload_n 1, 1), (2, .invokevirtual 75, 3), (5, .ifCond .eq 23, 3), (8, .iload_n 2, 1), (9, .i2l, 1), (10, .lconst 0, 1), (11, .lconst 1, 1), (12, .invokestatic 38, 3), (15, .ifCond .eq 13, 3), (18, .iload_n 3, 1), (19, .i2l, 1), (20, .lconst 0, 1), (21, .lconst 1, 1), (22, .invokestatic 38, 3), (25, .ifCond .ne 7, 3), (28, .ldc2_w 171, 3), (31, .lreturn, 1), (32, .aload_n 0, 1), (33, .invokevirtual 173, 3), (36, .aload_n 0, 1), (37, .iload_n 1, 1), (38, .iload_n 2, 1), (39, .invokevirtual 164, 3), (42, .aload_n 0, 1), (43, .aload_n 0, 1), (44, .invokevirtual 186, 3), (47, .putfield 192, 3), (50, .aload_n 0, 1), (51, .aload_n 0, 1), (52, .invokevirtual 182, 3), (55, .putfield 196, 3), (58, .aload_n 0, 1), (59, .iload_n 3, 1), (60, .invokevirtual 220, 3), (63, .lreturn, 1)]
theorem dk_147_0 : ∀ e ∈ cd_147_0, decode prog_8_method_58_code e.1 = .ok e.2 := by decide +kernel
def cd_147 : List (Nat × Instr × Nat) := cd_147_0
theorem dk_147 : ∀ e ∈ cd_147, decode prog_8_method_58_code e.1 = .ok e.2 := dk_147_0
def cd_148_0 : List (Nat × Instr × Nat) := [(0, .iload_n 1, 1), (1, .invokestatic 133, 3), (4, .i2l, 1), (5, .aload_n 0, 1), (6, .getfield 11, 3), (9, .bipush 30, 2), (11, .laload, 1), (12, .lcmp, 1), (13, .ifCond .ne 26, 3), (16, .iload_n 2, 1), (17, .iload_n 1, 1), (18, .iconst (-1), 1), (19, .ixor, 1), (20, .iand, 1), (21, .ifCond .ne 18, 3), (24, .iload_n 1, 1), (25, .iload_n 2, 1), (26, .iconst (-1), 1), (27, .ixor, 1), (28, .iand, 1), (29, .aload_n 0, 1), (30, .bipush 35, 2), (32, .invokevirtual 50, 3), (35, .iand, 1), (36, .ifCond .eq 5, 3), (39, .iconst 0, 1), (40, .ireturn, 1), (41, .iconst 0, 1), (42, .istore_n 3, 1), (43, .iload_n 3, 1), (44, .iconst 3, 1), (45, .if_icmp .ge 42, 3), (48, .aload_n 0, 1), (49, .iload_n 1, 1), (50, .iload_n 3, 1), (51, .invokevirtual 139, 3), (54, .i2l, 1), (55, .aload_n 0, 1), (56, .getfield 11, 3), (59, .bipush 18, 2), (61, .iload_n 3, 1), (62, .iadd, 1), (63, .laload, 1), (64, .aload_n 0, 1), (65, .getfield 11, 3), (68, .bipush 21, 2), (70, .iload_n 3, 1), (71, .iadd, 1), (72, .laload, 1), (73, .invokestatic 38, 3), (76, .ifCond .ne 5, 3), (79, .iconst 0, 1), (80, .ireturn, 1), (81, .iinc 3 1, 3), (84, .goto (-41), 3), (87, .iconst 1, 1), (88, .ireturn, 1)]
theorem dk_148_0 : ∀ e ∈ cd_148_0, decode prog_8_method_59_code e.1 = .ok e.2 := by decide +kernel
def cd_148 : List (Nat × Instr × Nat) := cd_148_0
theorem dk_148 : ∀ e ∈ cd_148, decode prog_8_method_59_code e.1 = .ok e.2 := dk_148_0
def cd_149_0 : List (Nat × Instr × Nat) := [(0, .lconst 0, 1), (1, .lstore_n 2, 1), (2, .iconst 0, 1), (3, .istore 4, 2), (5, .iload 4, 2), (7, .i2l, 1), (8, .aload_n 0, 1), (9, .getfield 11, 3), (12, .bipush 29, 2), (14, .laload, 1), (15, .lcmp, 1), (16, .ifCond .ge 31, 3), (19, .iload_n 1, 1), (20, .i2l, 1), (21, .iload 4, 2), (23, .invokestatic 125, 3), (26, .ifCond .eq 15, 3), (29, .aload_n 0, 1), (30, .lload_n 2, 1), (31, .aload_n 0, 1), (32, .iload 4, 2), (34, .invokevirtual 202, 3), (37, .invokevirtual 179, 3), (40, .lstore_n 2, 1), (41, .iinc 4 1, 3), (44, .goto (-39), 3), (47, .lload_n 2, 1), (48, .lreturn, 1)]
theorem dk_149_0 : ∀ e ∈ cd_149_0, decode prog_8_method_60_code e.1 = .ok e.2 := by decide +kernel
def cd_149 : List (Nat × Instr × Nat) := cd_149_0
theorem dk_149 : ∀ e ∈ cd_149, decode prog_8_method_60_code e.1 = .ok e.2 := dk_149_0
def cd_150_0 : List (Nat × Instr × Nat) := [(0, .aload_n 0, 1), (1, .invokevirtual 173, 3), (4, .aload_n 0, 1), (5, .invokevirtual 136, 3), (8, .istore_n 1, 1), (9, .iconst 0, 1), (10, .istore_n 2, 1), (11, .ldc2_w 223, 3), (14, .lstore_n 3, 1), (15, .iconst 1, 1), (16, .istore 5, 2), (18, .iload 5, 2), (20, .iconst 1, 1), (21, .aload_n 0, 1), (22, .bipush 29, 2), (24, .invokevirtual 50, 3), (27, .ishl, 1), (28, .if_icmp .ge 57, 3), (31, .aload_n 0, 1), (32, .iload 5, 2), (34, .iload_n 1, 1), (35, .invokevirtual 225, 3), (38, .ifCond .ne 6, 3), (41, .goto 38, 3), (44, .aload_n 0, 1), (45, .iload 5, 2), (47, .iload_n 1, 1), (48, .iconst (-1), 1), (49, .ixor, 1), (50, .iand, 1), (51, .invokevirtual 228, 3), (54, .lstore 6, 2), (56, .aload_n 0, 1), (57, .getfield 157, 3), (60, .ifCond .eq 6, 3), (63, .bipush (-7), 2), (65, .ireturn, 1), (66, .lload 6, 2), (68, .lload_n 3, 1), (69, .lcmp, 1), (70, .ifCond .le 9, 3), (73, .iload 5, 2), (75, .istore_n 2, 1), (76, .lload 6, 2), (78, .lstore_n 3, 1), (79, .iinc 5 1, 3), (82, .goto (-64), 3), (85, .lload_n 3, 1), (86, .lconst 0, 1), (87, .lcmp, 1), (88, .ifCond .ge 8, 3), (91, .bipush (-8), 2), (93, .goto 4, 3), (96, .iload_n 2, 1), (97, .ireturn, 1)]
theorem dk_150_0 : ∀ e ∈ cd_150_0, decode prog_8_method_61_code e.1 = .ok e.2 := by decide +kernel
def cd_150 : List (Nat × Instr × Nat) := cd_150_0
theorem dk_150 : ∀ e ∈ cd_150, decode prog_8_method_61_code e.1 = .ok e.2 := dk_150_0
def cd_151_0 : List (Nat × Instr × Nat) := [(0, .aload_n 0, 1), (1, .invokevirtual 63, 3), (4, .ifCond .eq 10, 3), (7, .aload_n 0, 1), (8, .invokevirtual 231, 3), (11, .goto 5, 3), (14, .bipush (-3), 2), (16, .ireturn, 1)]
theorem dk_151_0 : ∀ e ∈ cd_151_0, decode prog_8_method_62_code e.1 = .ok e.2 := by decide +kernel
def cd_151 : List (Nat × Instr × Nat) := cd_151_0
theorem dk_151 : ∀ e ∈ cd_151, decode prog_8_method_62_code e.1 = .ok e.2 := dk_151_0
def cd_152_0 : List (Nat × Instr × Nat) := [(0, .aload_n 0, 1), (1, .invokevirtual 231, 3), (4, .istore_n 1, 1), (5, .iload_n 1, 1), (6, .ifCond .ge 5, 3), (9, .iload_n 1, 1), (10, .ireturn, 1), (11, .iconst (-1), 1), (12, .istore_n 2, 1), (13, .ldc2_w 223, 3), (16, .lstore_n 3, 1), (17, .iconst 0, 1), (18, .istore 5, 2), (20, .iload 5, 2), (22, .i2l, 1), (23, .aload_n 0, 1), (24, .getfield 11, 3), (27, .bipush 29, 2), (29, .laload, 1), (30, .lcmp, 1), (31, .ifCond .ge 50, 3), (34, .iload_n 1, 1), (35, .aload_n 0, 1), (36, .invokevirtual 136, 3), (39, .iconst (-1), 1), (40, .ixor, 1), (41, .iand, 1), (42, .i2l, 1), (43, .iload 5, 2), (45, .invokestatic 125, 3), (48, .ifCond .ne 6, 3), (51, .goto 24, 3), (54, .aload_n 0, 1), (55, .iload 5, 2), (57, .invokevirtual 202, 3), (60, .lstore 6, 2), (62, .lload 6, 2), (64, .lload_n 3, 1), (65, .lcmp, 1), (66, .ifCond .le 9, 3), (69, .iload 5, 2), (71, .istore_n 2, 1), (72, .lload 6, 2), (74, .lstore_n 3, 1), (75, .iinc 5 1, 3), (78, .goto (-58), 3), (81, .iload_n 2, 1), (82, .ireturn, 1)]
theorem dk_152_0 : ∀ e ∈ cd_152_0, decode prog_8_method_63_code e.1 = .ok e.2 := by decide +kernel
def cd_152 : List (Nat × Instr × Nat) := cd_152_0
theorem dk_152 : ∀ e ∈ cd_152, decode prog_8_method_63_code e.1 = .ok e.2 := dk_152_0
def cd_153_0 : List (Nat × Instr × Nat) := [(0, .aload_n 0, 1), (1, .invokevirtual 63, 3), (4, .ifCond .eq 10, 3), (7, .aload_n 0, 1), (8, .invokevirtual 234, 3), (11, .goto 5, 3), (14, .bipush (-3), 2), (16, .ireturn, 1)]
theorem dk_153_0 : ∀ e ∈ cd_153_0, decode prog_8_method_64_code e.1 = .ok e.2 := by decide +kernel
def cd_153 : List (Nat × Instr × Nat) := cd_153_0
theorem dk_153 : ∀ e ∈ cd_153, decode prog_8_method_64_code e.1 = .ok e.2 := dk_153_0
def cd_154_0 : List (Nat × Instr × Nat) := [(0, .aload_n 0, 1), (1, .aload_n 0, 1), (2, .getfield 21, 3), (5, .aload_n 0, 1), (6, .invokevirtual 176, 3), (9, .laload, 1), (10, .ldc2_w 237, 3), (13, .invokevirtual 161, 3), (16, .aload_n 0, 1), (17, .aload_n 0, 1), (18, .invokevirtual 182, 3), (21, .aload_n 0, 1), (22, .getfield 11, 3), (25, .bipush 25, 2), (27, .laload, 1), (28, .invokevirtual 161, 3), (31, .lcmp, 1), (32, .ifCond .lt 7, 3), (35, .iconst 1, 1), (36, .goto 4, 3), (39, .iconst 0, 1), (40, .ireturn, 1)]
theorem dk_154_0 : ∀ e ∈ cd_154_0, decode prog_8_method_65_code e.1 = .ok e.2 := by decide +kernel
def cd_154 : List (Nat × Instr × Nat) := cd_154_0
theorem dk_154 : ∀ e ∈ cd_154, decode prog_8_method_65_code e.1 = .ok e.2 := dk_154_0
def cd_155_0 : List (Nat × Instr × Nat) := [(0, .aload_n 0, 1), (1, .invokevirtual 199, 3), (4, .aload_n 0, 1), (5, .aload_n 0, 1), (6, .getfield 192, 3), (9, .ldc2_w 61, 3), (12, .invokevirtual 161, 3), (15, .aload_n 0, 1), (16, .aload_n 0, 1), (17, .getfield 196, 3), (20, .aload_n 0, 1), (21, .getfield 11, 3), (24, .bipush 26, 2), (26, .laload, 1), (27, .invokevirtual 161, 3), (30, .lcmp, 1), (31, .ifCond .gt 7, 3), (34, .iconst 1, 1), (35, .goto 4, 3), (38, .iconst 0, 1), (39, .ireturn, 1)]
theorem dk_155_0 : ∀ e ∈ cd_155_0, decode prog_8_method_66_code e.1 = .ok e.2 := by decide +kernel
def cd_155 : List (Nat × Instr × Nat) := cd_155_0
theorem dk_155 : ∀ e ∈ cd_155, decode prog_8_method_66_code e.1 = .ok e.2 := dk_155_0
def cd_156_0 : List (Nat × Instr × Nat) := [(0, .aload_n 0, 1), (1, .aload_n 0, 1), (2, .invokevirtual 182, 3), (5, .aload_n 0, 1), (6, .getfield 11, 3), (9, .bipush 27, 2), (11, .laload, 1), (12, .invokevirtual 161, 3), (15, .lstore_n 1, 1), (16, .iconst 0, 1), (17, .istore_n 3, 1), (18, .iload_n 3, 1), (19, .i2l, 1), (20, .aload_n 0, 1), (21, .getfield 11, 3), (24, .bipush 29, 2), (26, .laload, 1), (27, .lcmp, 1), (28, .ifCond .ge 54, 3), (31, .aload_n 0, 1), (32, .getfield 157, 3), (35, .ifCond .ne 47, 3), (38, .aload_n 0, 1), (39, .invokevirtual 136, 3), (42, .i2l, 1), (43, .iload_n 3, 1), (44, .invokestatic 125, 3), (47, .ifCond .ne 29, 3), (50, .aload_n 0, 1), (51, .getfield 11, 3), (54, .bipush 35, 2), (56, .laload, 1), (57, .iload_n 3, 1), (58, .invokestatic 125, 3), (61, .ifCond .ne 15, 3), (64, .aload_n 0, 1), (65, .iload_n 3, 1), (66, .invokevirtual 202, 3), (69, .lload_n 1, 1), (70, .lcmp, 1), (71, .ifCond .lt 5, 3), (74, .iconst 0, 1), (75, .ireturn, 1), (76, .iinc 3 1, 3), (79, .goto (-61), 3), (82, .iconst 1, 1), (83, .ireturn, 1)]
theorem dk_156_0 : ∀ e ∈ cd_156_0, decode prog_8_method_67_code e.1 = .ok e.2 := by decide +kernel
def cd_156 : List (Nat × Instr × Nat) := cd_156_0
theorem dk_156 : ∀ e ∈ cd_156, decode prog_8_method_67_code e.1 = .ok e.2 := dk_156_0
def cd_157_0 : List (Nat × Instr × Nat) := [(0, .aload_n 0, 1), (1, .bipush 28, 2), (3, .invokevirtual 50, 3), (6, .istore_n 1, 1), (7, .aload_n 0, 1), (8, .invokevirtual 118, 3), (11, .iload_n 1, 1), (12, .if_icmp .ge 5, 3), (15, .iconst 0, 1), (16, .ireturn, 1), (17, .aload_n 0, 1), (18, .invokevirtual 176, 3), (21, .istore_n 2, 1), (22, .iconst 1, 1), (23, .istore_n 3, 1), (24, .aload_n 0, 1), (25, .invokevirtual 118, 3), (28, .iload_n 1, 1), (29, .isub, 1), (30, .istore 4, 2), (32, .iload 4, 2), (34, .aload_n 0, 1), (35, .invokevirtual 118, 3), (38, .if_icmp .ge 31, 3), (41, .aload_n 0, 1), (42, .iload 4, 2), (44, .invokevirtual 167, 3), (47, .iload_n 3, 1), (48, .aload_n 0, 1), (49, .invokevirtual 176, 3), (52, .iload_n 2, 1), (53, .if_icmp .ne 7, 3), (56, .iconst 1, 1), (57, .goto 4, 3), (60, .iconst 0, 1), (61, .iand, 1), (62, .istore_n 3, 1), (63, .iinc 4 1, 3), (66, .goto (-34), 3), (69, .iload_n 3, 1), (70, .ireturn, 1)]
theorem dk_157_0 : ∀ e ∈ cd_157_0, decode prog_8_method_68_code e.1 = .ok e.2 := by decide +kernel
def cd_157 : List (Nat × Instr × Nat) := cd_157_0
theorem dk_157 : ∀ e ∈ cd_157, decode prog_8_method_68_code e.1 = .ok e.2 := dk_157_0
def cd_158_0 : List (Nat × Instr × Nat) := [(0, .aload_n 0, 1), (1, .invokevirtual 173, 3), (4, .iload_n 1, 1), (5, .tableswitch 77 0 3 #[31, 53, 61, 69], 31), (36, .aload_n 0, 1), (37, .invokevirtual 118, 3), (40, .i2l, 1), (41, .aload_n 0, 1), (42, .getfield 11, 3), (45, .bipush 24, 2), (47, .laload, 1), (48, .lcmp, 1), (49, .ifCond .lt 7, 3), (52, .iconst 1, 1), (53, .goto 4, 3), (56, .iconst 0, 1), (57, .ireturn, 1), (58, .aload_n 0, 1), (59, .invokevirtual 239, 3), (62, .istore_n 2, 1), (63, .goto 32, 3), (66, .aload_n 0, 1), (67, .invokevirtual 242, 3), (70, .istore_n 2, 1), (71, .goto 24, 3), (74, .aload_n 0, 1), (75, .invokevirtual 245, 3), (78, .istore_n 2, 1), (79, .goto 16, 3), (82, .aload_n 0, 1), (83, .invokevirtual 248, 3), (86, .ifCond .eq 7, 3), (89, .iconst 1, 1), (90, .goto 4, 3), (93, .iconst 0, 1), (94, .ireturn, 1), (95, .aload_n 0, 1), (96, .getfield 157, 3), (99, .ifCond .eq 8, 3), (102, .bipush (-7), 2), (104, .goto 12, 3), (107, .iload_n 2, 1), (108, .ifCond .eq 7, 3), (111, .iconst 1, 1), (112, .goto 4, 3), (115, .iconst 0, 1), (116, .ireturn, 1)]
theorem dk_158_0 : ∀ e ∈ cd_158_0, decode prog_8_method_69_code e.1 = .ok e.2 := by decide +kernel
def cd_158 : List (Nat × Instr × Nat) := cd_158_0
theorem dk_158 : ∀ e ∈ cd_158, decode prog_8_method_69_code e.1 = .ok e.2 := dk_158_0
def cd_159_0 : List (Nat × Instr × Nat) := [(0, .iload_n 1, 1), (1, .i2l, 1), (2, .lconst 0, 1), (3, .ldc2_w 36, 3), (6, .invokestatic 38, 3), (9, .ifCond .ne 6, 3), (12, .bipush (-2), 2), (14, .ireturn, 1), (15, .aload_n 0, 1), (16, .invokevirtual 63, 3), (19, .ifCond .eq 11, 3), (22, .aload_n 0, 1), (23, .iload_n 1, 1), (24, .invokevirtual 251, 3), (27, .goto 5, 3), (30, .bipush (-3), 2), (32, .ireturn, 1)]
theorem dk_159_0 : ∀ e ∈ cd_159_0, decode prog_8_method_70_code e.1 = .ok e.2 := by decide +kernel
def cd_159 : List (Nat × Instr × Nat) := cd_159_0
theorem dk_159 : ∀ e ∈ cd_159, decode prog_8_method_70_code e.1 = .ok e.2 := dk_159_0
def cd_160_0 : List (Nat × Instr × Nat) := [(0, .iconst 0, 1), (1, .istore_n 1, 1), (2, .iload_n 1, 1), (3, .iconst 3, 1), (4, .if_icmp .ge 34, 3), (7, .aload_n 0, 1), (8, .aload_n 0, 1), (9, .invokevirtual 136, 3), (12, .iload_n 1, 1), (13, .invokevirtual 139, 3), (16, .i2l, 1), (17, .aload_n 0, 1), (18, .getfield 11, 3), (21, .bipush 18, 2), (23, .iload_n 1, 1), (24, .iadd, 1), (25, .laload, 1), (26, .lcmp, 1), (27, .ifCond .ge 5, 3), (30, .iconst 0, 1), (31, .ireturn, 1), (32, .iinc 1 1, 3), (35, .goto (-33), 3), (38, .aload_n 0, 1), (39, .invokevirtual 118, 3), (42, .i2l, 1), (43, .aload_n 0, 1), (44, .getfield 11, 3), (47, .bipush 30, 2), (49, .laload, 1), (50, .lcmp, 1), (51, .ifCond .lt 5, 3), (54, .iconst 1, 1), (55, .ireturn, 1), (56, .iconst 0, 1), (57, .istore_n 1, 1), (58, .iload_n 1, 1), (59, .iconst 5, 1), (60, .if_icmp .ge 39, 3), (63, .aload_n 0, 1), (64, .getfield 11, 3), (67, .bipush 32, 2), (69, .laload, 1), (70, .iload_n 1, 1), (71, .invokestatic 125, 3), (74, .ifCond .eq 11, 3), (77, .aload_n 0, 1), (78, .iload_n 1, 1), (79, .invokevirtual 251, 3), (82, .goto 4, 3), (85, .iconst 0, 1), (86, .istore_n 2, 1), (87, .iload_n 2, 1), (88, .ifCond .eq 5, 3), (91, .iload_n 2, 1), (92, .ireturn, 1), (93, .iinc 1 1, 3), (96, .goto (-38), 3), (99, .iconst 0, 1), (100, .ireturn, 1)]
theorem dk_160_0 : ∀ e ∈ cd_160_0, decode prog_8_method_71_code e.1 = .ok e.2 := by decide +kernel
def cd_160 : List (Nat × Instr × Nat) := cd_160_0
theorem dk_160 : ∀ e ∈ cd_160, decode prog_8_method_71_code e.1 = .ok e.2 := dk_160_0
def cd_161_0 : List (Nat × Instr × Nat) := [(0, .aload_n 0, 1), (1, .invokevirtual 63, 3), (4, .ifCond .eq 10, 3), (7, .aload_n 0, 1), (8, .invokevirtual 254, 3), (11, .goto 5, 3), (14, .bipush (-3), 2), (16, .ireturn, 1)]
theorem dk_161_0 : ∀ e ∈ cd_161_0, decode prog_8_method_72_code e.1 = .ok e.2 := by decide +kernel
def cd_161 : List (Nat × Instr × Nat) := cd_161_0
theorem dk_161 : ∀ e ∈ cd_161, decode prog_8_method_72_code e.1 = .ok e.2 := dk_161_0
def cd_162_0 : List (Nat × Instr × Nat) := [(0, .aload_n 0, 1), (1, .getfield 11, 3), (4, .aload_n 0, 1), (5, .getfield 18, 3), (8, .invokestatic 257, 3), (11, .iload_n 1, 1), (12, .istore_n 3, 1), (13, .iconst 0, 1), (14, .istore 4, 2), (16, .iconst 1, 1), (17, .istore 5, 2), (19, .iload 5, 2), (21, .ifCond .eq 88, 3), (24, .iload 4, 2), (26, .sipush 1000, 3), (29, .if_icmp .ge 80, 3), (32, .aload_n 0, 1), (33, .invokevirtual 254, 3), (36, .ifCond .ne 10, 3), (39, .aload_n 0, 1), (40, .invokevirtual 234, 3), (43, .goto 4, 3), (46, .iconst (-1), 1), (47, .istore 6, 2), (49, .iload 6, 2), (51, .ifCond .lt 7, 3), (54, .iconst 1, 1), (55, .goto 4, 3), (58, .iconst 0, 1), (59, .istore 5, 2), (61, .iload 5, 2), (63, .ifCond .eq 43, 3), (66, .iload_n 3, 1), (67, .ldc 132, 2), (69, .imul, 1), (70, .sipush 12345, 3), (73, .iadd, 1), (74, .istore_n 3, 1), (75, .aload_n 0, 1), (76, .iload 6, 2), (78, .iload_n 3, 1), (79, .bipush 9, 2), (81, .iushr, 1), (82, .bipush 16, 2), (84, .irem, 1), (85, .aload_n 0, 1), (86, .iload 6, 2), (88, .iload_n 2, 1), (89, .invokevirtual 109, 3), (92, .if_icmp .ge 7, 3), (95, .iconst 1, 1), (96, .goto 4, 3), (99, .iconst 0, 1), (100, .invokevirtual 142, 3), (103, .iinc 4 1, 3), (106, .goto (-87), 3), (109, .aload_n 0, 1), (110, .aload_n 0, 1), (111, .invokevirtual 261, 3), (114, .putfield 264, 3)]
theorem dk_162_0 : ∀ e ∈ cd_162_0, decode prog_8_method_73_code e.1 = .ok e.2 := by decide +kernel
def cd_162_1 : List (Nat × Instr × Nat) := [(117, .aload_n 0, 1), (118, .getfield 18, 3), (121, .aload_n 0, 1), (122, .getfield 11, 3), (125, .invokestatic 257, 3), (128, .iload 4, 2), (130, .ireturn, 1)]
theorem dk_162_1 : ∀ e ∈ cd_162_1, decode prog_8_method_73_code e.1 = .ok e.2 := by decide +kernel
def cd_162 : List (Nat × Instr × Nat) := cd_162_0 ++ cd_162_1
theorem dk_162 : ∀ e ∈ cd_162, decode prog_8_method_73_code e.1 = .ok e.2 := dk_app dk_162_0 dk_162_1
def cd_163_0 : List (Nat × Instr × Nat) := [(0, .iload_n 2, 1), (1, .invokestatic 44, 3), (4, .ifCond .eq 13, 3), (7, .iload_n 3, 1), (8, .i2l, 1), (9, .lconst 0, 1), (10, .lconst 1, 1), (11, .invokestatic 38, 3), (14, .ifCond .ne 6, 3), (17, .bipush (-2), 2), (19, .ireturn, 1), (20, .aload_n 0, 1), (21, .invokevirtual 63, 3), (24, .ifCond .ne 6, 3), (27, .bipush (-3), 2), (29, .ireturn, 1), (30, .aload_n 0, 1), (31, .iload_n 1, 1), (32, .iload_n 2, 1), (33, .invokevirtual 268, 3), (36, .istore 4, 2), (38, .iload_n 3, 1), (39, .ifCond .ne 8, 3), (42, .iload 4, 2), (44, .goto 7, 3), (47, .aload_n 0, 1), (48, .getfield 264, 3), (51, .ireturn, 1)]
theorem dk_163_0 : ∀ e ∈ cd_163_0, decode prog_8_method_74_code e.1 = .ok e.2 := by decide +kernel
def cd_163 : List (Nat × Instr × Nat) := cd_163_0
theorem dk_163 : ∀ e ∈ cd_163, decode prog_8_method_74_code e.1 = .ok e.2 := dk_163_0
def cd_164_0 : List (Nat × Instr × Nat) := [(0, .iload_n 2, 1), (1, .invokestatic 44, 3), (4, .ifCond .eq 26, 3), (7, .iload_n 3, 1), (8, .i2l, 1), (9, .lconst 1, 1), (10, .ldc2_w 61, 3), (13, .invokestatic 38, 3), (16, .ifCond .eq 14, 3), (19, .iload 4, 2), (21, .i2l, 1), (22, .lconst 0, 1), (23, .lconst 1, 1), (24, .invokestatic 38, 3), (27, .ifCond .ne 6, 3), (30, .bipush (-2), 2), (32, .ireturn, 1), (33, .aload_n 0, 1), (34, .invokevirtual 63, 3), (37, .ifCond .ne 6, 3), (40, .bipush (-3), 2), (42, .ireturn, 1), (43, .iconst 0, 1), (44, .istore 5, 2), (46, .iconst 0, 1), (47, .istore 6, 2), (49, .iload 6, 2), (51, .iload_n 3, 1), (52, .if_icmp .ge 42, 3), (55, .aload_n 0, 1), (56, .iload_n 1, 1), (57, .iload 6, 2), (59, .iadd, 1), (60, .iload_n 2, 1), (61, .invokevirtual 268, 3), (64, .pop, 1), (65, .iload 5, 2), (67, .aload_n 0, 1), (68, .getfield 264, 3), (71, .iload_n 2, 1), (72, .isub, 1), (73, .invokestatic 271, 3), (76, .iconst 1, 1), (77, .if_icmp .gt 7, 3), (80, .iconst 1, 1), (81, .goto 4, 3), (84, .iconst 0, 1), (85, .iadd, 1), (86, .istore 5, 2), (88, .iinc 6 1, 3), (91, .goto (-42), 3), (94, .iload 4, 2), (96, .ifCond .ne 8, 3), (99, .iload 5, 2), (101, .goto 4, 3), (104, .iload_n 3, 1), (105, .iload 5, 2), (107, .i2l, 1), (108, .iload_n 3, 1), (109, .i2l, 1)]
theorem dk_164_0 : ∀ e ∈ cd_164_0, decode prog_8_method_75_code e.1 = .ok e.2 := by decide +kernel
def cd_164_1 : List (Nat × Instr × Nat) := [(110, .invokestatic 151, 3), (113, .l2i, 1), (114, .idiv, 1), (115, .ireturn, 1)]
theorem dk_164_1 : ∀ e ∈ cd_164_1, decode prog_8_method_75_code e.1 = .ok e.2 := by decide +kernel
def cd_164 : List (Nat × Instr × Nat) := cd_164_0 ++ cd_164_1
theorem dk_164 : ∀ e ∈ cd_164, decode prog_8_method_75_code e.1 = .ok e.2 := dk_app dk_164_0 dk_164_1
def cd_165_0 : List (Nat × Instr × Nat) := [(0, .iload_n 0, 1), (1, .i2l, 1), (2, .lconst 0, 1), (3, .ldc2_w 59, 3), (6, .invokestatic 38, 3), (9, .ireturn, 1)]
theorem dk_165_0 : ∀ e ∈ cd_165_0, decode prog_8_method_76_code e.1 = .ok e.2 := by decide +kernel
def cd_165 : List (Nat × Instr × Nat) := cd_165_0
theorem dk_165 : ∀ e ∈ cd_165, decode prog_8_method_76_code e.1 = .ok e.2 := dk_165_0
def cd_166_0 : List (Nat × Instr × Nat) := [(0, .lload_n 2, 1), (1, .lconst 0, 1), (2, .aload_n 0, 1), (3, .getfield 28, 3), (6, .iload_n 1, 1), (7, .iaload, 1), (8, .iconst 1, 1), (9, .isub, 1), (10, .i2l, 1), (11, .invokestatic 38, 3), (14, .ireturn, 1)]
theorem dk_166_0 : ∀ e ∈ cd_166_0, decode prog_8_method_77_code e.1 = .ok e.2 := by decide +kernel
def cd_166 : List (Nat × Instr × Nat) := cd_166_0
theorem dk_166 : ∀ e ∈ cd_166, decode prog_8_method_77_code e.1 = .ok e.2 := dk_166_0
def cd_167_0 : List (Nat × Instr × Nat) := [(0, .lconst 1, 1), (1, .lstore_n 3, 1), (2, .iconst 0, 1), (3, .istore 5, 2), (5, .iload 5, 2), (7, .aload_n 0, 1), (8, .getfield 28, 3), (11, .iload_n 1, 1), (12, .iaload, 1), (13, .if_icmp .ge 117, 3), (16, .iload 5, 2), (18, .aload_n 0, 1), (19, .getfield 274, 3), (22, .if_icmp .ne 10, 3), (25, .aload_n 0, 1), (26, .getfield 277, 3), (29, .goto 10, 3), (32, .aload_n 0, 1), (33, .iload 5, 2), (35, .iconst 0, 1), (36, .invokevirtual 78, 3), (39, .aload_n 0, 1), (40, .iload 5, 2), (42, .iconst 2, 1), (43, .invokevirtual 78, 3), (46, .aload_n 0, 1), (47, .iload 5, 2), (49, .iconst 3, 1), (50, .invokevirtual 78, 3), (53, .iload_n 2, 1), (54, .invokestatic 106, 3), (57, .istore 6, 2), (59, .aload_n 0, 1), (60, .getfield 31, 3), (63, .bipush 40, 2), (65, .iload_n 1, 1), (66, .imul, 1), (67, .iload 5, 2), (69, .iadd, 1), (70, .iaload, 1), (71, .iconst 1, 1), (72, .if_icmp .ne 7, 3), (75, .iconst 1, 1), (76, .goto 4, 3), (79, .iconst 0, 1), (80, .iload 5, 2), (82, .aload_n 0, 1), (83, .getfield 280, 3), (86, .if_icmp .ne 7, 3), (89, .iconst 1, 1), (90, .goto 4, 3), (93, .iconst 0, 1), (94, .if_icmp .eq 7, 3), (97, .iconst 1, 1), (98, .goto 4, 3), (101, .iconst 0, 1), (102, .istore 7, 2), (104, .lload_n 3, 1), (105, .iload 7, 2), (107, .ifCond .eq 9, 3)]
theorem dk_167_0 : ∀ e ∈ cd_167_0, decode prog_8_method_78_code e.1 = .ok e.2 := by decide +kernel
def cd_167_1 : List (Nat × Instr × Nat) := [(110, .iload 6, 2), (112, .i2l, 1), (113, .goto 9, 3), (116, .bipush 16, 2), (118, .iload 6, 2), (120, .isub, 1), (121, .i2l, 1), (122, .lmul, 1), (123, .lstore_n 3, 1), (124, .iinc 5 1, 3), (127, .goto (-122), 3), (130, .lload_n 3, 1), (131, .lreturn, 1)]
theorem dk_167_1 : ∀ e ∈ cd_167_1, decode prog_8_method_78_code e.1 = .ok e.2 := by decide +kernel
def cd_167 : List (Nat × Instr × Nat) := cd_167_0 ++ cd_167_1
theorem dk_167 : ∀ e ∈ cd_167, decode prog_8_method_78_code e.1 = .ok e.2 := dk_app dk_167_0 dk_167_1
def cd_168_0 : List (Nat × Instr × Nat) := [(0, .iconst 0, 1), (1, .istore_n 2, 1), (2, .iconst 1, 1), (3, .istore_n 3, 1), (4, .iload_n 3, 1), (5, .bipush 9, 2), (7, .if_icmp .ge 31, 3), (10, .aload_n 0, 1), (11, .iload_n 1, 1), (12, .iload_n 3, 1), (13, .invokevirtual 283, 3), (16, .aload_n 0, 1), (17, .iload_n 1, 1), (18, .iload_n 2, 1), (19, .invokevirtual 283, 3), (22, .lcmp, 1), (23, .ifCond .le 7, 3), (26, .iload_n 3, 1), (27, .goto 4, 3), (30, .iload_n 2, 1), (31, .istore_n 2, 1), (32, .iinc 3 1, 3), (35, .goto (-31), 3), (38, .iload_n 2, 1), (39, .ireturn, 1)]
theorem dk_168_0 : ∀ e ∈ cd_168_0, decode prog_8_method_79_code e.1 = .ok e.2 := by decide +kernel
def cd_168 : List (Nat × Instr × Nat) := cd_168_0
theorem dk_168 : ∀ e ∈ cd_168, decode prog_8_method_79_code e.1 = .ok e.2 := dk_168_0
def cd_169_0 : List (Nat × Instr × Nat) := [(0, .aload_n 0, 1), (1, .getfield 28, 3), (4, .iload_n 1, 1), (5, .iaload, 1), (6, .i2l, 1), (7, .aload_n 0, 1), (8, .getfield 11, 3), (11, .bipush 29, 2), (13, .laload, 1), (14, .lcmp, 1), (15, .ifCond .gt 7, 3), (18, .iconst 1, 1), (19, .goto 4, 3), (22, .iconst 0, 1), (23, .istore_n 2, 1), (24, .iconst 0, 1), (25, .istore_n 3, 1), (26, .iload_n 3, 1), (27, .aload_n 0, 1), (28, .getfield 28, 3), (31, .iload_n 1, 1), (32, .iaload, 1), (33, .if_icmp .ge 29, 3), (36, .iload_n 2, 1), (37, .aload_n 0, 1), (38, .getfield 31, 3), (41, .bipush 40, 2), (43, .iload_n 1, 1), (44, .imul, 1), (45, .iload_n 3, 1), (46, .iadd, 1), (47, .iaload, 1), (48, .i2l, 1), (49, .lconst 0, 1), (50, .lconst 1, 1), (51, .invokestatic 38, 3), (54, .iand, 1), (55, .istore_n 2, 1), (56, .iinc 3 1, 3), (59, .goto (-33), 3), (62, .iload_n 2, 1), (63, .ireturn, 1)]
theorem dk_169_0 : ∀ e ∈ cd_169_0, decode prog_8_method_80_code e.1 = .ok e.2 := by decide +kernel
def cd_169 : List (Nat × Instr × Nat) := cd_169_0
theorem dk_169 : ∀ e ∈ cd_169, decode prog_8_method_80_code e.1 = .ok e.2 := dk_169_0
def cd_170_0 : List (Nat × Instr × Nat) := [(0, .aload_n 0, 1), (1, .iload_n 1, 1), (2, .invokevirtual 287, 3), (5, .istore_n 2, 1), (6, .iconst 0, 1), (7, .istore_n 3, 1), (8, .iconst 0, 1), (9, .istore 4, 2), (11, .iload 4, 2), (13, .aload_n 0, 1), (14, .getfield 28, 3), (17, .iload_n 1, 1), (18, .iaload, 1), (19, .if_icmp .ge 35, 3), (22, .aload_n 0, 1), (23, .iload 4, 2), (25, .putfield 280, 3), (28, .iload_n 3, 1), (29, .aload_n 0, 1), (30, .iload_n 1, 1), (31, .invokevirtual 287, 3), (34, .iload_n 2, 1), (35, .if_icmp .eq 10, 3), (38, .iconst 1, 1), (39, .iload 4, 2), (41, .ishl, 1), (42, .goto 4, 3), (45, .iconst 0, 1), (46, .ior, 1), (47, .istore_n 3, 1), (48, .iinc 4 1, 3), (51, .goto (-40), 3), (54, .iload_n 3, 1), (55, .ireturn, 1)]
theorem dk_170_0 : ∀ e ∈ cd_170_0, decode prog_8_method_81_code e.1 = .ok e.2 := by decide +kernel
def cd_170 : List (Nat × Instr × Nat) := cd_170_0
theorem dk_170 : ∀ e ∈ cd_170, decode prog_8_method_81_code e.1 = .ok e.2 := dk_170_0
def cd_171_0 : List (Nat × Instr × Nat) := [(0, .iconst 0, 1), (1, .istore 4, 2), (3, .aload_n 0, 1), (4, .iload_n 2, 1), (5, .putfield 274, 3), (8, .iconst 0, 1), (9, .istore 5, 2), (11, .iload 5, 2), (13, .bipush 6, 2), (15, .if_icmp .ge 37, 3), (18, .aload_n 0, 1), (19, .iload 5, 2), (21, .putfield 277, 3), (24, .iload 4, 2), (26, .aload_n 0, 1), (27, .iload_n 1, 1), (28, .invokevirtual 287, 3), (31, .iload_n 3, 1), (32, .if_icmp .ne 10, 3), (35, .iconst 1, 1), (36, .iload 5, 2), (38, .ishl, 1), (39, .goto 4, 3), (42, .iconst 0, 1), (43, .ior, 1), (44, .istore 4, 2), (46, .iinc 5 1, 3), (49, .goto (-38), 3), (52, .iload 4, 2), (54, .ireturn, 1)]
theorem dk_171_0 : ∀ e ∈ cd_171_0, decode prog_8_method_82_code e.1 = .ok e.2 := by decide +kernel
def cd_171 : List (Nat × Instr × Nat) := cd_171_0
theorem dk_171 : ∀ e ∈ cd_171, decode prog_8_method_82_code e.1 = .ok e.2 := dk_171_0
def cd_172_0 : List (Nat × Instr × Nat) := [(0, .iload_n 2, 1), (1, .i2l, 1), (2, .ldc2_w 61, 3), (5, .ldc2_w 211, 3), (8, .invokestatic 38, 3), (11, .ifCond .eq 25, 3), (14, .aload_n 0, 1), (15, .iload_n 2, 1), (16, .bipush 10, 2), (18, .isub, 1), (19, .invokevirtual 75, 3), (22, .ifCond .eq 14, 3), (25, .iload_n 3, 1), (26, .invokestatic 44, 3), (29, .ifCond .eq 7, 3), (32, .iconst 1, 1), (33, .goto 4, 3), (36, .iconst 0, 1), (37, .istore 4, 2), (39, .iload_n 1, 1), (40, .invokestatic 290, 3), (43, .ifCond .eq 18, 3), (46, .iload_n 2, 1), (47, .i2l, 1), (48, .lconst 0, 1), (49, .lconst 1, 1), (50, .invokestatic 38, 3), (53, .ifCond .ne 11, 3), (56, .iload 4, 2), (58, .ifCond .ne 6, 3), (61, .bipush (-2), 2), (63, .ireturn, 1), (64, .aload_n 0, 1), (65, .getfield 24, 3), (68, .iload_n 1, 1), (69, .iaload, 1), (70, .iconst (-1), 1), (71, .if_icmp .ne 6, 3), (74, .bipush (-11), 2), (76, .ireturn, 1), (77, .aload_n 0, 1), (78, .iload_n 1, 1), (79, .invokevirtual 293, 3), (82, .ifCond .ne 6, 3), (85, .bipush (-2), 2), (87, .ireturn, 1), (88, .aload_n 0, 1), (89, .iconst (-1), 1), (90, .putfield 274, 3), (93, .aload_n 0, 1), (94, .iconst (-1), 1), (95, .putfield 280, 3), (98, .iload_n 2, 1), (99, .ifCond .ne 11, 3), (102, .aload_n 0, 1), (103, .iload_n 1, 1), (104, .invokevirtual 287, 3), (107, .goto 26, 3), (110, .iload_n 2, 1), (111, .iconst 1, 1)]
theorem dk_172_0 : ∀ e ∈ cd_172_0, decode prog_8_method_83_code e.1 = .ok e.2 := by decide +kernel
def cd_172_1 : List (Nat × Instr × Nat) := [(112, .if_icmp .ne 11, 3), (115, .aload_n 0, 1), (116, .iload_n 1, 1), (117, .invokevirtual 296, 3), (120, .goto 13, 3), (123, .aload_n 0, 1), (124, .iload_n 1, 1), (125, .iload_n 2, 1), (126, .bipush 10, 2), (128, .isub, 1), (129, .iload_n 3, 1), (130, .invokevirtual 299, 3), (133, .ireturn, 1)]
theorem dk_172_1 : ∀ e ∈ cd_172_1, decode prog_8_method_83_code e.1 = .ok e.2 := by decide +kernel
def cd_172 : List (Nat × Instr × Nat) := cd_172_0 ++ cd_172_1
theorem dk_172 : ∀ e ∈ cd_172, decode prog_8_method_83_code e.1 = .ok e.2 := dk_app dk_172_0 dk_172_1
def cd_173_0 : List (Nat × Instr × Nat) := [(0, .iload_n 1, 1), (1, .invokestatic 290, 3), (4, .ifCond .eq 11, 3), (7, .aload_n 0, 1), (8, .iload_n 2, 1), (9, .invokevirtual 75, 3), (12, .ifCond .ne 6, 3), (15, .bipush (-2), 2), (17, .ireturn, 1), (18, .aload_n 0, 1), (19, .getfield 24, 3), (22, .iload_n 1, 1), (23, .iconst 1, 1), (24, .iastore, 1), (25, .aload_n 0, 1), (26, .getfield 28, 3), (29, .iload_n 1, 1), (30, .bipush 9, 2), (32, .iastore, 1), (33, .iconst 0, 1), (34, .istore_n 3, 1), (35, .iconst 0, 1), (36, .istore 4, 2), (38, .iload 4, 2), (40, .bipush 9, 2), (42, .if_icmp .ge 38, 3), (45, .aload_n 0, 1), (46, .getfield 31, 3), (49, .bipush 40, 2), (51, .iload_n 1, 1), (52, .imul, 1), (53, .iload 4, 2), (55, .iadd, 1), (56, .aload_n 0, 1), (57, .iload_n 2, 1), (58, .iload 4, 2), (60, .invokevirtual 112, 3), (63, .iastore, 1), (64, .iload_n 3, 1), (65, .aload_n 0, 1), (66, .iload_n 2, 1), (67, .iload 4, 2), (69, .invokevirtual 112, 3), (72, .iadd, 1), (73, .istore_n 3, 1), (74, .iinc 4 1, 3), (77, .goto (-39), 3), (80, .iload_n 3, 1), (81, .ireturn, 1)]
theorem dk_173_0 : ∀ e ∈ cd_173_0, decode prog_8_method_84_code e.1 = .ok e.2 := by decide +kernel
def cd_173 : List (Nat × Instr × Nat) := cd_173_0
theorem dk_173 : ∀ e ∈ cd_173, decode prog_8_method_84_code e.1 = .ok e.2 := dk_173_0
def cd_174_0 : List (Nat × Instr × Nat) := [(0, .aload_n 0, 1), (1, .getfield 11, 3), (4, .aload_n 0, 1), (5, .getfield 15, 3), (8, .invokestatic 257, 3), (11, .aload_n 0, 1), (12, .iconst 1, 1), (13, .putfield 302, 3), (16, .aload_n 0, 1), (17, .bipush 29, 2), (19, .invokevirtual 50, 3), (22, .ireturn, 1)]
theorem dk_174_0 : ∀ e ∈ cd_174_0, decode prog_8_method_85_code e.1 = .ok e.2 := by decide +kernel
def cd_174 : List (Nat × Instr × Nat) := cd_174_0
theorem dk_174 : ∀ e ∈ cd_174, decode prog_8_method_85_code e.1 = .ok e.2 := dk_174_0
def cd_175_0 : List (Nat × Instr × Nat) := [(0, .aload_n 0, 1), (1, .getfield 302, 3), (4, .ifCond .ne 6, 3), (7, .bipush (-3), 2), (9, .ireturn, 1), (10, .aload_n 0, 1), (11, .getfield 15, 3), (14, .aload_n 0, 1), (15, .getfield 11, 3), (18, .invokestatic 257, 3), (21, .aload_n 0, 1), (22, .bipush 29, 2), (24, .invokevirtual 50, 3), (27, .ireturn, 1)]
theorem dk_175_0 : ∀ e ∈ cd_175_0, decode prog_8_method_86_code e.1 = .ok e.2 := by decide +kernel
def cd_175 : List (Nat × Instr × Nat) := cd_175_0
theorem dk_175 : ∀ e ∈ cd_175, decode prog_8_method_86_code e.1 = .ok e.2 := dk_175_0
def cd_176_0 : List (Nat × Instr × Nat) := [(0, .iload_n 1, 1), (1, .i2l, 1), (2, .ldc2_w 59, 3), (5, .ldc2_w 57, 3), (8, .invokestatic 38, 3), (11, .ifCond .eq 15, 3), (14, .aload_n 0, 1), (15, .aload_n 0, 1), (16, .invokevirtual 136, 3), (19, .iload_n 1, 1), (20, .iconst 3, 1), (21, .isub, 1), (22, .invokevirtual 139, 3), (25, .ireturn, 1), (26, .iload_n 1, 1), (27, .i2l, 1), (28, .ldc2_w 61, 3), (31, .ldc2_w 305, 3), (34, .invokestatic 38, 3), (37, .ifCond .eq 15, 3), (40, .aload_n 0, 1), (41, .bipush 18, 2), (43, .iload_n 1, 1), (44, .iadd, 1), (45, .bipush 10, 2), (47, .isub, 1), (48, .invokevirtual 50, 3), (51, .ireturn, 1), (52, .iload_n 1, 1), (53, .i2l, 1), (54, .ldc2_w 213, 3), (57, .ldc2_w 307, 3), (60, .invokestatic 38, 3), (63, .ifCond .eq 15, 3), (66, .aload_n 0, 1), (67, .bipush 21, 2), (69, .iload_n 1, 1), (70, .iadd, 1), (71, .bipush 20, 2), (73, .isub, 1), (74, .invokevirtual 50, 3), (77, .ireturn, 1), (78, .iload_n 1, 1), (79, .i2l, 1), (80, .ldc2_w 309, 3), (83, .ldc2_w 311, 3), (86, .invokestatic 38, 3), (89, .ifCond .eq 15, 3), (92, .aload_n 0, 1), (93, .bipush 24, 2), (95, .iload_n 1, 1), (96, .iadd, 1), (97, .bipush 30, 2), (99, .isub, 1), (100, .invokevirtual 50, 3), (103, .ireturn, 1), (104, .iload_n 1, 1), (105, .tableswitch 102 0 9 #[55, 62, 69, 102, 102, 102, 74, 81, 88, 95], 55), (160, .aload_n 0, 1), (161, .bipush 29, 2)]
theorem dk_176_0 : ∀ e ∈ cd_176_0, decode prog_8_method_87_code e.1 = .ok e.2 := by decide +kernel
def cd_176_1 : List (Nat × Instr × Nat) := [(163, .invokevirtual 50, 3), (166, .ireturn, 1), (167, .aload_n 0, 1), (168, .bipush 33, 2), (170, .invokevirtual 50, 3), (173, .ireturn, 1), (174, .aload_n 0, 1), (175, .invokevirtual 118, 3), (178, .ireturn, 1), (179, .aload_n 0, 1), (180, .bipush 34, 2), (182, .invokevirtual 50, 3), (185, .ireturn, 1), (186, .aload_n 0, 1), (187, .bipush 32, 2), (189, .invokevirtual 50, 3), (192, .ireturn, 1), (193, .aload_n 0, 1), (194, .bipush 30, 2), (196, .invokevirtual 50, 3), (199, .ireturn, 1), (200, .aload_n 0, 1), (201, .bipush 31, 2), (203, .invokevirtual 50, 3), (206, .ireturn, 1), (207, .bipush (-2), 2), (209, .ireturn, 1)]
theorem dk_176_1 : ∀ e ∈ cd_176_1, decode prog_8_method_87_code e.1 = .ok e.2 := by decide +kernel
def cd_176 : List (Nat × Instr × Nat) := cd_176_0 ++ cd_176_1
theorem dk_176 : ∀ e ∈ cd_176, decode prog_8_method_87_code e.1 = .ok e.2 := dk_app dk_176_0 dk_176_1
def cd_177_0 : List (Nat × Instr × Nat) := [(0, .iload_n 1, 1), (1, .invokestatic 290, 3), (4, .ifCond .eq 26, 3), (7, .iload_n 2, 1), (8, .i2l, 1), (9, .ldc2_w 223, 3), (12, .lconst 1, 1), (13, .invokestatic 38, 3), (16, .ifCond .eq 14, 3), (19, .iload_n 2, 1), (20, .iconst (-1), 1), (21, .if_icmp .eq 12, 3), (24, .iload_n 3, 1), (25, .bipush 40, 2), (27, .if_icmp .le 6, 3), (30, .bipush (-2), 2), (32, .ireturn, 1), (33, .iload_n 2, 1), (34, .iconst (-1), 1), (35, .if_icmp .eq 10, 3), (38, .iload_n 3, 1), (39, .ifCond .ge 6, 3), (42, .bipush (-14), 2), (44, .ireturn, 1), (45, .aload_n 0, 1), (46, .getfield 24, 3), (49, .iload_n 1, 1), (50, .iload_n 2, 1), (51, .iastore, 1), (52, .aload_n 0, 1), (53, .getfield 28, 3), (56, .iload_n 1, 1), (57, .iload_n 2, 1), (58, .iconst (-1), 1), (59, .if_icmp .ne 7, 3), (62, .iconst 0, 1), (63, .goto 4, 3), (66, .iload_n 3, 1), (67, .iastore, 1), (68, .iconst 0, 1), (69, .istore 4, 2), (71, .iload 4, 2), (73, .bipush 40, 2), (75, .if_icmp .ge 22, 3), (78, .aload_n 0, 1), (79, .getfield 31, 3), (82, .bipush 40, 2), (84, .iload_n 1, 1), (85, .imul, 1), (86, .iload 4, 2), (88, .iadd, 1), (89, .iconst 0, 1), (90, .iastore, 1), (91, .iinc 4 1, 3), (94, .goto (-23), 3), (97, .iconst 1, 1), (98, .ireturn, 1)]
theorem dk_177_0 : ∀ e ∈ cd_177_0, decode prog_8_method_88_code e.1 = .ok e.2 := by decide +kernel
def cd_177 : List (Nat × Instr × Nat) := cd_177_0
theorem dk_177 : ∀ e ∈ cd_177, decode prog_8_method_88_code e.1 = .ok e.2 := dk_177_0
def cd_178_0 : List (Nat × Instr × Nat) := [(0, .iload_n 1, 1), (1, .invokestatic 290, 3), (4, .ifCond .ne 6, 3), (7, .bipush (-2), 2), (9, .ireturn, 1), (10, .aload_n 0, 1), (11, .getfield 24, 3), (14, .iload_n 1, 1), (15, .iaload, 1), (16, .iconst (-1), 1), (17, .if_icmp .ne 6, 3), (20, .bipush (-11), 2), (22, .ireturn, 1), (23, .aload_n 0, 1), (24, .iload_n 1, 1), (25, .iload_n 2, 1), (26, .i2l, 1), (27, .invokevirtual 313, 3), (30, .ifCond .ne 6, 3), (33, .bipush (-12), 2), (35, .ireturn, 1), (36, .aload_n 0, 1), (37, .getfield 31, 3), (40, .bipush 40, 2), (42, .iload_n 1, 1), (43, .imul, 1), (44, .iload_n 2, 1), (45, .iadd, 1), (46, .aload_n 0, 1), (47, .getfield 24, 3), (50, .iload_n 1, 1), (51, .iaload, 1), (52, .ifCond .ne 8, 3), (55, .iload_n 3, 1), (56, .i2b, 1), (57, .goto 4, 3), (60, .iload_n 3, 1), (61, .iastore, 1), (62, .iconst 1, 1), (63, .ireturn, 1)]
theorem dk_178_0 : ∀ e ∈ cd_178_0, decode prog_8_method_89_code e.1 = .ok e.2 := by decide +kernel
def cd_178 : List (Nat × Instr × Nat) := cd_178_0
theorem dk_178 : ∀ e ∈ cd_178, decode prog_8_method_89_code e.1 = .ok e.2 := dk_178_0
def cd_179_0 : List (Nat × Instr × Nat) := [(0, .iload_n 1, 1), (1, .invokestatic 290, 3), (4, .ifCond .eq 10, 3), (7, .iload_n 3, 1), (8, .invokestatic 290, 3), (11, .ifCond .ne 6, 3), (14, .bipush (-2), 2), (16, .ireturn, 1), (17, .aload_n 0, 1), (18, .getfield 24, 3), (21, .iload_n 1, 1), (22, .iaload, 1), (23, .iconst (-1), 1), (24, .if_icmp .eq 13, 3), (27, .aload_n 0, 1), (28, .getfield 24, 3), (31, .iload_n 3, 1), (32, .iaload, 1), (33, .iconst (-1), 1), (34, .if_icmp .ne 6, 3), (37, .bipush (-11), 2), (39, .ireturn, 1), (40, .aload_n 0, 1), (41, .getfield 24, 3), (44, .iload_n 1, 1), (45, .iaload, 1), (46, .aload_n 0, 1), (47, .getfield 24, 3), (50, .iload_n 3, 1), (51, .iaload, 1), (52, .if_icmp .eq 6, 3), (55, .bipush (-13), 2), (57, .ireturn, 1), (58, .iload 5, 2), (60, .ifCond .lt 39, 3), (63, .iload_n 2, 1), (64, .ifCond .lt 35, 3), (67, .iload 4, 2), (69, .ifCond .lt 30, 3), (72, .iload 5, 2), (74, .aload_n 0, 1), (75, .getfield 28, 3), (78, .iload_n 1, 1), (79, .iaload, 1), (80, .iload_n 2, 1), (81, .isub, 1), (82, .if_icmp .gt 17, 3), (85, .iload 5, 2), (87, .aload_n 0, 1), (88, .getfield 28, 3), (91, .iload_n 3, 1), (92, .iaload, 1), (93, .iload 4, 2), (95, .isub, 1), (96, .if_icmp .le 6, 3), (99, .bipush (-12), 2), (101, .ireturn, 1), (102, .iconst 0, 1), (103, .istore 6, 2), (105, .iload 6, 2)]
theorem dk_179_0 : ∀ e ∈ cd_179_0, decode prog_8_method_90_code e.1 = .ok e.2 := by decide +kernel
def cd_179_1 : List (Nat × Instr × Nat) := [(107, .iload 5, 2), (109, .if_icmp .ge 58, 3), (112, .iload_n 2, 1), (113, .iload 4, 2), (115, .if_icmp .le 8, 3), (118, .iload 6, 2), (120, .goto 10, 3), (123, .iload 5, 2), (125, .iconst 1, 1), (126, .isub, 1), (127, .iload 6, 2), (129, .isub, 1), (130, .istore 7, 2), (132, .aload_n 0, 1), (133, .getfield 31, 3), (136, .bipush 40, 2), (138, .iload_n 3, 1), (139, .imul, 1), (140, .iload 4, 2), (142, .iadd, 1), (143, .iload 7, 2), (145, .iadd, 1), (146, .aload_n 0, 1), (147, .getfield 31, 3), (150, .bipush 40, 2), (152, .iload_n 1, 1), (153, .imul, 1), (154, .iload_n 2, 1), (155, .iadd, 1), (156, .iload 7, 2), (158, .iadd, 1), (159, .iaload, 1), (160, .iastore, 1), (161, .iinc 6 1, 3), (164, .goto (-59), 3), (167, .iload 5, 2), (169, .ireturn, 1)]
theorem dk_179_1 : ∀ e ∈ cd_179_1, decode prog_8_method_90_code e.1 = .ok e.2 := by decide +kernel
def cd_179 : List (Nat × Instr × Nat) := cd_179_0 ++ cd_179_1
theorem dk_179 : ∀ e ∈ cd_179, decode prog_8_method_90_code e.1 = .ok e.2 := dk_app dk_179_0 dk_179_1
def cd_180_0 : List (Nat × Instr × Nat) := [(0, .bipush 40, 2), (2, .iload_n 1, 1), (3, .imul, 1), (4, .lload_n 2, 1), (5, .l2i, 1), (6, .iadd, 1), (7, .istore 4, 2), (9, .aload_n 0, 1), (10, .getfield 11, 3), (13, .bipush 29, 2), (15, .laload, 1), (16, .ldc2_w 34, 3), (19, .lcmp, 1), (20, .ifCond .eq 47, 3), (23, .aload_n 0, 1), (24, .getfield 31, 3), (27, .iload 4, 2), (29, .iaload, 1), (30, .i2l, 1), (31, .aload_n 0, 1), (32, .getfield 31, 3), (35, .iload 4, 2), (37, .iconst 1, 1), (38, .iadd, 1), (39, .iaload, 1), (40, .i2l, 1), (41, .aload_n 0, 1), (42, .getfield 31, 3), (45, .iload 4, 2), (47, .iconst 2, 1), (48, .iadd, 1), (49, .iaload, 1), (50, .i2l, 1), (51, .aload_n 0, 1), (52, .getfield 31, 3), (55, .iload 4, 2), (57, .iconst 3, 1), (58, .iadd, 1), (59, .iaload, 1), (60, .i2l, 1), (61, .invokestatic 67, 3), (64, .ifCond .ne 5, 3), (67, .iconst 0, 1), (68, .ireturn, 1), (69, .aload_n 0, 1), (70, .aload_n 0, 1), (71, .getfield 31, 3), (74, .iload 4, 2), (76, .iaload, 1), (77, .aload_n 0, 1), (78, .getfield 31, 3), (81, .iload 4, 2), (83, .iconst 1, 1), (84, .iadd, 1), (85, .iaload, 1), (86, .aload_n 0, 1), (87, .getfield 31, 3), (90, .iload 4, 2), (92, .iconst 2, 1), (93, .iadd, 1)]
theorem dk_180_0 : ∀ e ∈ cd_180_0, decode prog_8_method_91_code e.1 = .ok e.2 := by decide +kernel
def cd_180_1 : List (Nat × Instr × Nat) := [(94, .iaload, 1), (95, .aload_n 0, 1), (96, .getfield 31, 3), (99, .iload 4, 2), (101, .iconst 3, 1), (102, .iadd, 1), (103, .iaload, 1), (104, .invokevirtual 71, 3), (107, .pop, 1), (108, .iconst 1, 1), (109, .ireturn, 1)]
theorem dk_180_1 : ∀ e ∈ cd_180_1, decode prog_8_method_91_code e.1 = .ok e.2 := by decide +kernel
def cd_180 : List (Nat × Instr × Nat) := cd_180_0 ++ cd_180_1
theorem dk_180 : ∀ e ∈ cd_180, decode prog_8_method_91_code e.1 = .ok e.2 := dk_app dk_180_0 dk_180_1
def cd_181_0 : List (Nat × Instr × Nat) := [(0, .iload_n 1, 1), (1, .invokestatic 290, 3), (4, .ifCond .eq 26, 3), (7, .iload_n 2, 1), (8, .i2l, 1), (9, .lconst 0, 1), (10, .lconst 1, 1), (11, .invokestatic 38, 3), (14, .ifCond .eq 16, 3), (17, .iload 4, 2), (19, .i2l, 1), (20, .lconst 0, 1), (21, .ldc2_w 34, 3), (24, .invokestatic 38, 3), (27, .ifCond .ne 6, 3), (30, .bipush (-2), 2), (32, .ireturn, 1), (33, .aload_n 0, 1), (34, .getfield 24, 3), (37, .iload_n 1, 1), (38, .iaload, 1), (39, .iconst (-1), 1), (40, .if_icmp .eq 16, 3), (43, .aload_n 0, 1), (44, .getfield 24, 3), (47, .iload_n 1, 1), (48, .iaload, 1), (49, .iload_n 2, 1), (50, .if_icmp .eq 6, 3), (53, .bipush (-13), 2), (55, .ireturn, 1), (56, .aload_n 0, 1), (57, .getfield 24, 3), (60, .iload_n 1, 1), (61, .iaload, 1), (62, .iconst (-1), 1), (63, .if_icmp .ne 6, 3), (66, .bipush (-11), 2), (68, .ireturn, 1), (69, .iconst 0, 1), (70, .istore 5, 2), (72, .iconst 0, 1), (73, .istore 6, 2), (75, .iload 6, 2), (77, .iload 4, 2), (79, .if_icmp .ge 60, 3), (82, .iload_n 3, 1), (83, .i2l, 1), (84, .ldc2_w 36, 3), (87, .iload 6, 2), (89, .i2l, 1), (90, .lmul, 1), (91, .ladd, 1), (92, .lstore 7, 2), (94, .aload_n 0, 1), (95, .iload_n 1, 1), (96, .lload 7, 2), (98, .invokevirtual 313, 3), (101, .ifCond .eq 17, 3), (104, .aload_n 0, 1)]
theorem dk_181_0 : ∀ e ∈ cd_181_0, decode prog_8_method_92_code e.1 = .ok e.2 := by decide +kernel
def cd_181_1 : List (Nat × Instr × Nat) := [(105, .iload_n 1, 1), (106, .lload 7, 2), (108, .ldc2_w 59, 3), (111, .ladd, 1), (112, .invokevirtual 313, 3), (115, .ifCond .ne 6, 3), (118, .bipush (-12), 2), (120, .ireturn, 1), (121, .iload 5, 2), (123, .aload_n 0, 1), (124, .iload_n 1, 1), (125, .lload 7, 2), (127, .invokevirtual 317, 3), (130, .iadd, 1), (131, .istore 5, 2), (133, .iinc 6 1, 3), (136, .goto (-61), 3), (139, .iload 5, 2), (141, .ireturn, 1)]
theorem dk_181_1 : ∀ e ∈ cd_181_1, decode prog_8_method_92_code e.1 = .ok e.2 := by decide +kernel
def cd_181 : List (Nat × Instr × Nat) := cd_181_0 ++ cd_181_1
theorem dk_181 : ∀ e ∈ cd_181, decode prog_8_method_92_code e.1 = .ok e.2 := dk_app dk_181_0 dk_181_1
def cd_182_0 : List (Nat × Instr × Nat) := [(0, .lload_n 0, 1), (1, .lconst 0, 1), (2, .lcmp, 1), (3, .ifCond .lt 19, 3), (6, .lload_n 2, 1), (7, .lconst 0, 1), (8, .lcmp, 1), (9, .ifCond .lt 13, 3), (12, .lload_n 0, 1), (13, .ldc2_w 11, 3), (16, .lload_n 2, 1), (17, .lsub, 1), (18, .lcmp, 1), (19, .ifCond .le 7, 3), (22, .ldc2_w 13, 3), (25, .lreturn, 1), (26, .lload_n 0, 1), (27, .lload_n 2, 1), (28, .ladd, 1), (29, .lreturn, 1)]
theorem dk_182_0 : ∀ e ∈ cd_182_0, decode prog_3_method_2_code e.1 = .ok e.2 := by decide +kernel
def cd_182 : List (Nat × Instr × Nat) := cd_182_0
theorem dk_182 : ∀ e ∈ cd_182, decode prog_3_method_2_code e.1 = .ok e.2 := dk_182_0
def cd_183_0 : List (Nat × Instr × Nat) := [(0, .lload_n 0, 1), (1, .lconst 0, 1), (2, .lcmp, 1), (3, .ifCond .lt 9, 3), (6, .lload_n 2, 1), (7, .lconst 0, 1), (8, .lcmp, 1), (9, .ifCond .ge 7, 3), (12, .ldc2_w 13, 3), (15, .lreturn, 1), (16, .lload_n 0, 1), (17, .lconst 0, 1), (18, .lcmp, 1), (19, .ifCond .eq 17, 3), (22, .lload_n 2, 1), (23, .ldc2_w 11, 3), (26, .lload_n 0, 1), (27, .ldiv, 1), (28, .lcmp, 1), (29, .ifCond .le 7, 3), (32, .ldc2_w 13, 3), (35, .lreturn, 1), (36, .lload_n 0, 1), (37, .lload_n 2, 1), (38, .lmul, 1), (39, .lreturn, 1)]
theorem dk_183_0 : ∀ e ∈ cd_183_0, decode prog_3_method_3_code e.1 = .ok e.2 := by decide +kernel
def cd_183 : List (Nat × Instr × Nat) := cd_183_0
theorem dk_183 : ∀ e ∈ cd_183, decode prog_3_method_3_code e.1 = .ok e.2 := dk_183_0
def cd_184_0 : List (Nat × Instr × Nat) := [(0, .lload_n 0, 1), (1, .lstore 4, 2), (3, .lload_n 2, 1), (4, .lstore 6, 2), (6, .iconst 0, 1), (7, .istore 8, 2), (9, .iload 8, 2), (11, .sipush 1000, 3), (14, .if_icmp .ge 31, 3), (17, .lload 6, 2), (19, .lconst 0, 1), (20, .lcmp, 1), (21, .ifCond .le 24, 3), (24, .lload 4, 2), (26, .lload 6, 2), (28, .lrem, 1), (29, .lstore 9, 2), (31, .lload 6, 2), (33, .lstore 4, 2), (35, .lload 9, 2), (37, .lstore 6, 2), (39, .iinc 8 1, 3), (42, .goto (-33), 3), (45, .lload 4, 2), (47, .lreturn, 1)]
theorem dk_184_0 : ∀ e ∈ cd_184_0, decode prog_3_method_4_code e.1 = .ok e.2 := by decide +kernel
def cd_184 : List (Nat × Instr × Nat) := cd_184_0
theorem dk_184 : ∀ e ∈ cd_184, decode prog_3_method_4_code e.1 = .ok e.2 := dk_184_0
def cd_185_0 : List (Nat × Instr × Nat) := [(0, .lload_n 0, 1), (1, .lconst 0, 1), (2, .lcmp, 1), (3, .ifCond .lt 9, 3), (6, .lload_n 2, 1), (7, .lconst 0, 1), (8, .lcmp, 1), (9, .ifCond .gt 7, 3), (12, .ldc2_w 15, 3), (15, .lreturn, 1), (16, .lload_n 0, 1), (17, .lload_n 2, 1), (18, .invokestatic 17, 3), (21, .lstore 5, 2), (23, .lload 5, 2), (25, .lconst 0, 1), (26, .lcmp, 1), (27, .ifCond .gt 7, 3), (30, .ldc2_w 15, 3), (33, .lreturn, 1), (34, .iload 4, 2), (36, .ifCond .ne 7, 3), (39, .lload_n 0, 1), (40, .goto 4, 3), (43, .lload_n 2, 1), (44, .lload 5, 2), (46, .ldiv, 1), (47, .lreturn, 1)]
theorem dk_185_0 : ∀ e ∈ cd_185_0, decode prog_3_method_5_code e.1 = .ok e.2 := by decide +kernel
def cd_185 : List (Nat × Instr × Nat) := cd_185_0
theorem dk_185 : ∀ e ∈ cd_185, decode prog_3_method_5_code e.1 = .ok e.2 := dk_185_0
def cd_186_0 : List (Nat × Instr × Nat) := [(0, .iload_n 0, 1), (1, .iload_n 0, 1), (2, .iconst 1, 1), (3, .iushr, 1), (4, .ldc_w 265, 3), (7, .iand, 1), (8, .isub, 1), (9, .istore_n 0, 1), (10, .iload_n 0, 1), (11, .ldc_w 266, 3), (14, .iand, 1), (15, .iload_n 0, 1), (16, .iconst 2, 1), (17, .iushr, 1), (18, .ldc_w 266, 3), (21, .iand, 1), (22, .iadd, 1), (23, .istore_n 0, 1), (24, .iload_n 0, 1), (25, .iload_n 0, 1), (26, .iconst 4, 1), (27, .iushr, 1), (28, .iadd, 1), (29, .ldc_w 267, 3), (32, .iand, 1), (33, .istore_n 0, 1), (34, .iload_n 0, 1), (35, .iload_n 0, 1), (36, .bipush 8, 2), (38, .iushr, 1), (39, .iadd, 1), (40, .istore_n 0, 1), (41, .iload_n 0, 1), (42, .iload_n 0, 1), (43, .bipush 16, 2), (45, .iushr, 1), (46, .iadd, 1), (47, .istore_n 0, 1), (48, .iload_n 0, 1), (49, .bipush 63, 2), (51, .iand, 1), (52, .ireturn, 1)]
theorem dk_186_0 : ∀ e ∈ cd_186_0, decode prog_9_method_49_code e.1 = .ok e.2 := by decide +kernel
def cd_186 : List (Nat × Instr × Nat) := cd_186_0
theorem dk_186 : ∀ e ∈ cd_186, decode prog_9_method_49_code e.1 = .ok e.2 := dk_186_0
def cd_187_0 : List (Nat × Instr × Nat) := [(0, .new 7, 3), (3, .dup, 1), (4, .invokespecial 9, 3), (7, .astore_n 1, 1), (8, .new 10, 3), (11, .dup, 1), (12, .invokespecial 12, 3), (15, .astore_n 2, 1), (16, .iconst 0, 1), (17, .istore_n 3, 1), (18, .iload_n 3, 1), (19, .aload_n 0, 1), (20, .arraylength, 1), (21, .bipush 6, 2), (23, .isub, 1), (24, .if_icmp .gt 1187, 3), (27, .aload_n 0, 1), (28, .iload_n 3, 1), (29, .iaload, 1), (30, .bipush 31, 2), (32, .iand, 1), (33, .tableswitch 1172 0 31 #[143, 176, 219, 272, 305, 338, 361, 394, 437, 470, 493, 526, 539, 572, 596, 630, 643, 687, 700, 713, 726, 749, 792, 845, 888, 921, 934, 947, 970, 1013, 1056, 1119], 143), (176, .aload_n 1, 1), (177, .aload_n 0, 1), (178, .iload_n 3, 1), (179, .iconst 1, 1), (180, .iadd, 1), (181, .iaload, 1), (182, .aload_n 0, 1), (183, .iload_n 3, 1), (184, .iconst 2, 1), (185, .iadd, 1), (186, .iaload, 1), (187, .invokevirtual 13, 3), (190, .aload_n 2, 1), (191, .aload_n 0, 1), (192, .iload_n 3, 1), (193, .iconst 1, 1), (194, .iadd, 1), (195, .iaload, 1), (196, .aload_n 0, 1), (197, .iload_n 3, 1), (198, .iconst 2, 1), (199, .iadd, 1), (200, .iaload, 1), (201, .invokevirtual 17, 3), (204, .if_icmp .eq 1001, 3), (207, .iconst 0, 1), (208, .ireturn, 1), (209, .aload_n 1, 1), (210, .aload_n 0, 1), (211, .iload_n 3, 1), (212, .iconst 1, 1), (213, .iadd, 1), (214, .iaload, 1), (215, .aload_n 0, 1), (216, .iload_n 3, 1), (217, .iconst 2, 1), (218, .iadd, 1), (219, .iaload, 1)]
theorem dk_187_0 : ∀ e ∈ cd_187_0, decode code e.1 = .ok e.2 := by decide +kernel
def cd_187_1 : List (Nat × Instr × Nat) := [(220, .aload_n 0, 1), (221, .iload_n 3, 1), (222, .iconst 3, 1), (223, .iadd, 1), (224, .iaload, 1), (225, .invokevirtual 18, 3), (228, .aload_n 2, 1), (229, .aload_n 0, 1), (230, .iload_n 3, 1), (231, .iconst 1, 1), (232, .iadd, 1), (233, .iaload, 1), (234, .aload_n 0, 1), (235, .iload_n 3, 1), (236, .iconst 2, 1), (237, .iadd, 1), (238, .iaload, 1), (239, .aload_n 0, 1), (240, .iload_n 3, 1), (241, .iconst 3, 1), (242, .iadd, 1), (243, .iaload, 1), (244, .invokevirtual 22, 3), (247, .if_icmp .eq 958, 3), (250, .iconst 0, 1), (251, .ireturn, 1), (252, .aload_n 1, 1), (253, .aload_n 0, 1), (254, .iload_n 3, 1), (255, .iconst 1, 1), (256, .iadd, 1), (257, .iaload, 1), (258, .aload_n 0, 1), (259, .iload_n 3, 1), (260, .iconst 2, 1), (261, .iadd, 1), (262, .iaload, 1), (263, .aload_n 0, 1), (264, .iload_n 3, 1), (265, .iconst 3, 1), (266, .iadd, 1), (267, .iaload, 1), (268, .aload_n 0, 1), (269, .iload_n 3, 1), (270, .iconst 4, 1), (271, .iadd, 1), (272, .iaload, 1), (273, .invokevirtual 23, 3), (276, .aload_n 2, 1), (277, .aload_n 0, 1), (278, .iload_n 3, 1), (279, .iconst 1, 1), (280, .iadd, 1), (281, .iaload, 1), (282, .aload_n 0, 1), (283, .iload_n 3, 1), (284, .iconst 2, 1), (285, .iadd, 1), (286, .iaload, 1), (287, .aload_n 0, 1)]
theorem dk_187_1 : ∀ e ∈ cd_187_1, decode code e.1 = .ok e.2 := by decide +kernel
def cd_187_2 : List (Nat × Instr × Nat) := [(288, .iload_n 3, 1), (289, .iconst 3, 1), (290, .iadd, 1), (291, .iaload, 1), (292, .aload_n 0, 1), (293, .iload_n 3, 1), (294, .iconst 4, 1), (295, .iadd, 1), (296, .iaload, 1), (297, .invokevirtual 27, 3), (300, .if_icmp .eq 905, 3), (303, .iconst 0, 1), (304, .ireturn, 1), (305, .aload_n 1, 1), (306, .aload_n 0, 1), (307, .iload_n 3, 1), (308, .iconst 1, 1), (309, .iadd, 1), (310, .iaload, 1), (311, .aload_n 0, 1), (312, .iload_n 3, 1), (313, .iconst 2, 1), (314, .iadd, 1), (315, .iaload, 1), (316, .invokevirtual 28, 3), (319, .aload_n 2, 1), (320, .aload_n 0, 1), (321, .iload_n 3, 1), (322, .iconst 1, 1), (323, .iadd, 1), (324, .iaload, 1), (325, .aload_n 0, 1), (326, .iload_n 3, 1), (327, .iconst 2, 1), (328, .iadd, 1), (329, .iaload, 1), (330, .invokevirtual 31, 3), (333, .if_icmp .eq 872, 3), (336, .iconst 0, 1), (337, .ireturn, 1), (338, .aload_n 1, 1), (339, .aload_n 0, 1), (340, .iload_n 3, 1), (341, .iconst 1, 1), (342, .iadd, 1), (343, .iaload, 1), (344, .aload_n 0, 1), (345, .iload_n 3, 1), (346, .iconst 2, 1), (347, .iadd, 1), (348, .iaload, 1), (349, .invokevirtual 32, 3), (352, .aload_n 2, 1), (353, .aload_n 0, 1), (354, .iload_n 3, 1), (355, .iconst 1, 1), (356, .iadd, 1), (357, .iaload, 1), (358, .aload_n 0, 1), (359, .iload_n 3, 1)]
theorem dk_187_2 : ∀ e ∈ cd_187_2, decode code e.1 = .ok e.2 := by decide +kernel
def cd_187_3 : List (Nat × Instr × Nat) := [(360, .iconst 2, 1), (361, .iadd, 1), (362, .iaload, 1), (363, .invokevirtual 35, 3), (366, .if_icmp .eq 839, 3), (369, .iconst 0, 1), (370, .ireturn, 1), (371, .aload_n 1, 1), (372, .aload_n 0, 1), (373, .iload_n 3, 1), (374, .iconst 1, 1), (375, .iadd, 1), (376, .iaload, 1), (377, .invokevirtual 36, 3), (380, .aload_n 2, 1), (381, .aload_n 0, 1), (382, .iload_n 3, 1), (383, .iconst 1, 1), (384, .iadd, 1), (385, .iaload, 1), (386, .invokevirtual 40, 3), (389, .if_icmp .eq 816, 3), (392, .iconst 0, 1), (393, .ireturn, 1), (394, .aload_n 1, 1), (395, .aload_n 0, 1), (396, .iload_n 3, 1), (397, .iconst 1, 1), (398, .iadd, 1), (399, .iaload, 1), (400, .aload_n 0, 1), (401, .iload_n 3, 1), (402, .iconst 2, 1), (403, .iadd, 1), (404, .iaload, 1), (405, .invokevirtual 41, 3), (408, .aload_n 2, 1), (409, .aload_n 0, 1), (410, .iload_n 3, 1), (411, .iconst 1, 1), (412, .iadd, 1), (413, .iaload, 1), (414, .aload_n 0, 1), (415, .iload_n 3, 1), (416, .iconst 2, 1), (417, .iadd, 1), (418, .iaload, 1), (419, .invokevirtual 44, 3), (422, .if_icmp .eq 783, 3), (425, .iconst 0, 1), (426, .ireturn, 1), (427, .aload_n 1, 1), (428, .aload_n 0, 1), (429, .iload_n 3, 1), (430, .iconst 1, 1), (431, .iadd, 1), (432, .iaload, 1), (433, .aload_n 0, 1), (434, .iload_n 3, 1), (435, .iconst 2, 1)]
theorem dk_187_3 : ∀ e ∈ cd_187_3, decode code e.1 = .ok e.2 := by decide +kernel
def cd_187_4 : List (Nat × Instr × Nat) := [(436, .iadd, 1), (437, .iaload, 1), (438, .aload_n 0, 1), (439, .iload_n 3, 1), (440, .iconst 3, 1), (441, .iadd, 1), (442, .iaload, 1), (443, .invokevirtual 45, 3), (446, .aload_n 2, 1), (447, .aload_n 0, 1), (448, .iload_n 3, 1), (449, .iconst 1, 1), (450, .iadd, 1), (451, .iaload, 1), (452, .aload_n 0, 1), (453, .iload_n 3, 1), (454, .iconst 2, 1), (455, .iadd, 1), (456, .iaload, 1), (457, .aload_n 0, 1), (458, .iload_n 3, 1), (459, .iconst 3, 1), (460, .iadd, 1), (461, .iaload, 1), (462, .invokevirtual 48, 3), (465, .if_icmp .eq 740, 3), (468, .iconst 0, 1), (469, .ireturn, 1), (470, .aload_n 1, 1), (471, .aload_n 0, 1), (472, .iload_n 3, 1), (473, .iconst 1, 1), (474, .iadd, 1), (475, .iaload, 1), (476, .aload_n 0, 1), (477, .iload_n 3, 1), (478, .iconst 2, 1), (479, .iadd, 1), (480, .iaload, 1), (481, .invokevirtual 49, 3), (484, .aload_n 2, 1), (485, .aload_n 0, 1), (486, .iload_n 3, 1), (487, .iconst 1, 1), (488, .iadd, 1), (489, .iaload, 1), (490, .aload_n 0, 1), (491, .iload_n 3, 1), (492, .iconst 2, 1), (493, .iadd, 1), (494, .iaload, 1), (495, .invokevirtual 52, 3), (498, .if_icmp .eq 707, 3), (501, .iconst 0, 1), (502, .ireturn, 1), (503, .aload_n 1, 1), (504, .aload_n 0, 1), (505, .iload_n 3, 1), (506, .iconst 1, 1), (507, .iadd, 1)]
theorem dk_187_4 : ∀ e ∈ cd_187_4, decode code e.1 = .ok e.2 := by decide +kernel
def cd_187_5 : List (Nat × Instr × Nat) := [(508, .iaload, 1), (509, .invokevirtual 53, 3), (512, .aload_n 2, 1), (513, .aload_n 0, 1), (514, .iload_n 3, 1), (515, .iconst 1, 1), (516, .iadd, 1), (517, .iaload, 1), (518, .invokevirtual 56, 3), (521, .if_icmp .eq 684, 3), (524, .iconst 0, 1), (525, .ireturn, 1), (526, .aload_n 1, 1), (527, .aload_n 0, 1), (528, .iload_n 3, 1), (529, .iconst 1, 1), (530, .iadd, 1), (531, .iaload, 1), (532, .aload_n 0, 1), (533, .iload_n 3, 1), (534, .iconst 2, 1), (535, .iadd, 1), (536, .iaload, 1), (537, .invokevirtual 57, 3), (540, .aload_n 2, 1), (541, .aload_n 0, 1), (542, .iload_n 3, 1), (543, .iconst 1, 1), (544, .iadd, 1), (545, .iaload, 1), (546, .aload_n 0, 1), (547, .iload_n 3, 1), (548, .iconst 2, 1), (549, .iadd, 1), (550, .iaload, 1), (551, .invokevirtual 60, 3), (554, .if_icmp .eq 651, 3), (557, .iconst 0, 1), (558, .ireturn, 1), (559, .aload_n 1, 1), (560, .invokevirtual 61, 3), (563, .aload_n 2, 1), (564, .invokevirtual 65, 3), (567, .if_icmp .eq 638, 3), (570, .iconst 0, 1), (571, .ireturn, 1), (572, .aload_n 1, 1), (573, .aload_n 0, 1), (574, .iload_n 3, 1), (575, .iconst 1, 1), (576, .iadd, 1), (577, .iaload, 1), (578, .aload_n 0, 1), (579, .iload_n 3, 1), (580, .iconst 2, 1), (581, .iadd, 1), (582, .iaload, 1), (583, .invokevirtual 66, 3), (586, .aload_n 2, 1), (587, .aload_n 0, 1)]
theorem dk_187_5 : ∀ e ∈ cd_187_5, decode code e.1 = .ok e.2 := by decide +kernel
def cd_187_6 : List (Nat × Instr × Nat) := [(588, .iload_n 3, 1), (589, .iconst 1, 1), (590, .iadd, 1), (591, .iaload, 1), (592, .aload_n 0, 1), (593, .iload_n 3, 1), (594, .iconst 2, 1), (595, .iadd, 1), (596, .iaload, 1), (597, .invokevirtual 69, 3), (600, .if_icmp .eq 605, 3), (603, .iconst 0, 1), (604, .ireturn, 1), (605, .aload_n 1, 1), (606, .aload_n 0, 1), (607, .iload_n 3, 1), (608, .iconst 1, 1), (609, .iadd, 1), (610, .iaload, 1), (611, .invokevirtual 70, 3), (614, .aload_n 2, 1), (615, .aload_n 0, 1), (616, .iload_n 3, 1), (617, .iconst 1, 1), (618, .iadd, 1), (619, .iaload, 1), (620, .invokevirtual 74, 3), (623, .lcmp, 1), (624, .ifCond .eq 581, 3), (627, .iconst 0, 1), (628, .ireturn, 1), (629, .aload_n 1, 1), (630, .aload_n 0, 1), (631, .iload_n 3, 1), (632, .iconst 1, 1), (633, .iadd, 1), (634, .iaload, 1), (635, .aload_n 0, 1), (636, .iload_n 3, 1), (637, .iconst 2, 1), (638, .iadd, 1), (639, .iaload, 1), (640, .invokevirtual 75, 3), (643, .aload_n 2, 1), (644, .aload_n 0, 1), (645, .iload_n 3, 1), (646, .iconst 1, 1), (647, .iadd, 1), (648, .iaload, 1), (649, .aload_n 0, 1), (650, .iload_n 3, 1), (651, .iconst 2, 1), (652, .iadd, 1), (653, .iaload, 1), (654, .invokevirtual 79, 3), (657, .lcmp, 1), (658, .ifCond .eq 547, 3), (661, .iconst 0, 1), (662, .ireturn, 1), (663, .aload_n 1, 1)]
theorem dk_187_6 : ∀ e ∈ cd_187_6, decode code e.1 = .ok e.2 := by decide +kernel
def cd_187_7 : List (Nat × Instr × Nat) := [(664, .invokevirtual 80, 3), (667, .aload_n 2, 1), (668, .invokevirtual 83, 3), (671, .if_icmp .eq 534, 3), (674, .iconst 0, 1), (675, .ireturn, 1), (676, .aload_n 1, 1), (677, .aload_n 0, 1), (678, .iload_n 3, 1), (679, .iconst 1, 1), (680, .iadd, 1), (681, .iaload, 1), (682, .aload_n 0, 1), (683, .iload_n 3, 1), (684, .iconst 2, 1), (685, .iadd, 1), (686, .iaload, 1), (687, .aload_n 0, 1), (688, .iload_n 3, 1), (689, .iconst 3, 1), (690, .iadd, 1), (691, .iaload, 1), (692, .invokevirtual 84, 3), (695, .aload_n 2, 1), (696, .aload_n 0, 1), (697, .iload_n 3, 1), (698, .iconst 1, 1), (699, .iadd, 1), (700, .iaload, 1), (701, .aload_n 0, 1), (702, .iload_n 3, 1), (703, .iconst 2, 1), (704, .iadd, 1), (705, .iaload, 1), (706, .aload_n 0, 1), (707, .iload_n 3, 1), (708, .iconst 3, 1), (709, .iadd, 1), (710, .iaload, 1), (711, .invokevirtual 88, 3), (714, .lcmp, 1), (715, .ifCond .eq 490, 3), (718, .iconst 0, 1), (719, .ireturn, 1), (720, .aload_n 1, 1), (721, .invokevirtual 89, 3), (724, .aload_n 2, 1), (725, .invokevirtual 92, 3), (728, .if_icmp .eq 477, 3), (731, .iconst 0, 1), (732, .ireturn, 1), (733, .aload_n 1, 1), (734, .invokevirtual 93, 3), (737, .aload_n 2, 1), (738, .invokevirtual 96, 3), (741, .if_icmp .eq 464, 3), (744, .iconst 0, 1), (745, .ireturn, 1), (746, .aload_n 1, 1), (747, .invokevirtual 97, 3)]
theorem dk_187_7 : ∀ e ∈ cd_187_7, decode code e.1 = .ok e.2 := by decide +kernel
def cd_187_8 : List (Nat × Instr × Nat) := [(750, .aload_n 2, 1), (751, .invokevirtual 100, 3), (754, .if_icmp .eq 451, 3), (757, .iconst 0, 1), (758, .ireturn, 1), (759, .aload_n 1, 1), (760, .aload_n 0, 1), (761, .iload_n 3, 1), (762, .iconst 1, 1), (763, .iadd, 1), (764, .iaload, 1), (765, .invokevirtual 101, 3), (768, .aload_n 2, 1), (769, .aload_n 0, 1), (770, .iload_n 3, 1), (771, .iconst 1, 1), (772, .iadd, 1), (773, .iaload, 1), (774, .invokevirtual 104, 3), (777, .if_icmp .eq 428, 3), (780, .iconst 0, 1), (781, .ireturn, 1), (782, .aload_n 1, 1), (783, .aload_n 0, 1), (784, .iload_n 3, 1), (785, .iconst 1, 1), (786, .iadd, 1), (787, .iaload, 1), (788, .aload_n 0, 1), (789, .iload_n 3, 1), (790, .iconst 2, 1), (791, .iadd, 1), (792, .iaload, 1), (793, .aload_n 0, 1), (794, .iload_n 3, 1), (795, .iconst 3, 1), (796, .iadd, 1), (797, .iaload, 1), (798, .invokevirtual 105, 3), (801, .aload_n 2, 1), (802, .aload_n 0, 1), (803, .iload_n 3, 1), (804, .iconst 1, 1), (805, .iadd, 1), (806, .iaload, 1), (807, .aload_n 0, 1), (808, .iload_n 3, 1), (809, .iconst 2, 1), (810, .iadd, 1), (811, .iaload, 1), (812, .aload_n 0, 1), (813, .iload_n 3, 1), (814, .iconst 3, 1), (815, .iadd, 1), (816, .iaload, 1), (817, .invokevirtual 108, 3), (820, .if_icmp .eq 385, 3), (823, .iconst 0, 1), (824, .ireturn, 1), (825, .aload_n 1, 1)]
theorem dk_187_8 : ∀ e ∈ cd_187_8, decode code e.1 = .ok e.2 := by decide +kernel
def cd_187_9 : List (Nat × Instr × Nat) := [(826, .aload_n 0, 1), (827, .iload_n 3, 1), (828, .iconst 1, 1), (829, .iadd, 1), (830, .iaload, 1), (831, .aload_n 0, 1), (832, .iload_n 3, 1), (833, .iconst 2, 1), (834, .iadd, 1), (835, .iaload, 1), (836, .aload_n 0, 1), (837, .iload_n 3, 1), (838, .iconst 3, 1), (839, .iadd, 1), (840, .iaload, 1), (841, .aload_n 0, 1), (842, .iload_n 3, 1), (843, .iconst 4, 1), (844, .iadd, 1), (845, .iaload, 1), (846, .invokevirtual 109, 3), (849, .aload_n 2, 1), (850, .aload_n 0, 1), (851, .iload_n 3, 1), (852, .iconst 1, 1), (853, .iadd, 1), (854, .iaload, 1), (855, .aload_n 0, 1), (856, .iload_n 3, 1), (857, .iconst 2, 1), (858, .iadd, 1), (859, .iaload, 1), (860, .aload_n 0, 1), (861, .iload_n 3, 1), (862, .iconst 3, 1), (863, .iadd, 1), (864, .iaload, 1), (865, .aload_n 0, 1), (866, .iload_n 3, 1), (867, .iconst 4, 1), (868, .iadd, 1), (869, .iaload, 1), (870, .invokevirtual 112, 3), (873, .if_icmp .eq 332, 3), (876, .iconst 0, 1), (877, .ireturn, 1), (878, .aload_n 1, 1), (879, .aload_n 0, 1), (880, .iload_n 3, 1), (881, .iconst 1, 1), (882, .iadd, 1), (883, .iaload, 1), (884, .aload_n 0, 1), (885, .iload_n 3, 1), (886, .iconst 2, 1), (887, .iadd, 1), (888, .iaload, 1), (889, .aload_n 0, 1), (890, .iload_n 3, 1), (891, .iconst 3, 1)]
theorem dk_187_9 : ∀ e ∈ cd_187_9, decode code e.1 = .ok e.2 := by decide +kernel
def cd_187_10 : List (Nat × Instr × Nat) := [(892, .iadd, 1), (893, .iaload, 1), (894, .invokevirtual 113, 3), (897, .aload_n 2, 1), (898, .aload_n 0, 1), (899, .iload_n 3, 1), (900, .iconst 1, 1), (901, .iadd, 1), (902, .iaload, 1), (903, .aload_n 0, 1), (904, .iload_n 3, 1), (905, .iconst 2, 1), (906, .iadd, 1), (907, .iaload, 1), (908, .aload_n 0, 1), (909, .iload_n 3, 1), (910, .iconst 3, 1), (911, .iadd, 1), (912, .iaload, 1), (913, .invokevirtual 116, 3), (916, .if_icmp .eq 289, 3), (919, .iconst 0, 1), (920, .ireturn, 1), (921, .aload_n 1, 1), (922, .aload_n 0, 1), (923, .iload_n 3, 1), (924, .iconst 1, 1), (925, .iadd, 1), (926, .iaload, 1), (927, .aload_n 0, 1), (928, .iload_n 3, 1), (929, .iconst 2, 1), (930, .iadd, 1), (931, .iaload, 1), (932, .invokevirtual 117, 3), (935, .aload_n 2, 1), (936, .aload_n 0, 1), (937, .iload_n 3, 1), (938, .iconst 1, 1), (939, .iadd, 1), (940, .iaload, 1), (941, .aload_n 0, 1), (942, .iload_n 3, 1), (943, .iconst 2, 1), (944, .iadd, 1), (945, .iaload, 1), (946, .invokevirtual 120, 3), (949, .if_icmp .eq 256, 3), (952, .iconst 0, 1), (953, .ireturn, 1), (954, .aload_n 1, 1), (955, .invokevirtual 121, 3), (958, .aload_n 2, 1), (959, .invokevirtual 124, 3), (962, .if_icmp .eq 243, 3), (965, .iconst 0, 1), (966, .ireturn, 1), (967, .aload_n 1, 1), (968, .invokevirtual 125, 3), (971, .aload_n 2, 1)]
theorem dk_187_10 : ∀ e ∈ cd_187_10, decode code e.1 = .ok e.2 := by decide +kernel
def cd_187_11 : List (Nat × Instr × Nat) := [(972, .invokevirtual 128, 3), (975, .if_icmp .eq 230, 3), (978, .iconst 0, 1), (979, .ireturn, 1), (980, .aload_n 1, 1), (981, .aload_n 0, 1), (982, .iload_n 3, 1), (983, .iconst 1, 1), (984, .iadd, 1), (985, .iaload, 1), (986, .invokevirtual 129, 3), (989, .aload_n 2, 1), (990, .aload_n 0, 1), (991, .iload_n 3, 1), (992, .iconst 1, 1), (993, .iadd, 1), (994, .iaload, 1), (995, .invokevirtual 132, 3), (998, .if_icmp .eq 207, 3), (1001, .iconst 0, 1), (1002, .ireturn, 1), (1003, .aload_n 1, 1), (1004, .aload_n 0, 1), (1005, .iload_n 3, 1), (1006, .iconst 1, 1), (1007, .iadd, 1), (1008, .iaload, 1), (1009, .aload_n 0, 1), (1010, .iload_n 3, 1), (1011, .iconst 2, 1), (1012, .iadd, 1), (1013, .iaload, 1), (1014, .aload_n 0, 1), (1015, .iload_n 3, 1), (1016, .iconst 3, 1), (1017, .iadd, 1), (1018, .iaload, 1), (1019, .invokevirtual 133, 3), (1022, .aload_n 2, 1), (1023, .aload_n 0, 1), (1024, .iload_n 3, 1), (1025, .iconst 1, 1), (1026, .iadd, 1), (1027, .iaload, 1), (1028, .aload_n 0, 1), (1029, .iload_n 3, 1), (1030, .iconst 2, 1), (1031, .iadd, 1), (1032, .iaload, 1), (1033, .aload_n 0, 1), (1034, .iload_n 3, 1), (1035, .iconst 3, 1), (1036, .iadd, 1), (1037, .iaload, 1), (1038, .invokevirtual 136, 3), (1041, .if_icmp .eq 164, 3), (1044, .iconst 0, 1), (1045, .ireturn, 1), (1046, .aload_n 1, 1), (1047, .aload_n 0, 1)]
theorem dk_187_11 : ∀ e ∈ cd_187_11, decode code e.1 = .ok e.2 := by decide +kernel
def cd_187_12 : List (Nat × Instr × Nat) := [(1048, .iload_n 3, 1), (1049, .iconst 1, 1), (1050, .iadd, 1), (1051, .iaload, 1), (1052, .aload_n 0, 1), (1053, .iload_n 3, 1), (1054, .iconst 2, 1), (1055, .iadd, 1), (1056, .iaload, 1), (1057, .aload_n 0, 1), (1058, .iload_n 3, 1), (1059, .iconst 3, 1), (1060, .iadd, 1), (1061, .iaload, 1), (1062, .invokevirtual 137, 3), (1065, .aload_n 2, 1), (1066, .aload_n 0, 1), (1067, .iload_n 3, 1), (1068, .iconst 1, 1), (1069, .iadd, 1), (1070, .iaload, 1), (1071, .aload_n 0, 1), (1072, .iload_n 3, 1), (1073, .iconst 2, 1), (1074, .iadd, 1), (1075, .iaload, 1), (1076, .aload_n 0, 1), (1077, .iload_n 3, 1), (1078, .iconst 3, 1), (1079, .iadd, 1), (1080, .iaload, 1), (1081, .invokevirtual 140, 3), (1084, .if_icmp .eq 121, 3), (1087, .iconst 0, 1), (1088, .ireturn, 1), (1089, .aload_n 1, 1), (1090, .aload_n 0, 1), (1091, .iload_n 3, 1), (1092, .iconst 1, 1), (1093, .iadd, 1), (1094, .iaload, 1), (1095, .aload_n 0, 1), (1096, .iload_n 3, 1), (1097, .iconst 2, 1), (1098, .iadd, 1), (1099, .iaload, 1), (1100, .aload_n 0, 1), (1101, .iload_n 3, 1), (1102, .iconst 3, 1), (1103, .iadd, 1), (1104, .iaload, 1), (1105, .aload_n 0, 1), (1106, .iload_n 3, 1), (1107, .iconst 4, 1), (1108, .iadd, 1), (1109, .iaload, 1), (1110, .aload_n 0, 1), (1111, .iload_n 3, 1), (1112, .iconst 5, 1), (1113, .iadd, 1)]
theorem dk_187_12 : ∀ e ∈ cd_187_12, decode code e.1 = .ok e.2 := by decide +kernel
def cd_187_13 : List (Nat × Instr × Nat) := [(1114, .iaload, 1), (1115, .invokevirtual 141, 3), (1118, .aload_n 2, 1), (1119, .aload_n 0, 1), (1120, .iload_n 3, 1), (1121, .iconst 1, 1), (1122, .iadd, 1), (1123, .iaload, 1), (1124, .aload_n 0, 1), (1125, .iload_n 3, 1), (1126, .iconst 2, 1), (1127, .iadd, 1), (1128, .iaload, 1), (1129, .aload_n 0, 1), (1130, .iload_n 3, 1), (1131, .iconst 3, 1), (1132, .iadd, 1), (1133, .iaload, 1), (1134, .aload_n 0, 1), (1135, .iload_n 3, 1), (1136, .iconst 4, 1), (1137, .iadd, 1), (1138, .iaload, 1), (1139, .aload_n 0, 1), (1140, .iload_n 3, 1), (1141, .iconst 5, 1), (1142, .iadd, 1), (1143, .iaload, 1), (1144, .invokevirtual 145, 3), (1147, .if_icmp .eq 58, 3), (1150, .iconst 0, 1), (1151, .ireturn, 1), (1152, .aload_n 1, 1), (1153, .aload_n 0, 1), (1154, .iload_n 3, 1), (1155, .iconst 1, 1), (1156, .iadd, 1), (1157, .iaload, 1), (1158, .aload_n 0, 1), (1159, .iload_n 3, 1), (1160, .iconst 2, 1), (1161, .iadd, 1), (1162, .iaload, 1), (1163, .aload_n 0, 1), (1164, .iload_n 3, 1), (1165, .iconst 3, 1), (1166, .iadd, 1), (1167, .iaload, 1), (1168, .aload_n 0, 1), (1169, .iload_n 3, 1), (1170, .iconst 4, 1), (1171, .iadd, 1), (1172, .iaload, 1), (1173, .invokevirtual 146, 3), (1176, .aload_n 2, 1), (1177, .aload_n 0, 1), (1178, .iload_n 3, 1), (1179, .iconst 1, 1), (1180, .iadd, 1), (1181, .iaload, 1)]
theorem dk_187_13 : ∀ e ∈ cd_187_13, decode code e.1 = .ok e.2 := by decide +kernel
def cd_187_14 : List (Nat × Instr × Nat) := [(1182, .aload_n 0, 1), (1183, .iload_n 3, 1), (1184, .iconst 2, 1), (1185, .iadd, 1), (1186, .iaload, 1), (1187, .aload_n 0, 1), (1188, .iload_n 3, 1), (1189, .iconst 3, 1), (1190, .iadd, 1), (1191, .iaload, 1), (1192, .aload_n 0, 1), (1193, .iload_n 3, 1), (1194, .iconst 4, 1), (1195, .iadd, 1), (1196, .iaload, 1), (1197, .invokevirtual 149, 3), (1200, .if_icmp .eq 5, 3), (1203, .iconst 0, 1), (1204, .ireturn, 1), (1205, .iinc 3 6, 3), (1208, .goto (-1190), 3), (1211, .iconst 1, 1), (1212, .ireturn, 1)]
theorem dk_187_14 : ∀ e ∈ cd_187_14, decode code e.1 = .ok e.2 := by decide +kernel
def cd_187 : List (Nat × Instr × Nat) := cd_187_0 ++ cd_187_1 ++ cd_187_2 ++ cd_187_3 ++ cd_187_4 ++ cd_187_5 ++ cd_187_6 ++ cd_187_7 ++ cd_187_8 ++ cd_187_9 ++ cd_187_10 ++ cd_187_11 ++ cd_187_12 ++ cd_187_13 ++ cd_187_14
theorem dk_187 : ∀ e ∈ cd_187, decode code e.1 = .ok e.2 := dk_app (dk_app (dk_app (dk_app (dk_app (dk_app (dk_app (dk_app (dk_app (dk_app (dk_app (dk_app (dk_app (dk_app dk_187_0 dk_187_1) dk_187_2) dk_187_3) dk_187_4) dk_187_5) dk_187_6) dk_187_7) dk_187_8) dk_187_9) dk_187_10) dk_187_11) dk_187_12) dk_187_13) dk_187_14
def dk_Ok (bs : List ByteArray) (ts : List (List (Nat × Instr × Nat))) : Prop := ∀ j, ∀ e ∈ ts.getD j [], decode (bs.getD j ⟨#[]⟩) e.1 = .ok e.2
theorem dk_nil : dk_Ok [] [] := fun j e h => by simp at h
theorem dk_cons {b : ByteArray} {bs : List ByteArray} {t : List (Nat × Instr × Nat)} {ts : List (List (Nat × Instr × Nat))} (h : ∀ e ∈ t, decode b e.1 = .ok e.2) (hs : dk_Ok bs ts) : dk_Ok (b :: bs) (t :: ts) := fun j => match j with
  | 0 => h
  | j + 1 => hs j
def mBY4 : List ByteArray := prog_8_method_71_code :: prog_8_method_72_code :: prog_8_method_73_code :: prog_8_method_74_code :: prog_8_method_75_code :: prog_8_method_76_code :: prog_8_method_77_code :: prog_8_method_78_code :: prog_8_method_79_code :: prog_8_method_80_code :: prog_8_method_81_code :: prog_8_method_82_code :: prog_8_method_83_code :: prog_8_method_84_code :: prog_8_method_85_code :: prog_8_method_86_code :: prog_8_method_87_code :: prog_8_method_88_code :: prog_8_method_89_code :: prog_8_method_90_code :: prog_8_method_91_code :: prog_8_method_92_code :: prog_3_method_2_code :: prog_3_method_3_code :: prog_3_method_4_code :: prog_3_method_5_code :: prog_9_method_49_code :: code :: []
def mCD4 : List (List (Nat × Instr × Nat)) := cd_160 :: cd_161 :: cd_162 :: cd_163 :: cd_164 :: cd_165 :: cd_166 :: cd_167 :: cd_168 :: cd_169 :: cd_170 :: cd_171 :: cd_172 :: cd_173 :: cd_174 :: cd_175 :: cd_176 :: cd_177 :: cd_178 :: cd_179 :: cd_180 :: cd_181 :: cd_182 :: cd_183 :: cd_184 :: cd_185 :: cd_186 :: cd_187 :: []
theorem dk_ok4 : dk_Ok mBY4 mCD4 := dk_cons dk_160 (dk_cons dk_161 (dk_cons dk_162 (dk_cons dk_163 (dk_cons dk_164 (dk_cons dk_165 (dk_cons dk_166 (dk_cons dk_167 (dk_cons dk_168 (dk_cons dk_169 (dk_cons dk_170 (dk_cons dk_171 (dk_cons dk_172 (dk_cons dk_173 (dk_cons dk_174 (dk_cons dk_175 (dk_cons dk_176 (dk_cons dk_177 (dk_cons dk_178 (dk_cons dk_179 (dk_cons dk_180 (dk_cons dk_181 (dk_cons dk_182 (dk_cons dk_183 (dk_cons dk_184 (dk_cons dk_185 (dk_cons dk_186 (dk_cons dk_187 (dk_nil))))))))))))))))))))))))))))
def mBY3 : List ByteArray := prog_8_method_31_code :: prog_8_method_32_code :: prog_8_method_33_code :: prog_8_method_34_code :: prog_8_method_35_code :: prog_8_method_36_code :: prog_8_method_37_code :: prog_8_method_38_code :: prog_8_method_39_code :: prog_8_method_40_code :: prog_8_method_41_code :: prog_8_method_42_code :: prog_8_method_43_code :: prog_8_method_44_code :: prog_8_method_45_code :: prog_8_method_46_code :: prog_8_method_47_code :: prog_8_method_48_code :: prog_8_method_49_code :: prog_8_method_50_code :: prog_8_method_51_code :: prog_8_method_52_code :: prog_8_method_53_code :: prog_8_method_54_code :: prog_8_method_55_code :: prog_8_method_56_code :: prog_8_method_57_code :: prog_8_method_58_code :: prog_8_method_59_code :: prog_8_method_60_code :: prog_8_method_61_code :: prog_8_method_62_code :: prog_8_method_63_code :: prog_8_method_64_code :: prog_8_method_65_code :: prog_8_method_66_code :: prog_8_method_67_code :: prog_8_method_68_code :: prog_8_method_69_code :: prog_8_method_70_code :: mBY4
def mCD3 : List (List (Nat × Instr × Nat)) := cd_120 :: cd_121 :: cd_122 :: cd_123 :: cd_124 :: cd_125 :: cd_126 :: cd_127 :: cd_128 :: cd_129 :: cd_130 :: cd_131 :: cd_132 :: cd_133 :: cd_134 :: cd_135 :: cd_136 :: cd_137 :: cd_138 :: cd_139 :: cd_140 :: cd_141 :: cd_142 :: cd_143 :: cd_144 :: cd_145 :: cd_146 :: cd_147 :: cd_148 :: cd_149 :: cd_150 :: cd_151 :: cd_152 :: cd_153 :: cd_154 :: cd_155 :: cd_156 :: cd_157 :: cd_158 :: cd_159 :: mCD4
theorem dk_ok3 : dk_Ok mBY3 mCD3 := dk_cons dk_120 (dk_cons dk_121 (dk_cons dk_122 (dk_cons dk_123 (dk_cons dk_124 (dk_cons dk_125 (dk_cons dk_126 (dk_cons dk_127 (dk_cons dk_128 (dk_cons dk_129 (dk_cons dk_130 (dk_cons dk_131 (dk_cons dk_132 (dk_cons dk_133 (dk_cons dk_134 (dk_cons dk_135 (dk_cons dk_136 (dk_cons dk_137 (dk_cons dk_138 (dk_cons dk_139 (dk_cons dk_140 (dk_cons dk_141 (dk_cons dk_142 (dk_cons dk_143 (dk_cons dk_144 (dk_cons dk_145 (dk_cons dk_146 (dk_cons dk_147 (dk_cons dk_148 (dk_cons dk_149 (dk_cons dk_150 (dk_cons dk_151 (dk_cons dk_152 (dk_cons dk_153 (dk_cons dk_154 (dk_cons dk_155 (dk_cons dk_156 (dk_cons dk_157 (dk_cons dk_158 (dk_cons dk_159 (dk_ok4))))))))))))))))))))))))))))))))))))))))
def mBY2 : List ByteArray := prog_6_method_3_code :: prog_6_method_4_code :: prog_6_method_5_code :: prog_6_method_6_code :: prog_6_method_7_code :: prog_6_method_8_code :: prog_6_method_9_code :: prog_6_method_10_code :: prog_6_method_11_code :: prog_6_method_12_code :: prog_8_method_1_code :: prog_8_method_2_code :: prog_8_method_3_code :: prog_8_method_4_code :: prog_8_method_5_code :: prog_8_method_6_code :: prog_8_method_7_code :: prog_8_method_8_code :: prog_8_method_9_code :: prog_8_method_10_code :: prog_8_method_11_code :: prog_8_method_12_code :: prog_8_method_13_code :: prog_8_method_14_code :: prog_8_method_15_code :: prog_8_method_16_code :: prog_8_method_17_code :: prog_8_method_18_code :: prog_8_method_19_code :: prog_8_method_20_code :: prog_8_method_21_code :: prog_8_method_22_code :: prog_8_method_23_code :: prog_8_method_24_code :: prog_8_method_25_code :: prog_8_method_26_code :: prog_8_method_27_code :: prog_8_method_28_code :: prog_8_method_29_code :: prog_8_method_30_code :: mBY3
def mCD2 : List (List (Nat × Instr × Nat)) := cd_80 :: cd_81 :: cd_82 :: cd_83 :: cd_84 :: cd_85 :: cd_86 :: cd_87 :: cd_88 :: cd_89 :: cd_90 :: cd_91 :: cd_92 :: cd_93 :: cd_94 :: cd_95 :: cd_96 :: cd_97 :: cd_98 :: cd_99 :: cd_100 :: cd_101 :: cd_102 :: cd_103 :: cd_104 :: cd_105 :: cd_106 :: cd_107 :: cd_108 :: cd_109 :: cd_110 :: cd_111 :: cd_112 :: cd_113 :: cd_114 :: cd_115 :: cd_116 :: cd_117 :: cd_118 :: cd_119 :: mCD3
theorem dk_ok2 : dk_Ok mBY2 mCD2 := dk_cons dk_80 (dk_cons dk_81 (dk_cons dk_82 (dk_cons dk_83 (dk_cons dk_84 (dk_cons dk_85 (dk_cons dk_86 (dk_cons dk_87 (dk_cons dk_88 (dk_cons dk_89 (dk_cons dk_90 (dk_cons dk_91 (dk_cons dk_92 (dk_cons dk_93 (dk_cons dk_94 (dk_cons dk_95 (dk_cons dk_96 (dk_cons dk_97 (dk_cons dk_98 (dk_cons dk_99 (dk_cons dk_100 (dk_cons dk_101 (dk_cons dk_102 (dk_cons dk_103 (dk_cons dk_104 (dk_cons dk_105 (dk_cons dk_106 (dk_cons dk_107 (dk_cons dk_108 (dk_cons dk_109 (dk_cons dk_110 (dk_cons dk_111 (dk_cons dk_112 (dk_cons dk_113 (dk_cons dk_114 (dk_cons dk_115 (dk_cons dk_116 (dk_cons dk_117 (dk_cons dk_118 (dk_cons dk_119 (dk_ok3))))))))))))))))))))))))))))))))))))))))
def mBY1 : List ByteArray := prog_2_method_1_code :: prog_2_method_2_code :: prog_2_method_3_code :: prog_2_method_4_code :: prog_2_method_5_code :: prog_2_method_6_code :: prog_2_method_7_code :: prog_2_method_8_code :: prog_2_method_9_code :: prog_2_method_10_code :: prog_2_method_11_code :: prog_2_method_12_code :: prog_2_method_13_code :: prog_2_method_14_code :: prog_2_method_15_code :: prog_2_method_16_code :: prog_2_method_17_code :: prog_2_method_18_code :: prog_2_method_19_code :: prog_2_method_20_code :: prog_2_method_21_code :: prog_2_method_22_code :: prog_2_method_23_code :: prog_2_method_24_code :: prog_2_method_25_code :: prog_2_method_26_code :: prog_4_method_1_code :: prog_4_method_2_code :: prog_4_method_3_code :: prog_4_method_4_code :: prog_4_method_5_code :: prog_4_method_6_code :: prog_4_method_7_code :: prog_5_method_1_code :: prog_5_method_2_code :: prog_5_method_3_code :: prog_5_method_4_code :: prog_5_method_5_code :: prog_6_method_1_code :: prog_6_method_2_code :: mBY2
def mCD1 : List (List (Nat × Instr × Nat)) := cd_40 :: cd_41 :: cd_42 :: cd_43 :: cd_44 :: cd_45 :: cd_46 :: cd_47 :: cd_48 :: cd_49 :: cd_50 :: cd_51 :: cd_52 :: cd_53 :: cd_54 :: cd_55 :: cd_56 :: cd_57 :: cd_58 :: cd_59 :: cd_60 :: cd_61 :: cd_62 :: cd_63 :: cd_64 :: cd_65 :: cd_66 :: cd_67 :: cd_68 :: cd_69 :: cd_70 :: cd_71 :: cd_72 :: cd_73 :: cd_74 :: cd_75 :: cd_76 :: cd_77 :: cd_78 :: cd_79 :: mCD2
theorem dk_ok1 : dk_Ok mBY1 mCD1 := dk_cons dk_40 (dk_cons dk_41 (dk_cons dk_42 (dk_cons dk_43 (dk_cons dk_44 (dk_cons dk_45 (dk_cons dk_46 (dk_cons dk_47 (dk_cons dk_48 (dk_cons dk_49 (dk_cons dk_50 (dk_cons dk_51 (dk_cons dk_52 (dk_cons dk_53 (dk_cons dk_54 (dk_cons dk_55 (dk_cons dk_56 (dk_cons dk_57 (dk_cons dk_58 (dk_cons dk_59 (dk_cons dk_60 (dk_cons dk_61 (dk_cons dk_62 (dk_cons dk_63 (dk_cons dk_64 (dk_cons dk_65 (dk_cons dk_66 (dk_cons dk_67 (dk_cons dk_68 (dk_cons dk_69 (dk_cons dk_70 (dk_cons dk_71 (dk_cons dk_72 (dk_cons dk_73 (dk_cons dk_74 (dk_cons dk_75 (dk_cons dk_76 (dk_cons dk_77 (dk_cons dk_78 (dk_cons dk_79 (dk_ok2))))))))))))))))))))))))))))))))))))))))
def mBY0 : List ByteArray := prog_1_method_1_code :: prog_1_method_2_code :: prog_1_method_3_code :: prog_1_method_4_code :: prog_1_method_5_code :: prog_1_method_6_code :: prog_1_method_7_code :: prog_1_method_8_code :: prog_1_method_9_code :: prog_1_method_10_code :: prog_1_method_11_code :: prog_1_method_12_code :: prog_1_method_13_code :: prog_1_method_14_code :: prog_1_method_15_code :: prog_1_method_16_code :: prog_1_method_17_code :: prog_1_method_18_code :: prog_1_method_19_code :: prog_1_method_20_code :: prog_1_method_21_code :: prog_1_method_22_code :: prog_1_method_23_code :: prog_1_method_24_code :: prog_1_method_25_code :: prog_1_method_26_code :: prog_1_method_27_code :: prog_1_method_28_code :: prog_1_method_29_code :: prog_1_method_30_code :: prog_1_method_31_code :: prog_1_method_32_code :: prog_1_method_33_code :: prog_1_method_34_code :: prog_1_method_35_code :: prog_1_method_36_code :: prog_1_method_37_code :: prog_1_method_38_code :: prog_1_method_39_code :: prog_1_method_40_code :: mBY1
def mCD0 : List (List (Nat × Instr × Nat)) := cd_0 :: cd_1 :: cd_2 :: cd_3 :: cd_4 :: cd_5 :: cd_6 :: cd_7 :: cd_8 :: cd_9 :: cd_10 :: cd_11 :: cd_12 :: cd_13 :: cd_14 :: cd_15 :: cd_16 :: cd_17 :: cd_18 :: cd_19 :: cd_20 :: cd_21 :: cd_22 :: cd_23 :: cd_24 :: cd_25 :: cd_26 :: cd_27 :: cd_28 :: cd_29 :: cd_30 :: cd_31 :: cd_32 :: cd_33 :: cd_34 :: cd_35 :: cd_36 :: cd_37 :: cd_38 :: cd_39 :: mCD1
theorem dk_ok0 : dk_Ok mBY0 mCD0 := dk_cons dk_0 (dk_cons dk_1 (dk_cons dk_2 (dk_cons dk_3 (dk_cons dk_4 (dk_cons dk_5 (dk_cons dk_6 (dk_cons dk_7 (dk_cons dk_8 (dk_cons dk_9 (dk_cons dk_10 (dk_cons dk_11 (dk_cons dk_12 (dk_cons dk_13 (dk_cons dk_14 (dk_cons dk_15 (dk_cons dk_16 (dk_cons dk_17 (dk_cons dk_18 (dk_cons dk_19 (dk_cons dk_20 (dk_cons dk_21 (dk_cons dk_22 (dk_cons dk_23 (dk_cons dk_24 (dk_cons dk_25 (dk_cons dk_26 (dk_cons dk_27 (dk_cons dk_28 (dk_cons dk_29 (dk_cons dk_30 (dk_cons dk_31 (dk_cons dk_32 (dk_cons dk_33 (dk_cons dk_34 (dk_cons dk_35 (dk_cons dk_36 (dk_cons dk_37 (dk_cons dk_38 (dk_cons dk_39 (dk_ok1))))))))))))))))))))))))))))))))))))))))
theorem mby_ok : ∀ j, mby j = mBY0.getD j ⟨#[]⟩ := by
  intro j
  have h : mMT.map (fun x => x.2.1) = mBY0 := rfl
  rw [← h]
  simp only [mby, mmt, List.getD_eq_getElem?_getD, List.getElem?_map]
  cases mMT[j]? <;> rfl
def mcd (y pc : Nat) : Option (Instr × Nat) := ((mCD0.getD y []).find? (fun e => e.1 == pc)).map (fun e => e.2)
theorem mcd_ok {y pc : Nat} {i : Instr} {len : Nat} (h : mcd y pc = some (i, len)) : decode (mby y) pc = .ok (i, len) := by
  unfold mcd at h
  cases hf : (mCD0.getD y []).find? (fun e => e.1 == pc) with
  | none => rw [hf] at h; cases h
  | some e =>
    rw [hf] at h
    have h1 := List.mem_of_find?_eq_some hf
    have h2 : e.1 = pc := by simpa using List.find?_some hf
    have h3 := dk_ok0 y e h1
    rw [← mby_ok] at h3
    have h4 : e.2 = (i, len) := Option.some.inj h
    rw [h2, h4] at h3
    exact h3
