-- ===== PART A: goes FIRST, ahead of the names: the tables' words, and 'selects' of the private methods out of them =====
/-- a private method of a class that the tables say can be made, by its rows of tables_1 -/
def lw_okq (q : MethodName × Nat) : Prop := (q.1.cls ≠ "java/lang/invoke/MethodHandle" ∧ q.1.cls ≠ "java/lang/invoke/VarHandle") ∧ Cond.instantiable q.1.cls q.2 ∈ tables_1 ∧ Cond.privateMethod q.1 ∈ tables_1 ∧ Cond.instanceMethod q.1 ∈ tables_1
theorem lw_p0 : lw_okq (⟨"ConfessBySize", "paidTo", "(LConfessBySize$Standing;I)I"⟩, 9) := ⟨⟨by decide +kernel, by decide +kernel⟩, List.mem_of_getElem? (i := 17) (by decide +kernel), List.mem_of_getElem? (i := 375) (by decide +kernel), List.mem_of_getElem? (i := 376) (by decide +kernel)⟩
theorem lw_p1 : lw_okq (⟨"ConfessBySize", "crimesFitting", "(I)I"⟩, 9) := ⟨⟨by decide +kernel, by decide +kernel⟩, List.mem_of_getElem? (i := 17) (by decide +kernel), List.mem_of_getElem? (i := 380) (by decide +kernel), List.mem_of_getElem? (i := 381) (by decide +kernel)⟩
theorem lw_p2 : lw_okq (⟨"ConfessBySize", "isFitting", "(III)Z"⟩, 9) := ⟨⟨by decide +kernel, by decide +kernel⟩, List.mem_of_getElem? (i := 17) (by decide +kernel), List.mem_of_getElem? (i := 388) (by decide +kernel), List.mem_of_getElem? (i := 389) (by decide +kernel)⟩
theorem lw_p3 : lw_okq (⟨"ConfessBySize", "sizesLeft", "(I)I"⟩, 9) := ⟨⟨by decide +kernel, by decide +kernel⟩, List.mem_of_getElem? (i := 17) (by decide +kernel), List.mem_of_getElem? (i := 427) (by decide +kernel), List.mem_of_getElem? (i := 428) (by decide +kernel)⟩
theorem lw_p4 : lw_okq (⟨"ConfessBySize", "nextToTry", "(I)I"⟩, 9) := ⟨⟨by decide +kernel, by decide +kernel⟩, List.mem_of_getElem? (i := 17) (by decide +kernel), List.mem_of_getElem? (i := 439) (by decide +kernel), List.mem_of_getElem? (i := 440) (by decide +kernel)⟩
theorem lw_p5 : lw_okq (⟨"ConfessBySize", "leftAtWorst", "(III)I"⟩, 9) := ⟨⟨by decide +kernel, by decide +kernel⟩, List.mem_of_getElem? (i := 17) (by decide +kernel), List.mem_of_getElem? (i := 443) (by decide +kernel), List.mem_of_getElem? (i := 444) (by decide +kernel)⟩
theorem lw_p6 : lw_okq (⟨"ConfessBySize", "peopleFitted", "(I)I"⟩, 9) := ⟨⟨by decide +kernel, by decide +kernel⟩, List.mem_of_getElem? (i := 17) (by decide +kernel), List.mem_of_getElem? (i := 475) (by decide +kernel), List.mem_of_getElem? (i := 476) (by decide +kernel)⟩
theorem lw_p7 : lw_okq (⟨"ConfessBySize", "halvesOf", "(I)I"⟩, 9) := ⟨⟨by decide +kernel, by decide +kernel⟩, List.mem_of_getElem? (i := 17) (by decide +kernel), List.mem_of_getElem? (i := 483) (by decide +kernel), List.mem_of_getElem? (i := 484) (by decide +kernel)⟩
theorem lw_p8 : lw_okq (⟨"ConfessBySize", "canGoHalves", "(III)Z"⟩, 9) := ⟨⟨by decide +kernel, by decide +kernel⟩, List.mem_of_getElem? (i := 17) (by decide +kernel), List.mem_of_getElem? (i := 487) (by decide +kernel), List.mem_of_getElem? (i := 488) (by decide +kernel)⟩
theorem lw_p9 : lw_okq (⟨"ConfessBySize", "mayConfess", "(LConfessBySize$Standing;II)Z"⟩, 9) := ⟨⟨by decide +kernel, by decide +kernel⟩, List.mem_of_getElem? (i := 17) (by decide +kernel), List.mem_of_getElem? (i := 497) (by decide +kernel), List.mem_of_getElem? (i := 498) (by decide +kernel)⟩
theorem lw_p10 : lw_okq (⟨"ConfessBySize", "isFree", "(LConfessBySize$Standing;I)Z"⟩, 9) := ⟨⟨by decide +kernel, by decide +kernel⟩, List.mem_of_getElem? (i := 17) (by decide +kernel), List.mem_of_getElem? (i := 501) (by decide +kernel), List.mem_of_getElem? (i := 502) (by decide +kernel)⟩
theorem lw_p11 : lw_okq (⟨"ConfessBySize", "isOpen", "()Z"⟩, 9) := ⟨⟨by decide +kernel, by decide +kernel⟩, List.mem_of_getElem? (i := 17) (by decide +kernel), List.mem_of_getElem? (i := 542) (by decide +kernel), List.mem_of_getElem? (i := 543) (by decide +kernel)⟩
theorem lw_p12 : lw_okq (⟨"ConfessBySize", "findMatch", "()V"⟩, 9) := ⟨⟨by decide +kernel, by decide +kernel⟩, List.mem_of_getElem? (i := 17) (by decide +kernel), List.mem_of_getElem? (i := 546) (by decide +kernel), List.mem_of_getElem? (i := 547) (by decide +kernel)⟩
theorem lw_p13 : lw_okq (⟨"ConfessBySize$Matching", "keepIfBetter", "(II)V"⟩, 7) := ⟨⟨by decide +kernel, by decide +kernel⟩, List.mem_of_getElem? (i := 110) (by decide +kernel), List.mem_of_getElem? (i := 570) (by decide +kernel), List.mem_of_getElem? (i := 571) (by decide +kernel)⟩
theorem lw_p14 : lw_okq (⟨"ConfessBySize", "toldOfMatch", "(I)I"⟩, 9) := ⟨⟨by decide +kernel, by decide +kernel⟩, List.mem_of_getElem? (i := 17) (by decide +kernel), List.mem_of_getElem? (i := 574) (by decide +kernel), List.mem_of_getElem? (i := 575) (by decide +kernel)⟩
theorem lw_p15 : lw_okq (⟨"ConfessBySize", "stitchesFor", "(II)I"⟩, 9) := ⟨⟨by decide +kernel, by decide +kernel⟩, List.mem_of_getElem? (i := 17) (by decide +kernel), List.mem_of_getElem? (i := 589) (by decide +kernel), List.mem_of_getElem? (i := 590) (by decide +kernel)⟩
def lw_privs_1 : List (MethodName × Nat) := [(⟨"ConfessBySize", "paidTo", "(LConfessBySize$Standing;I)I"⟩, 9), (⟨"ConfessBySize", "crimesFitting", "(I)I"⟩, 9), (⟨"ConfessBySize", "isFitting", "(III)Z"⟩, 9), (⟨"ConfessBySize", "sizesLeft", "(I)I"⟩, 9), (⟨"ConfessBySize", "nextToTry", "(I)I"⟩, 9), (⟨"ConfessBySize", "leftAtWorst", "(III)I"⟩, 9), (⟨"ConfessBySize", "peopleFitted", "(I)I"⟩, 9), (⟨"ConfessBySize", "halvesOf", "(I)I"⟩, 9), (⟨"ConfessBySize", "canGoHalves", "(III)Z"⟩, 9), (⟨"ConfessBySize", "mayConfess", "(LConfessBySize$Standing;II)Z"⟩, 9), (⟨"ConfessBySize", "isFree", "(LConfessBySize$Standing;I)Z"⟩, 9), (⟨"ConfessBySize", "isOpen", "()Z"⟩, 9), (⟨"ConfessBySize", "findMatch", "()V"⟩, 9), (⟨"ConfessBySize$Matching", "keepIfBetter", "(II)V"⟩, 7), (⟨"ConfessBySize", "toldOfMatch", "(I)I"⟩, 9), (⟨"ConfessBySize", "stitchesFor", "(II)I"⟩, 9)]
theorem lw_r1 : ∀ q ∈ lw_privs_1, lw_okq q := List.forall_mem_cons.mpr ⟨lw_p0, List.forall_mem_cons.mpr ⟨lw_p1, List.forall_mem_cons.mpr ⟨lw_p2, List.forall_mem_cons.mpr ⟨lw_p3, List.forall_mem_cons.mpr ⟨lw_p4, List.forall_mem_cons.mpr ⟨lw_p5, List.forall_mem_cons.mpr ⟨lw_p6, List.forall_mem_cons.mpr ⟨lw_p7, List.forall_mem_cons.mpr ⟨lw_p8, List.forall_mem_cons.mpr ⟨lw_p9, List.forall_mem_cons.mpr ⟨lw_p10, List.forall_mem_cons.mpr ⟨lw_p11, List.forall_mem_cons.mpr ⟨lw_p12, List.forall_mem_cons.mpr ⟨lw_p13, List.forall_mem_cons.mpr ⟨lw_p14, List.forall_mem_cons.mpr ⟨lw_p15, fun _ h => absurd h List.not_mem_nil⟩⟩⟩⟩⟩⟩⟩⟩⟩⟩⟩⟩⟩⟩⟩⟩
theorem lw_p16 : lw_okq (⟨"ConfessBySize", "comesFor", "(II)V"⟩, 9) := ⟨⟨by decide +kernel, by decide +kernel⟩, List.mem_of_getElem? (i := 17) (by decide +kernel), List.mem_of_getElem? (i := 640) (by decide +kernel), List.mem_of_getElem? (i := 641) (by decide +kernel)⟩
theorem lw_p17 : lw_okq (⟨"ConfessBySize", "paidInAll", "(LConfessBySize$Standing;)I"⟩, 9) := ⟨⟨by decide +kernel, by decide +kernel⟩, List.mem_of_getElem? (i := 17) (by decide +kernel), List.mem_of_getElem? (i := 648) (by decide +kernel), List.mem_of_getElem? (i := 649) (by decide +kernel)⟩
theorem lw_p18 : lw_okq (⟨"ConfessBySize", "withMatch", "(J)J"⟩, 9) := ⟨⟨by decide +kernel, by decide +kernel⟩, List.mem_of_getElem? (i := 17) (by decide +kernel), List.mem_of_getElem? (i := 672) (by decide +kernel), List.mem_of_getElem? (i := 673) (by decide +kernel)⟩
theorem lw_p19 : lw_okq (⟨"ConfessBySizeModel", "read", "()I"⟩, 40) := ⟨⟨by decide +kernel, by decide +kernel⟩, List.mem_of_getElem? (i := 678) (by decide +kernel), List.mem_of_getElem? (i := 821) (by decide +kernel), List.mem_of_getElem? (i := 822) (by decide +kernel)⟩
theorem lw_p20 : lw_okq (⟨"ConfessBySizeModel", "readOne", "(I)I"⟩, 40) := ⟨⟨by decide +kernel, by decide +kernel⟩, List.mem_of_getElem? (i := 678) (by decide +kernel), List.mem_of_getElem? (i := 825) (by decide +kernel), List.mem_of_getElem? (i := 826) (by decide +kernel)⟩
theorem lw_p21 : lw_okq (⟨"ConfessBySizeModel", "isFigure", "(III)Z"⟩, 40) := ⟨⟨by decide +kernel, by decide +kernel⟩, List.mem_of_getElem? (i := 678) (by decide +kernel), List.mem_of_getElem? (i := 832) (by decide +kernel), List.mem_of_getElem? (i := 833) (by decide +kernel)⟩
theorem lw_p22 : lw_okq (⟨"ConfessBySizeModel", "readCrimes", "(I)I"⟩, 40) := ⟨⟨by decide +kernel, by decide +kernel⟩, List.mem_of_getElem? (i := 678) (by decide +kernel), List.mem_of_getElem? (i := 836) (by decide +kernel), List.mem_of_getElem? (i := 837) (by decide +kernel)⟩
theorem lw_p23 : lw_okq (⟨"ConfessBySizeModel", "isOne", "(I)Z"⟩, 40) := ⟨⟨by decide +kernel, by decide +kernel⟩, List.mem_of_getElem? (i := 678) (by decide +kernel), List.mem_of_getElem? (i := 848) (by decide +kernel), List.mem_of_getElem? (i := 849) (by decide +kernel)⟩
theorem lw_p24 : lw_okq (⟨"ConfessBySizeModel", "oneNow", "(II)I"⟩, 40) := ⟨⟨by decide +kernel, by decide +kernel⟩, List.mem_of_getElem? (i := 678) (by decide +kernel), List.mem_of_getElem? (i := 852) (by decide +kernel), List.mem_of_getElem? (i := 853) (by decide +kernel)⟩
theorem lw_p25 : lw_okq (⟨"ConfessBySizeModel", "bears", "(I)I"⟩, 40) := ⟨⟨by decide +kernel, by decide +kernel⟩, List.mem_of_getElem? (i := 678) (by decide +kernel), List.mem_of_getElem? (i := 856) (by decide +kernel), List.mem_of_getElem? (i := 857) (by decide +kernel)⟩
theorem lw_p26 : lw_okq (⟨"ConfessBySizeModel", "paid", "(I)I"⟩, 40) := ⟨⟨by decide +kernel, by decide +kernel⟩, List.mem_of_getElem? (i := 678) (by decide +kernel), List.mem_of_getElem? (i := 860) (by decide +kernel), List.mem_of_getElem? (i := 861) (by decide +kernel)⟩
theorem lw_p27 : lw_okq (⟨"ConfessBySizeModel", "fitting", "(I)I"⟩, 40) := ⟨⟨by decide +kernel, by decide +kernel⟩, List.mem_of_getElem? (i := 678) (by decide +kernel), List.mem_of_getElem? (i := 864) (by decide +kernel), List.mem_of_getElem? (i := 865) (by decide +kernel)⟩
theorem lw_p28 : lw_okq (⟨"ConfessBySizeModel", "fits", "(II)Z"⟩, 40) := ⟨⟨by decide +kernel, by decide +kernel⟩, List.mem_of_getElem? (i := 678) (by decide +kernel), List.mem_of_getElem? (i := 868) (by decide +kernel), List.mem_of_getElem? (i := 869) (by decide +kernel)⟩
theorem lw_p29 : lw_okq (⟨"ConfessBySizeModel", "fitsBy", "(IIII)Z"⟩, 40) := ⟨⟨by decide +kernel, by decide +kernel⟩, List.mem_of_getElem? (i := 678) (by decide +kernel), List.mem_of_getElem? (i := 872) (by decide +kernel), List.mem_of_getElem? (i := 873) (by decide +kernel)⟩
theorem lw_p30 : lw_okq (⟨"ConfessBySizeModel", "counts", "(II)I"⟩, 40) := ⟨⟨by decide +kernel, by decide +kernel⟩, List.mem_of_getElem? (i := 678) (by decide +kernel), List.mem_of_getElem? (i := 876) (by decide +kernel), List.mem_of_getElem? (i := 877) (by decide +kernel)⟩
theorem lw_p31 : lw_okq (⟨"ConfessBySizeModel", "isHand", "(II)Z"⟩, 40) := ⟨⟨by decide +kernel, by decide +kernel⟩, List.mem_of_getElem? (i := 678) (by decide +kernel), List.mem_of_getElem? (i := 880) (by decide +kernel), List.mem_of_getElem? (i := 881) (by decide +kernel)⟩
def lw_privs_2 : List (MethodName × Nat) := [(⟨"ConfessBySize", "comesFor", "(II)V"⟩, 9), (⟨"ConfessBySize", "paidInAll", "(LConfessBySize$Standing;)I"⟩, 9), (⟨"ConfessBySize", "withMatch", "(J)J"⟩, 9), (⟨"ConfessBySizeModel", "read", "()I"⟩, 40), (⟨"ConfessBySizeModel", "readOne", "(I)I"⟩, 40), (⟨"ConfessBySizeModel", "isFigure", "(III)Z"⟩, 40), (⟨"ConfessBySizeModel", "readCrimes", "(I)I"⟩, 40), (⟨"ConfessBySizeModel", "isOne", "(I)Z"⟩, 40), (⟨"ConfessBySizeModel", "oneNow", "(II)I"⟩, 40), (⟨"ConfessBySizeModel", "bears", "(I)I"⟩, 40), (⟨"ConfessBySizeModel", "paid", "(I)I"⟩, 40), (⟨"ConfessBySizeModel", "fitting", "(I)I"⟩, 40), (⟨"ConfessBySizeModel", "fits", "(II)Z"⟩, 40), (⟨"ConfessBySizeModel", "fitsBy", "(IIII)Z"⟩, 40), (⟨"ConfessBySizeModel", "counts", "(II)I"⟩, 40), (⟨"ConfessBySizeModel", "isHand", "(II)Z"⟩, 40)]
theorem lw_r2 : ∀ q ∈ lw_privs_2, lw_okq q := List.forall_mem_cons.mpr ⟨lw_p16, List.forall_mem_cons.mpr ⟨lw_p17, List.forall_mem_cons.mpr ⟨lw_p18, List.forall_mem_cons.mpr ⟨lw_p19, List.forall_mem_cons.mpr ⟨lw_p20, List.forall_mem_cons.mpr ⟨lw_p21, List.forall_mem_cons.mpr ⟨lw_p22, List.forall_mem_cons.mpr ⟨lw_p23, List.forall_mem_cons.mpr ⟨lw_p24, List.forall_mem_cons.mpr ⟨lw_p25, List.forall_mem_cons.mpr ⟨lw_p26, List.forall_mem_cons.mpr ⟨lw_p27, List.forall_mem_cons.mpr ⟨lw_p28, List.forall_mem_cons.mpr ⟨lw_p29, List.forall_mem_cons.mpr ⟨lw_p30, List.forall_mem_cons.mpr ⟨lw_p31, fun _ h => absurd h List.not_mem_nil⟩⟩⟩⟩⟩⟩⟩⟩⟩⟩⟩⟩⟩⟩⟩⟩
theorem lw_p32 : lw_okq (⟨"ConfessBySizeModel", "howLarge", "(I)I"⟩, 40) := ⟨⟨by decide +kernel, by decide +kernel⟩, List.mem_of_getElem? (i := 678) (by decide +kernel), List.mem_of_getElem? (i := 884) (by decide +kernel), List.mem_of_getElem? (i := 885) (by decide +kernel)⟩
theorem lw_p33 : lw_okq (⟨"ConfessBySizeModel", "couldBe", "(II)Z"⟩, 40) := ⟨⟨by decide +kernel, by decide +kernel⟩, List.mem_of_getElem? (i := 678) (by decide +kernel), List.mem_of_getElem? (i := 888) (by decide +kernel), List.mem_of_getElem? (i := 889) (by decide +kernel)⟩
theorem lw_p34 : lw_okq (⟨"ConfessBySizeModel", "nextOf", "(I)I"⟩, 40) := ⟨⟨by decide +kernel, by decide +kernel⟩, List.mem_of_getElem? (i := 678) (by decide +kernel), List.mem_of_getElem? (i := 892) (by decide +kernel), List.mem_of_getElem? (i := 893) (by decide +kernel)⟩
theorem lw_p35 : lw_okq (⟨"ConfessBySizeModel", "isCrime", "(I)Z"⟩, 40) := ⟨⟨by decide +kernel, by decide +kernel⟩, List.mem_of_getElem? (i := 678) (by decide +kernel), List.mem_of_getElem? (i := 908) (by decide +kernel), List.mem_of_getElem? (i := 909) (by decide +kernel)⟩
theorem lw_p36 : lw_okq (⟨"ConfessBySizeModel", "crimeNow", "(II)I"⟩, 40) := ⟨⟨by decide +kernel, by decide +kernel⟩, List.mem_of_getElem? (i := 678) (by decide +kernel), List.mem_of_getElem? (i := 912) (by decide +kernel), List.mem_of_getElem? (i := 913) (by decide +kernel)⟩
theorem lw_p37 : lw_okq (⟨"ConfessBySizeModel", "hangsOn", "(I)I"⟩, 40) := ⟨⟨by decide +kernel, by decide +kernel⟩, List.mem_of_getElem? (i := 678) (by decide +kernel), List.mem_of_getElem? (i := 916) (by decide +kernel), List.mem_of_getElem? (i := 917) (by decide +kernel)⟩
theorem lw_p38 : lw_okq (⟨"ConfessBySizeModel", "fitted", "(I)I"⟩, 40) := ⟨⟨by decide +kernel, by decide +kernel⟩, List.mem_of_getElem? (i := 678) (by decide +kernel), List.mem_of_getElem? (i := 920) (by decide +kernel), List.mem_of_getElem? (i := 921) (by decide +kernel)⟩
theorem lw_p39 : lw_okq (⟨"ConfessBySizeModel", "halvesOf", "(I)I"⟩, 40) := ⟨⟨by decide +kernel, by decide +kernel⟩, List.mem_of_getElem? (i := 678) (by decide +kernel), List.mem_of_getElem? (i := 924) (by decide +kernel), List.mem_of_getElem? (i := 925) (by decide +kernel)⟩
theorem lw_p40 : lw_okq (⟨"ConfessBySizeModel", "isFree", "(I)Z"⟩, 40) := ⟨⟨by decide +kernel, by decide +kernel⟩, List.mem_of_getElem? (i := 678) (by decide +kernel), List.mem_of_getElem? (i := 932) (by decide +kernel), List.mem_of_getElem? (i := 933) (by decide +kernel)⟩
theorem lw_p41 : lw_okq (⟨"ConfessBySizeModel", "matchNow", "(I)I"⟩, 40) := ⟨⟨by decide +kernel, by decide +kernel⟩, List.mem_of_getElem? (i := 678) (by decide +kernel), List.mem_of_getElem? (i := 948) (by decide +kernel), List.mem_of_getElem? (i := 949) (by decide +kernel)⟩
theorem lw_p42 : lw_okq (⟨"ConfessBySizeModel", "codes", "()I"⟩, 40) := ⟨⟨by decide +kernel, by decide +kernel⟩, List.mem_of_getElem? (i := 678) (by decide +kernel), List.mem_of_getElem? (i := 952) (by decide +kernel), List.mem_of_getElem? (i := 953) (by decide +kernel)⟩
theorem lw_p43 : lw_okq (⟨"ConfessBySizeModel", "isMatch", "(I)Z"⟩, 40) := ⟨⟨by decide +kernel, by decide +kernel⟩, List.mem_of_getElem? (i := 678) (by decide +kernel), List.mem_of_getElem? (i := 956) (by decide +kernel), List.mem_of_getElem? (i := 957) (by decide +kernel)⟩
theorem lw_p44 : lw_okq (⟨"ConfessBySizeModel", "hasBy", "(II)I"⟩, 40) := ⟨⟨by decide +kernel, by decide +kernel⟩, List.mem_of_getElem? (i := 678) (by decide +kernel), List.mem_of_getElem? (i := 960) (by decide +kernel), List.mem_of_getElem? (i := 961) (by decide +kernel)⟩
theorem lw_p45 : lw_okq (⟨"ConfessBySizeModel", "stitchesNow", "()I"⟩, 40) := ⟨⟨by decide +kernel, by decide +kernel⟩, List.mem_of_getElem? (i := 678) (by decide +kernel), List.mem_of_getElem? (i := 968) (by decide +kernel), List.mem_of_getElem? (i := 969) (by decide +kernel)⟩
theorem lw_p46 : lw_okq (⟨"ConfessBySizeModel", "freeCrimes", "()I"⟩, 40) := ⟨⟨by decide +kernel, by decide +kernel⟩, List.mem_of_getElem? (i := 678) (by decide +kernel), List.mem_of_getElem? (i := 972) (by decide +kernel), List.mem_of_getElem? (i := 973) (by decide +kernel)⟩
theorem lw_p47 : lw_okq (⟨"ConfessBySizeModel", "alterBy", "(I)I"⟩, 40) := ⟨⟨by decide +kernel, by decide +kernel⟩, List.mem_of_getElem? (i := 678) (by decide +kernel), List.mem_of_getElem? (i := 976) (by decide +kernel), List.mem_of_getElem? (i := 977) (by decide +kernel)⟩
def lw_privs_3 : List (MethodName × Nat) := [(⟨"ConfessBySizeModel", "howLarge", "(I)I"⟩, 40), (⟨"ConfessBySizeModel", "couldBe", "(II)Z"⟩, 40), (⟨"ConfessBySizeModel", "nextOf", "(I)I"⟩, 40), (⟨"ConfessBySizeModel", "isCrime", "(I)Z"⟩, 40), (⟨"ConfessBySizeModel", "crimeNow", "(II)I"⟩, 40), (⟨"ConfessBySizeModel", "hangsOn", "(I)I"⟩, 40), (⟨"ConfessBySizeModel", "fitted", "(I)I"⟩, 40), (⟨"ConfessBySizeModel", "halvesOf", "(I)I"⟩, 40), (⟨"ConfessBySizeModel", "isFree", "(I)Z"⟩, 40), (⟨"ConfessBySizeModel", "matchNow", "(I)I"⟩, 40), (⟨"ConfessBySizeModel", "codes", "()I"⟩, 40), (⟨"ConfessBySizeModel", "isMatch", "(I)Z"⟩, 40), (⟨"ConfessBySizeModel", "hasBy", "(II)I"⟩, 40), (⟨"ConfessBySizeModel", "stitchesNow", "()I"⟩, 40), (⟨"ConfessBySizeModel", "freeCrimes", "()I"⟩, 40), (⟨"ConfessBySizeModel", "alterBy", "(I)I"⟩, 40)]
theorem lw_r3 : ∀ q ∈ lw_privs_3, lw_okq q := List.forall_mem_cons.mpr ⟨lw_p32, List.forall_mem_cons.mpr ⟨lw_p33, List.forall_mem_cons.mpr ⟨lw_p34, List.forall_mem_cons.mpr ⟨lw_p35, List.forall_mem_cons.mpr ⟨lw_p36, List.forall_mem_cons.mpr ⟨lw_p37, List.forall_mem_cons.mpr ⟨lw_p38, List.forall_mem_cons.mpr ⟨lw_p39, List.forall_mem_cons.mpr ⟨lw_p40, List.forall_mem_cons.mpr ⟨lw_p41, List.forall_mem_cons.mpr ⟨lw_p42, List.forall_mem_cons.mpr ⟨lw_p43, List.forall_mem_cons.mpr ⟨lw_p44, List.forall_mem_cons.mpr ⟨lw_p45, List.forall_mem_cons.mpr ⟨lw_p46, List.forall_mem_cons.mpr ⟨lw_p47, fun _ h => absurd h List.not_mem_nil⟩⟩⟩⟩⟩⟩⟩⟩⟩⟩⟩⟩⟩⟩⟩⟩
theorem lw_p48 : lw_okq (⟨"ConfessBySizeModel", "weeksNow", "(III)I"⟩, 40) := ⟨⟨by decide +kernel, by decide +kernel⟩, List.mem_of_getElem? (i := 678) (by decide +kernel), List.mem_of_getElem? (i := 992) (by decide +kernel), List.mem_of_getElem? (i := 993) (by decide +kernel)⟩
theorem lw_p49 : lw_okq (⟨"ConfessBySizeModel", "draw", "(I)I"⟩, 40) := ⟨⟨by decide +kernel, by decide +kernel⟩, List.mem_of_getElem? (i := 678) (by decide +kernel), List.mem_of_getElem? (i := 996) (by decide +kernel), List.mem_of_getElem? (i := 997) (by decide +kernel)⟩
theorem lw_p50 : lw_okq (⟨"ConfessBySizeModel", "paidAll", "()I"⟩, 40) := ⟨⟨by decide +kernel, by decide +kernel⟩, List.mem_of_getElem? (i := 678) (by decide +kernel), List.mem_of_getElem? (i := 1004) (by decide +kernel), List.mem_of_getElem? (i := 1005) (by decide +kernel)⟩
theorem lw_p51 : lw_okq (⟨"ConfessBySizeModel", "howMany", "(I)I"⟩, 40) := ⟨⟨by decide +kernel, by decide +kernel⟩, List.mem_of_getElem? (i := 678) (by decide +kernel), List.mem_of_getElem? (i := 1020) (by decide +kernel), List.mem_of_getElem? (i := 1021) (by decide +kernel)⟩
theorem lw_p52 : lw_okq (⟨"ConfessBySizeModel", "mix", "(J)V"⟩, 40) := ⟨⟨by decide +kernel, by decide +kernel⟩, List.mem_of_getElem? (i := 678) (by decide +kernel), List.mem_of_getElem? (i := 1029) (by decide +kernel), List.mem_of_getElem? (i := 1030) (by decide +kernel)⟩
def lw_privs_4 : List (MethodName × Nat) := [(⟨"ConfessBySizeModel", "weeksNow", "(III)I"⟩, 40), (⟨"ConfessBySizeModel", "draw", "(I)I"⟩, 40), (⟨"ConfessBySizeModel", "paidAll", "()I"⟩, 40), (⟨"ConfessBySizeModel", "howMany", "(I)I"⟩, 40), (⟨"ConfessBySizeModel", "mix", "(J)V"⟩, 40)]
theorem lw_r4 : ∀ q ∈ lw_privs_4, lw_okq q := List.forall_mem_cons.mpr ⟨lw_p48, List.forall_mem_cons.mpr ⟨lw_p49, List.forall_mem_cons.mpr ⟨lw_p50, List.forall_mem_cons.mpr ⟨lw_p51, List.forall_mem_cons.mpr ⟨lw_p52, fun _ h => absurd h List.not_mem_nil⟩⟩⟩⟩⟩
def lw_privs : List (MethodName × Nat) := lw_privs_1 ++ (lw_privs_2 ++ (lw_privs_3 ++ (lw_privs_4)))
def lw_tbl : List Cond := k2_sels lw_privs ++ tables_1
theorem lw_privs_ok : ∀ q ∈ lw_privs, lw_okq q := by
  show ∀ q ∈ lw_privs_1 ++ (lw_privs_2 ++ (lw_privs_3 ++ (lw_privs_4))), lw_okq q
  exact List.forall_mem_append.mpr ⟨lw_r1, List.forall_mem_append.mpr ⟨lw_r2, List.forall_mem_append.mpr ⟨lw_r3, lw_r4⟩⟩⟩
-- ===== end of PART A; then your names; then what follows =====
/-! ===== BEGIN words of one list among another's, by their places ===== -/
theorem goodIn_r {big : List Cond} (ws : List Cond) (ps : List Nat) (hp : ws = ps.filterMap (fun i => big[i]?)) (h : ws.all goodWord = true) : GoodIn big ws := by
  intro w hw
  have h1 := List.all_eq_true.mp h w hw
  rw [hp] at hw
  obtain ⟨i, -, hi⟩ := List.mem_filterMap.mp hw
  have hm : w ∈ big := by first | exact List.mem_of_getElem? hi | exact List.getElem?_mem hi
  exact ⟨hm, good_of_word h1⟩
theorem goodIn_app {big a b : List Cond} (ha : GoodIn big a) (hb : GoodIn big b) : GoodIn big (a ++ b) := fun w h => (List.mem_append.mp h).elim (ha w) (hb w)
theorem goodIn_ca {big a b : List Cond} {c : Cond} (ha : GoodIn big (c :: a)) (hb : GoodIn big b) : GoodIn big (c :: (a ++ b)) := fun w h => (List.mem_cons.mp h).elim (fun e => ha w (List.mem_cons.mpr (Or.inl e))) (fun h => (List.mem_append.mp h).elim (fun h => ha w (List.mem_cons.mpr (Or.inr h))) (hb w))
theorem goodIn_sub {big ws : List Cond} (hm : ∀ w ∈ ws, w ∈ big) (h : ws.all goodWord = true) : GoodIn big ws := fun w hw => ⟨hm w hw, good_of_word (List.all_eq_true.mp h w hw)⟩
/-! ===== END ===== -/
def RX0 : String := "ConfessBySize$Boy"
def TX0 : u_T := fun k => match k with
  | 0 => ("ConfessBySize$Man", "size", "I", true)
  | _ => ("ConfessBySize$Man", "hand", "I", true)
def tyX0 : Nat → FieldType := fun k => match k with
  | 0 => .int
  | _ => .int
abbrev wsX00 : List Cond := u_ws RX0 TX0 2
theorem nmX0 : ∀ a, a < 2 → ∀ b, b < 2 → a ≠ b → (TX0 a).2.1 ≠ (TX0 b).2.1 := by decide +kernel
theorem tyX0_ok : ∀ k, k < 2 → parseFieldDescriptor (TX0 k).2.2.1 = some (tyX0 k) := by decide +kernel
abbrev cX0_init : ByteArray := prog_2_method_1_code
def yX0_init : MethodName := ⟨RX0, "<init>", "(II)V"⟩
abbrev cX0_kind : ByteArray := prog_2_method_2_code
def yX0_kind : MethodName := ⟨RX0, "kind", "()I"⟩
abbrev cX0_bears : ByteArray := prog_2_method_3_code
def yX0_bears : MethodName := ⟨RX0, "bears", "()I"⟩
abbrev cX0_doesConfess : ByteArray := prog_2_method_4_code
def yX0_doesConfess : MethodName := ⟨RX0, "doesConfess", "()Z"⟩
def RX1 : String := "ConfessBySize$Crime"
def TX1 : u_T := fun k => match k with
  | 0 => ("ConfessBySize$Crime", "toldSize", "I", true)
  | 1 => ("ConfessBySize$Crime", "hand", "I", true)
  | _ => ("ConfessBySize$Crime", "reward", "I", true)
def tyX1 : Nat → FieldType := fun k => match k with
  | 0 => .int
  | 1 => .int
  | _ => .int
abbrev wsX10 : List Cond := u_ws RX1 TX1 3
theorem nmX1 : ∀ a, a < 3 → ∀ b, b < 3 → a ≠ b → (TX1 a).2.1 ≠ (TX1 b).2.1 := by decide +kernel
theorem tyX1_ok : ∀ k, k < 3 → parseFieldDescriptor (TX1 k).2.2.1 = some (tyX1 k) := by decide +kernel
abbrev cX1_init : ByteArray := prog_3_method_1_code
def yX1_init : MethodName := ⟨RX1, "<init>", "(III)V"⟩
def RX2 : String := "ConfessBySize$Irish"
def TX2 : u_T := fun k => match k with
  | 0 => ("ConfessBySize$Man", "size", "I", true)
  | _ => ("ConfessBySize$Man", "hand", "I", true)
def tyX2 : Nat → FieldType := fun k => match k with
  | 0 => .int
  | _ => .int
abbrev wsX20 : List Cond := u_ws RX2 TX2 2
theorem nmX2 : ∀ a, a < 2 → ∀ b, b < 2 → a ≠ b → (TX2 a).2.1 ≠ (TX2 b).2.1 := by decide +kernel
theorem tyX2_ok : ∀ k, k < 2 → parseFieldDescriptor (TX2 k).2.2.1 = some (tyX2 k) := by decide +kernel
abbrev cX2_init : ByteArray := prog_4_method_1_code
def yX2_init : MethodName := ⟨RX2, "<init>", "(II)V"⟩
abbrev cX2_kind : ByteArray := prog_4_method_2_code
def yX2_kind : MethodName := ⟨RX2, "kind", "()I"⟩
abbrev cX2_counted : ByteArray := prog_4_method_3_code
def yX2_counted : MethodName := ⟨RX2, "counted", "(I)I"⟩
def RX3 : String := "ConfessBySize$Man"
def TX3 : u_T := fun k => match k with
  | 0 => ("ConfessBySize$Man", "size", "I", true)
  | _ => ("ConfessBySize$Man", "hand", "I", true)
def tyX3 : Nat → FieldType := fun k => match k with
  | 0 => .int
  | _ => .int
abbrev wsX30 : List Cond := u_ws RX3 TX3 2
theorem nmX3 : ∀ a, a < 2 → ∀ b, b < 2 → a ≠ b → (TX3 a).2.1 ≠ (TX3 b).2.1 := by decide +kernel
theorem tyX3_ok : ∀ k, k < 2 → parseFieldDescriptor (TX3 k).2.2.1 = some (tyX3 k) := by decide +kernel
abbrev cX3_init : ByteArray := prog_5_method_1_code
def yX3_init : MethodName := ⟨RX3, "<init>", "(II)V"⟩
abbrev cX3_kind : ByteArray := prog_5_method_2_code
def yX3_kind : MethodName := ⟨RX3, "kind", "()I"⟩
abbrev cX3_bears : ByteArray := prog_5_method_3_code
def yX3_bears : MethodName := ⟨RX3, "bears", "()I"⟩
abbrev cX3_counted : ByteArray := prog_5_method_4_code
def yX3_counted : MethodName := ⟨RX3, "counted", "(I)I"⟩
abbrev cX3_hasHandLike : ByteArray := prog_5_method_5_code
def yX3_hasHandLike : MethodName := ⟨RX3, "hasHandLike", "(I)Z"⟩
abbrev cX3_doesConfess : ByteArray := prog_5_method_6_code
def yX3_doesConfess : MethodName := ⟨RX3, "doesConfess", "()Z"⟩
abbrev cX3_wouldFit : ByteArray := prog_5_method_7_code
def yX3_wouldFit : MethodName := ⟨RX3, "wouldFit", "(III)Z"⟩
def RX4 : String := "ConfessBySize$Matching"
def TX4 : u_T := fun k => match k with
  | 0 => ("ConfessBySize$Matching", "allowed", "[I", true)
  | 1 => ("ConfessBySize$Matching", "rewards", "[I", true)
  | 2 => ("ConfessBySize$Matching", "choice", "[I", true)
  | 3 => ("ConfessBySize$Matching", "best", "[I", true)
  | 4 => ("ConfessBySize$Matching", "peopleMany", "I", false)
  | 5 => ("ConfessBySize$Matching", "bestMany", "I", false)
  | _ => ("ConfessBySize$Matching", "bestReward", "I", false)
def tyX4 : Nat → FieldType := fun k => match k with
  | 0 => .array .int
  | 1 => .array .int
  | 2 => .array .int
  | 3 => .array .int
  | 4 => .int
  | 5 => .int
  | _ => .int
abbrev wsX40 : List Cond := u_ws RX4 TX4 7
theorem nmX4 : ∀ a, a < 7 → ∀ b, b < 7 → a ≠ b → (TX4 a).2.1 ≠ (TX4 b).2.1 := by decide +kernel
theorem tyX4_ok : ∀ k, k < 7 → parseFieldDescriptor (TX4 k).2.2.1 = some (tyX4 k) := by decide +kernel
abbrev cX4_init : ByteArray := prog_6_method_1_code
def yX4_init : MethodName := ⟨RX4, "<init>", "()V"⟩
abbrev cX4_begin : ByteArray := prog_6_method_2_code
def yX4_begin : MethodName := ⟨RX4, "begin", "(I)V"⟩
abbrev cX4_allow : ByteArray := prog_6_method_3_code
def yX4_allow : MethodName := ⟨RX4, "allow", "(II)V"⟩
abbrev cX4_reward : ByteArray := prog_6_method_4_code
def yX4_reward : MethodName := ⟨RX4, "reward", "(II)V"⟩
abbrev cX4_find : ByteArray := prog_6_method_5_code
def yX4_find : MethodName := ⟨RX4, "find", "()V"⟩
abbrev cX4_bestOn : ByteArray := prog_6_method_6_code
def yX4_bestOn : MethodName := ⟨RX4, "bestOn", "(I)I"⟩
abbrev cX4_choose : ByteArray := prog_6_method_7_code
def yX4_choose : MethodName := ⟨RX4, "choose", "(LConfessBySize$Matching;IIII)V"⟩
abbrev cX4_keepIfBetter : ByteArray := prog_6_method_8_code
def yX4_keepIfBetter : MethodName := ⟨RX4, "keepIfBetter", "(II)V"⟩
def RX5 : String := "ConfessBySize$Page"
def TX5 : u_T := fun k => match k with
  | 0 => ("ConfessBySize$Page", "codes", "[I", true)
  | _ => ("ConfessBySize$Page", "length", "I", false)
def tyX5 : Nat → FieldType := fun k => match k with
  | 0 => .array .int
  | _ => .int
abbrev wsX50 : List Cond := u_ws RX5 TX5 2
theorem nmX5 : ∀ a, a < 2 → ∀ b, b < 2 → a ≠ b → (TX5 a).2.1 ≠ (TX5 b).2.1 := by decide +kernel
theorem tyX5_ok : ∀ k, k < 2 → parseFieldDescriptor (TX5 k).2.2.1 = some (tyX5 k) := by decide +kernel
abbrev cX5_init : ByteArray := prog_7_method_1_code
def yX5_init : MethodName := ⟨RX5, "<init>", "()V"⟩
abbrev cX5_length : ByteArray := prog_7_method_2_code
def yX5_length : MethodName := ⟨RX5, "length", "()I"⟩
abbrev cX5_isFull : ByteArray := prog_7_method_3_code
def yX5_isFull : MethodName := ⟨RX5, "isFull", "()Z"⟩
abbrev cX5_add : ByteArray := prog_7_method_4_code
def yX5_add : MethodName := ⟨RX5, "add", "(I)V"⟩
abbrev cX5_clear : ByteArray := prog_7_method_5_code
def yX5_clear : MethodName := ⟨RX5, "clear", "()V"⟩
abbrev cX5_codeAt : ByteArray := prog_7_method_6_code
def yX5_codeAt : MethodName := ⟨RX5, "codeAt", "(I)I"⟩
abbrev cX5_digitAt : ByteArray := prog_7_method_7_code
def yX5_digitAt : MethodName := ⟨RX5, "digitAt", "(I)I"⟩
abbrev cX5_semicolon : ByteArray := prog_7_method_8_code
def yX5_semicolon : MethodName := ⟨RX5, "semicolon", "()I"⟩
abbrev cX5_firstFault : ByteArray := prog_7_method_9_code
def yX5_firstFault : MethodName := ⟨RX5, "firstFault", "()I"⟩
abbrev cX5_isStation : ByteArray := prog_7_method_10_code
def yX5_isStation : MethodName := ⟨RX5, "isStation", "()Z"⟩
abbrev cX5_isOfPeople : ByteArray := prog_7_method_11_code
def yX5_isOfPeople : MethodName := ⟨RX5, "isOfPeople", "(II)Z"⟩
abbrev cX5_isOfCrimes : ByteArray := prog_7_method_12_code
def yX5_isOfCrimes : MethodName := ⟨RX5, "isOfCrimes", "(II)Z"⟩
abbrev cX5_isKindLetter : ByteArray := prog_7_method_13_code
def yX5_isKindLetter : MethodName := ⟨RX5, "isKindLetter", "(I)Z"⟩
abbrev cX5_isDigit : ByteArray := prog_7_method_14_code
def yX5_isDigit : MethodName := ⟨RX5, "isDigit", "(III)Z"⟩
def RX6 : String := "ConfessBySize$Roll"
def TX6 : u_T := fun k => match k with
  | 0 => ("ConfessBySize$Roll", "people", "[LConfessBySize$Man;", true)
  | 1 => ("ConfessBySize$Roll", "crimes", "[LConfessBySize$Crime;", true)
  | 2 => ("ConfessBySize$Roll", "peopleMany", "I", false)
  | _ => ("ConfessBySize$Roll", "crimesMany", "I", false)
def tyX6 : Nat → FieldType := fun k => match k with
  | 0 => .array (.object "ConfessBySize$Man")
  | 1 => .array (.object "ConfessBySize$Crime")
  | 2 => .int
  | _ => .int
abbrev wsX60 : List Cond := u_ws RX6 TX6 4
theorem nmX6 : ∀ a, a < 4 → ∀ b, b < 4 → a ≠ b → (TX6 a).2.1 ≠ (TX6 b).2.1 := by decide +kernel
theorem tyX6_ok : ∀ k, k < 4 → parseFieldDescriptor (TX6 k).2.2.1 = some (tyX6 k) := by decide +kernel
abbrev cX6_init : ByteArray := prog_8_method_1_code
def yX6_init : MethodName := ⟨RX6, "<init>", "()V"⟩
abbrev cX6_peopleMany : ByteArray := prog_8_method_2_code
def yX6_peopleMany : MethodName := ⟨RX6, "peopleMany", "()I"⟩
abbrev cX6_crimesMany : ByteArray := prog_8_method_3_code
def yX6_crimesMany : MethodName := ⟨RX6, "crimesMany", "()I"⟩
abbrev cX6_manOf : ByteArray := prog_8_method_4_code
def yX6_manOf : MethodName := ⟨RX6, "manOf", "(I)LConfessBySize$Man;"⟩
abbrev cX6_crimeOf : ByteArray := prog_8_method_5_code
def yX6_crimeOf : MethodName := ⟨RX6, "crimeOf", "(I)LConfessBySize$Crime;"⟩
abbrev cX6_read : ByteArray := prog_8_method_6_code
def yX6_read : MethodName := ⟨RX6, "read", "(LConfessBySize$Page;)V"⟩
abbrev cX6_manAt : ByteArray := prog_8_method_7_code
def yX6_manAt : MethodName := ⟨RX6, "manAt", "(LConfessBySize$Page;I)LConfessBySize$Man;"⟩
abbrev cX6_crimeAt : ByteArray := prog_8_method_8_code
def yX6_crimeAt : MethodName := ⟨RX6, "crimeAt", "(LConfessBySize$Page;I)LConfessBySize$Crime;"⟩
def RX7 : String := "ConfessBySize$Standing"
def TX7 : u_T := fun k => match k with
  | 0 => ("ConfessBySize$Standing", "sizes", "[I", true)
  | 1 => ("ConfessBySize$Standing", "hasConfessed", "[I", true)
  | 2 => ("ConfessBySize$Standing", "trials", "LConfessBySize$Trials;", true)
  | 3 => ("ConfessBySize$Standing", "stitchesMade", "I", false)
  | _ => ("ConfessBySize$Standing", "timesConfessed", "I", false)
def tyX7 : Nat → FieldType := fun k => match k with
  | 0 => .array .int
  | 1 => .array .int
  | 2 => .object "ConfessBySize$Trials"
  | 3 => .int
  | _ => .int
abbrev wsX70 : List Cond := u_ws RX7 TX7 5
theorem nmX7 : ∀ a, a < 5 → ∀ b, b < 5 → a ≠ b → (TX7 a).2.1 ≠ (TX7 b).2.1 := by decide +kernel
theorem tyX7_ok : ∀ k, k < 5 → parseFieldDescriptor (TX7 k).2.2.1 = some (tyX7 k) := by decide +kernel
abbrev cX7_init : ByteArray := prog_9_method_1_code
def yX7_init : MethodName := ⟨RX7, "<init>", "()V"⟩
abbrev cX7_begin : ByteArray := prog_9_method_2_code
def yX7_begin : MethodName := ⟨RX7, "begin", "(LConfessBySize$Roll;)V"⟩
abbrev cX7_copyFrom : ByteArray := prog_9_method_3_code
def yX7_copyFrom : MethodName := ⟨RX7, "copyFrom", "(LConfessBySize$Standing;)V"⟩
abbrev cX7_sizeOf : ByteArray := prog_9_method_4_code
def yX7_sizeOf : MethodName := ⟨RX7, "sizeOf", "(I)I"⟩
abbrev cX7_resize : ByteArray := prog_9_method_5_code
def yX7_resize : MethodName := ⟨RX7, "resize", "(II)V"⟩
abbrev cX7_crimeOn : ByteArray := prog_9_method_6_code
def yX7_crimeOn : MethodName := ⟨RX7, "crimeOn", "(I)I"⟩
abbrev cX7_hangsOn : ByteArray := prog_9_method_7_code
def yX7_hangsOn : MethodName := ⟨RX7, "hangsOn", "(I)I"⟩
abbrev cX7_hang : ByteArray := prog_9_method_8_code
def yX7_hang : MethodName := ⟨RX7, "hang", "(II)V"⟩
abbrev cX7_hanging : ByteArray := prog_9_method_9_code
def yX7_hanging : MethodName := ⟨RX7, "hanging", "()I"⟩
def RX8 : String := "ConfessBySize$Tailor"
def TX8 : u_T := fun k => match k with
  | 0 => ("ConfessBySize$Man", "size", "I", true)
  | _ => ("ConfessBySize$Man", "hand", "I", true)
def tyX8 : Nat → FieldType := fun k => match k with
  | 0 => .int
  | _ => .int
abbrev wsX80 : List Cond := u_ws RX8 TX8 2
theorem nmX8 : ∀ a, a < 2 → ∀ b, b < 2 → a ≠ b → (TX8 a).2.1 ≠ (TX8 b).2.1 := by decide +kernel
theorem tyX8_ok : ∀ k, k < 2 → parseFieldDescriptor (TX8 k).2.2.1 = some (tyX8 k) := by decide +kernel
abbrev cX8_init : ByteArray := prog_10_method_1_code
def yX8_init : MethodName := ⟨RX8, "<init>", "(II)V"⟩
abbrev cX8_kind : ByteArray := prog_10_method_2_code
def yX8_kind : MethodName := ⟨RX8, "kind", "()I"⟩
abbrev cX8_bears : ByteArray := prog_10_method_3_code
def yX8_bears : MethodName := ⟨RX8, "bears", "()I"⟩
def RX9 : String := "ConfessBySize$Thief"
def TX9 : u_T := fun k => match k with
  | 0 => ("ConfessBySize$Man", "size", "I", true)
  | _ => ("ConfessBySize$Man", "hand", "I", true)
def tyX9 : Nat → FieldType := fun k => match k with
  | 0 => .int
  | _ => .int
abbrev wsX90 : List Cond := u_ws RX9 TX9 2
theorem nmX9 : ∀ a, a < 2 → ∀ b, b < 2 → a ≠ b → (TX9 a).2.1 ≠ (TX9 b).2.1 := by decide +kernel
theorem tyX9_ok : ∀ k, k < 2 → parseFieldDescriptor (TX9 k).2.2.1 = some (tyX9 k) := by decide +kernel
abbrev cX9_init : ByteArray := prog_11_method_1_code
def yX9_init : MethodName := ⟨RX9, "<init>", "(II)V"⟩
abbrev cX9_kind : ByteArray := prog_11_method_2_code
def yX9_kind : MethodName := ⟨RX9, "kind", "()I"⟩
abbrev cX9_hasHandLike : ByteArray := prog_11_method_3_code
def yX9_hasHandLike : MethodName := ⟨RX9, "hasHandLike", "(I)Z"⟩
def RX10 : String := "ConfessBySize$Trials"
def TX10 : u_T := fun k => match k with
  | 0 => ("ConfessBySize$Trials", "persons", "[I", true)
  | 1 => ("ConfessBySize$Trials", "crimeSizes", "[I", true)
  | 2 => ("ConfessBySize$Trials", "crimeHands", "[I", true)
  | 3 => ("ConfessBySize$Trials", "didFit", "[Z", true)
  | _ => ("ConfessBySize$Trials", "many", "I", false)
def tyX10 : Nat → FieldType := fun k => match k with
  | 0 => .array .int
  | 1 => .array .int
  | 2 => .array .int
  | 3 => .array .boolean
  | _ => .int
abbrev wsX100 : List Cond := u_ws RX10 TX10 5
theorem nmX10 : ∀ a, a < 5 → ∀ b, b < 5 → a ≠ b → (TX10 a).2.1 ≠ (TX10 b).2.1 := by decide +kernel
theorem tyX10_ok : ∀ k, k < 5 → parseFieldDescriptor (TX10 k).2.2.1 = some (tyX10 k) := by decide +kernel
abbrev cX10_init : ByteArray := prog_12_method_1_code
def yX10_init : MethodName := ⟨RX10, "<init>", "()V"⟩
abbrev cX10_many : ByteArray := prog_12_method_2_code
def yX10_many : MethodName := ⟨RX10, "many", "()I"⟩
abbrev cX10_isFull : ByteArray := prog_12_method_3_code
def yX10_isFull : MethodName := ⟨RX10, "isFull", "()Z"⟩
abbrev cX10_add : ByteArray := prog_12_method_4_code
def yX10_add : MethodName := ⟨RX10, "add", "(IIIZ)V"⟩
abbrev cX10_clear : ByteArray := prog_12_method_5_code
def yX10_clear : MethodName := ⟨RX10, "clear", "()V"⟩
abbrev cX10_copyFrom : ByteArray := prog_12_method_6_code
def yX10_copyFrom : MethodName := ⟨RX10, "copyFrom", "(LConfessBySize$Trials;)V"⟩
abbrev cX10_allow : ByteArray := prog_12_method_7_code
def yX10_allow : MethodName := ⟨RX10, "allow", "(ILConfessBySize$Man;I)Z"⟩
def RX11 : String := "ConfessBySize"
def TX11 : u_T := fun k => match k with
  | 0 => ("ConfessBySize", "page", "LConfessBySize$Page;", true)
  | 1 => ("ConfessBySize", "roll", "LConfessBySize$Roll;", true)
  | 2 => ("ConfessBySize", "now", "LConfessBySize$Standing;", true)
  | 3 => ("ConfessBySize", "kept", "LConfessBySize$Standing;", true)
  | 4 => ("ConfessBySize", "wouldBe", "LConfessBySize$Standing;", true)
  | 5 => ("ConfessBySize", "matching", "LConfessBySize$Matching;", true)
  | 6 => ("ConfessBySize", "isKept", "Z", false)
  | 7 => ("ConfessBySize", "stationsRead", "I", false)
  | _ => ("ConfessBySize", "stitchingsDone", "I", false)
def tyX11 : Nat → FieldType := fun k => match k with
  | 0 => .object "ConfessBySize$Page"
  | 1 => .object "ConfessBySize$Roll"
  | 2 => .object "ConfessBySize$Standing"
  | 3 => .object "ConfessBySize$Standing"
  | 4 => .object "ConfessBySize$Standing"
  | 5 => .object "ConfessBySize$Matching"
  | 6 => .boolean
  | 7 => .int
  | _ => .int
abbrev wsX110 : List Cond := u_ws RX11 TX11 9
theorem nmX11 : ∀ a, a < 9 → ∀ b, b < 9 → a ≠ b → (TX11 a).2.1 ≠ (TX11 b).2.1 := by decide +kernel
theorem tyX11_ok : ∀ k, k < 9 → parseFieldDescriptor (TX11 k).2.2.1 = some (tyX11 k) := by decide +kernel
abbrev cX11_init : ByteArray := prog_1_method_1_code
def yX11_init : MethodName := ⟨RX11, "<init>", "()V"⟩
abbrev cX11_letter : ByteArray := prog_1_method_2_code
def yX11_letter : MethodName := ⟨RX11, "letter", "(I)I"⟩
abbrev cX11_blank : ByteArray := prog_1_method_3_code
def yX11_blank : MethodName := ⟨RX11, "blank", "()I"⟩
abbrev cX11_fault : ByteArray := prog_1_method_4_code
def yX11_fault : MethodName := ⟨RX11, "fault", "()I"⟩
abbrev cX11_station : ByteArray := prog_1_method_5_code
def yX11_station : MethodName := ⟨RX11, "station", "()I"⟩
abbrev cX11_about : ByteArray := prog_1_method_6_code
def yX11_about : MethodName := ⟨RX11, "about", "(II)I"⟩
abbrev cX11_as : ByteArray := prog_1_method_7_code
def yX11_as : MethodName := ⟨RX11, "as", "(II)I"⟩
abbrev cX11_crime : ByteArray := prog_1_method_8_code
def yX11_crime : MethodName := ⟨RX11, "crime", "(II)I"⟩
abbrev cX11_confess : ByteArray := prog_1_method_9_code
def yX11_confess : MethodName := ⟨RX11, "confess", "(II)I"⟩
abbrev cX11_recant : ByteArray := prog_1_method_10_code
def yX11_recant : MethodName := ⟨RX11, "recant", "(I)I"⟩
abbrev cX11_alter : ByteArray := prog_1_method_11_code
def yX11_alter : MethodName := ⟨RX11, "alter", "(IZ)I"⟩
abbrev cX11_match : ByteArray := prog_1_method_12_code
def yX11_match : MethodName := ⟨RX11, "match", "(I)I"⟩
abbrev cX11_stitches : ByteArray := prog_1_method_13_code
def yX11_stitches : MethodName := ⟨RX11, "stitches", "()I"⟩
abbrev cX11_tried : ByteArray := prog_1_method_14_code
def yX11_tried : MethodName := ⟨RX11, "tried", "(IIZ)I"⟩
abbrev cX11_forget : ByteArray := prog_1_method_15_code
def yX11_forget : MethodName := ⟨RX11, "forget", "()I"⟩
abbrev cX11_weeks : ByteArray := prog_1_method_16_code
def yX11_weeks : MethodName := ⟨RX11, "weeks", "(III)I"⟩
abbrev cX11_image : ByteArray := prog_1_method_17_code
def yX11_image : MethodName := ⟨RX11, "image", "()I"⟩
abbrev cX11_restore : ByteArray := prog_1_method_18_code
def yX11_restore : MethodName := ⟨RX11, "restore", "()I"⟩
abbrev cX11_count : ByteArray := prog_1_method_19_code
def yX11_count : MethodName := ⟨RX11, "count", "(I)I"⟩
abbrev cX11_digest : ByteArray := prog_1_method_20_code
def yX11_digest : MethodName := ⟨RX11, "digest", "()J"⟩
abbrev cX11_isOpen : ByteArray := prog_1_method_21_code
def yX11_isOpen : MethodName := ⟨RX11, "isOpen", "()Z"⟩
abbrev cX11_isSize : ByteArray := prog_1_method_22_code
def yX11_isSize : MethodName := ⟨RX11, "isSize", "(I)Z"⟩
abbrev cX11_isOfKind : ByteArray := prog_1_method_23_code
def yX11_isOfKind : MethodName := ⟨RX11, "isOfKind", "(LConfessBySize$Man;I)Z"⟩
abbrev cX11_isFitting : ByteArray := prog_1_method_24_code
def yX11_isFitting : MethodName := ⟨RX11, "isFitting", "(III)Z"⟩
abbrev cX11_crimesFitting : ByteArray := prog_1_method_25_code
def yX11_crimesFitting : MethodName := ⟨RX11, "crimesFitting", "(I)I"⟩
abbrev cX11_peopleFitted : ByteArray := prog_1_method_26_code
def yX11_peopleFitted : MethodName := ⟨RX11, "peopleFitted", "(I)I"⟩
abbrev cX11_halvesOf : ByteArray := prog_1_method_27_code
def yX11_halvesOf : MethodName := ⟨RX11, "halvesOf", "(I)I"⟩
abbrev cX11_canGoHalves : ByteArray := prog_1_method_28_code
def yX11_canGoHalves : MethodName := ⟨RX11, "canGoHalves", "(III)Z"⟩
abbrev cX11_isFree : ByteArray := prog_1_method_29_code
def yX11_isFree : MethodName := ⟨RX11, "isFree", "(LConfessBySize$Standing;I)Z"⟩
abbrev cX11_mayConfess : ByteArray := prog_1_method_30_code
def yX11_mayConfess : MethodName := ⟨RX11, "mayConfess", "(LConfessBySize$Standing;II)Z"⟩
abbrev cX11_paidTo : ByteArray := prog_1_method_31_code
def yX11_paidTo : MethodName := ⟨RX11, "paidTo", "(LConfessBySize$Standing;I)I"⟩
abbrev cX11_paidInAll : ByteArray := prog_1_method_32_code
def yX11_paidInAll : MethodName := ⟨RX11, "paidInAll", "(LConfessBySize$Standing;)I"⟩
abbrev cX11_isOfMatch : ByteArray := prog_1_method_33_code
def yX11_isOfMatch : MethodName := ⟨RX11, "isOfMatch", "(I)Z"⟩
abbrev cX11_findMatch : ByteArray := prog_1_method_34_code
def yX11_findMatch : MethodName := ⟨RX11, "findMatch", "()V"⟩
abbrev cX11_toldOfMatch : ByteArray := prog_1_method_35_code
def yX11_toldOfMatch : MethodName := ⟨RX11, "toldOfMatch", "(I)I"⟩
abbrev cX11_withMatch : ByteArray := prog_1_method_36_code
def yX11_withMatch : MethodName := ⟨RX11, "withMatch", "(J)J"⟩
abbrev cX11_fewestStitches : ByteArray := prog_1_method_37_code
def yX11_fewestStitches : MethodName := ⟨RX11, "fewestStitches", "(LConfessBySize;II)I"⟩
abbrev cX11_stitchesFor : ByteArray := prog_1_method_38_code
def yX11_stitchesFor : MethodName := ⟨RX11, "stitchesFor", "(II)I"⟩
abbrev cX11_sizesLeft : ByteArray := prog_1_method_39_code
def yX11_sizesLeft : MethodName := ⟨RX11, "sizesLeft", "(I)I"⟩
abbrev cX11_bitOfSize : ByteArray := prog_1_method_40_code
def yX11_bitOfSize : MethodName := ⟨RX11, "bitOfSize", "(I)I"⟩
abbrev cX11_nextToTry : ByteArray := prog_1_method_41_code
def yX11_nextToTry : MethodName := ⟨RX11, "nextToTry", "(I)I"⟩
abbrev cX11_leftAtWorst : ByteArray := prog_1_method_42_code
def yX11_leftAtWorst : MethodName := ⟨RX11, "leftAtWorst", "(III)I"⟩
abbrev cX11_seedAfter : ByteArray := prog_1_method_43_code
def yX11_seedAfter : MethodName := ⟨RX11, "seedAfter", "(I)I"⟩
abbrev cX11_drawn : ByteArray := prog_1_method_44_code
def yX11_drawn : MethodName := ⟨RX11, "drawn", "(II)I"⟩
abbrev cX11_comesFor : ByteArray := prog_1_method_45_code
def yX11_comesFor : MethodName := ⟨RX11, "comesFor", "(II)V"⟩
def RX12 : String := "ConfessBySizeModel"
def TX12 : u_T := fun k => match k with
  | 0 => ("ConfessBySizeModel", "stations", "I", false)
  | 1 => ("ConfessBySizeModel", "people", "I", false)
  | 2 => ("ConfessBySizeModel", "crimes", "I", false)
  | 3 => ("ConfessBySizeModel", "kindOf", "[I", true)
  | 4 => ("ConfessBySizeModel", "sizeOf", "[I", true)
  | 5 => ("ConfessBySizeModel", "handOf", "[I", true)
  | 6 => ("ConfessBySizeModel", "crimeSize", "[I", true)
  | 7 => ("ConfessBySizeModel", "crimeHand", "[I", true)
  | 8 => ("ConfessBySizeModel", "rewardOf", "[I", true)
  | 9 => ("ConfessBySizeModel", "hasOf", "[I", true)
  | 10 => ("ConfessBySizeModel", "stitchMany", "I", false)
  | 11 => ("ConfessBySizeModel", "confessions", "I", false)
  | 12 => ("ConfessBySizeModel", "triedMany", "I", false)
  | 13 => ("ConfessBySizeModel", "triedWho", "[I", true)
  | 14 => ("ConfessBySizeModel", "triedSize", "[I", true)
  | 15 => ("ConfessBySizeModel", "triedHand", "[I", true)
  | 16 => ("ConfessBySizeModel", "triedFits", "[I", true)
  | 17 => ("ConfessBySizeModel", "asks", "I", false)
  | 18 => ("ConfessBySizeModel", "pageLength", "I", false)
  | 19 => ("ConfessBySizeModel", "page", "[B", true)
  | 20 => ("ConfessBySizeModel", "isWhole", "Z", false)
  | 21 => ("ConfessBySizeModel", "newMany", "I", false)
  | 22 => ("ConfessBySizeModel", "newCrimes", "I", false)
  | 23 => ("ConfessBySizeModel", "matchMany", "I", false)
  | 24 => ("ConfessBySizeModel", "matchReward", "I", false)
  | 25 => ("ConfessBySizeModel", "savedSize", "[I", true)
  | 26 => ("ConfessBySizeModel", "seedNow", "J", false)
  | 27 => ("ConfessBySizeModel", "savedHas", "[I", true)
  | 28 => ("ConfessBySizeModel", "isKept", "Z", false)
  | 29 => ("ConfessBySizeModel", "keptStation", "I", false)
  | 30 => ("ConfessBySizeModel", "keptStitches", "I", false)
  | 31 => ("ConfessBySizeModel", "keptConfessions", "I", false)
  | 32 => ("ConfessBySizeModel", "keptTried", "I", false)
  | 33 => ("ConfessBySizeModel", "keptSize", "[I", true)
  | 34 => ("ConfessBySizeModel", "keptHas", "[I", true)
  | 35 => ("ConfessBySizeModel", "keptWho", "[I", true)
  | 36 => ("ConfessBySizeModel", "keptTriedSize", "[I", true)
  | 37 => ("ConfessBySizeModel", "keptTriedHand", "[I", true)
  | 38 => ("ConfessBySizeModel", "keptFits", "[I", true)
  | _ => ("ConfessBySizeModel", "h", "J", false)
def tyX12 : Nat → FieldType := fun k => match k with
  | 0 => .int
  | 1 => .int
  | 2 => .int
  | 3 => .array .int
  | 4 => .array .int
  | 5 => .array .int
  | 6 => .array .int
  | 7 => .array .int
  | 8 => .array .int
  | 9 => .array .int
  | 10 => .int
  | 11 => .int
  | 12 => .int
  | 13 => .array .int
  | 14 => .array .int
  | 15 => .array .int
  | 16 => .array .int
  | 17 => .int
  | 18 => .int
  | 19 => .array .byte
  | 20 => .boolean
  | 21 => .int
  | 22 => .int
  | 23 => .int
  | 24 => .int
  | 25 => .array .int
  | 26 => .long
  | 27 => .array .int
  | 28 => .boolean
  | 29 => .int
  | 30 => .int
  | 31 => .int
  | 32 => .int
  | 33 => .array .int
  | 34 => .array .int
  | 35 => .array .int
  | 36 => .array .int
  | 37 => .array .int
  | 38 => .array .int
  | _ => .long
abbrev wsX120 : List Cond := u_ws RX12 TX12 40
theorem nmX12 : ∀ a, a < 40 → ∀ b, b < 40 → a ≠ b → (TX12 a).2.1 ≠ (TX12 b).2.1 := by decide +kernel
theorem tyX12_ok : ∀ k, k < 40 → parseFieldDescriptor (TX12 k).2.2.1 = some (tyX12 k) := by decide +kernel
abbrev cX12_init : ByteArray := prog_14_method_1_code
def yX12_init : MethodName := ⟨RX12, "<init>", "()V"⟩
abbrev cX12_within : ByteArray := prog_14_method_3_code
def yX12_within : MethodName := ⟨RX12, "within", "(III)Z"⟩
abbrev cX12_isIn : ByteArray := prog_14_method_4_code
def yX12_isIn : MethodName := ⟨RX12, "isIn", "(II)Z"⟩
abbrev cX12_letter : ByteArray := prog_14_method_5_code
def yX12_letter : MethodName := ⟨RX12, "letter", "(I)I"⟩
abbrev cX12_blank : ByteArray := prog_14_method_6_code
def yX12_blank : MethodName := ⟨RX12, "blank", "()I"⟩
abbrev cX12_kindBy : ByteArray := prog_14_method_7_code
def yX12_kindBy : MethodName := ⟨RX12, "kindBy", "(I)I"⟩
abbrev cX12_isFigure : ByteArray := prog_14_method_8_code
def yX12_isFigure : MethodName := ⟨RX12, "isFigure", "(III)Z"⟩
abbrev cX12_readOne : ByteArray := prog_14_method_9_code
def yX12_readOne : MethodName := ⟨RX12, "readOne", "(I)I"⟩
abbrev cX12_readCrimes : ByteArray := prog_14_method_10_code
def yX12_readCrimes : MethodName := ⟨RX12, "readCrimes", "(I)I"⟩
abbrev cX12_read : ByteArray := prog_14_method_11_code
def yX12_read : MethodName := ⟨RX12, "read", "()I"⟩
abbrev cX12_fault : ByteArray := prog_14_method_12_code
def yX12_fault : MethodName := ⟨RX12, "fault", "()I"⟩
abbrev cX12_station : ByteArray := prog_14_method_13_code
def yX12_station : MethodName := ⟨RX12, "station", "()I"⟩
abbrev cX12_isOne : ByteArray := prog_14_method_14_code
def yX12_isOne : MethodName := ⟨RX12, "isOne", "(I)Z"⟩
abbrev cX12_isCrime : ByteArray := prog_14_method_15_code
def yX12_isCrime : MethodName := ⟨RX12, "isCrime", "(I)Z"⟩
abbrev cX12_bears : ByteArray := prog_14_method_16_code
def yX12_bears : MethodName := ⟨RX12, "bears", "(I)I"⟩
abbrev cX12_counts : ByteArray := prog_14_method_17_code
def yX12_counts : MethodName := ⟨RX12, "counts", "(II)I"⟩
abbrev cX12_isHand : ByteArray := prog_14_method_18_code
def yX12_isHand : MethodName := ⟨RX12, "isHand", "(II)Z"⟩
abbrev cX12_fitsBy : ByteArray := prog_14_method_19_code
def yX12_fitsBy : MethodName := ⟨RX12, "fitsBy", "(IIII)Z"⟩
abbrev cX12_fits : ByteArray := prog_14_method_20_code
def yX12_fits : MethodName := ⟨RX12, "fits", "(II)Z"⟩
abbrev cX12_fitting : ByteArray := prog_14_method_21_code
def yX12_fitting : MethodName := ⟨RX12, "fitting", "(I)I"⟩
abbrev cX12_fitted : ByteArray := prog_14_method_22_code
def yX12_fitted : MethodName := ⟨RX12, "fitted", "(I)I"⟩
abbrev cX12_hangsOn : ByteArray := prog_14_method_23_code
def yX12_hangsOn : MethodName := ⟨RX12, "hangsOn", "(I)I"⟩
abbrev cX12_paid : ByteArray := prog_14_method_24_code
def yX12_paid : MethodName := ⟨RX12, "paid", "(I)I"⟩
abbrev cX12_halvesOf : ByteArray := prog_14_method_25_code
def yX12_halvesOf : MethodName := ⟨RX12, "halvesOf", "(I)I"⟩
abbrev cX12_oneNow : ByteArray := prog_14_method_26_code
def yX12_oneNow : MethodName := ⟨RX12, "oneNow", "(II)I"⟩
abbrev cX12_about : ByteArray := prog_14_method_27_code
def yX12_about : MethodName := ⟨RX12, "about", "(II)I"⟩
abbrev cX12_as : ByteArray := prog_14_method_28_code
def yX12_as : MethodName := ⟨RX12, "as", "(II)I"⟩
abbrev cX12_crimeNow : ByteArray := prog_14_method_29_code
def yX12_crimeNow : MethodName := ⟨RX12, "crimeNow", "(II)I"⟩
abbrev cX12_crime : ByteArray := prog_14_method_30_code
def yX12_crime : MethodName := ⟨RX12, "crime", "(II)I"⟩
abbrev cX12_isFree : ByteArray := prog_14_method_31_code
def yX12_isFree : MethodName := ⟨RX12, "isFree", "(I)Z"⟩
abbrev cX12_confess : ByteArray := prog_14_method_32_code
def yX12_confess : MethodName := ⟨RX12, "confess", "(II)I"⟩
abbrev cX12_recant : ByteArray := prog_14_method_33_code
def yX12_recant : MethodName := ⟨RX12, "recant", "(I)I"⟩
abbrev cX12_alter : ByteArray := prog_14_method_34_code
def yX12_alter : MethodName := ⟨RX12, "alter", "(IZ)I"⟩
abbrev cX12_hasBy : ByteArray := prog_14_method_35_code
def yX12_hasBy : MethodName := ⟨RX12, "hasBy", "(II)I"⟩
abbrev cX12_codes : ByteArray := prog_14_method_36_code
def yX12_codes : MethodName := ⟨RX12, "codes", "()I"⟩
abbrev cX12_isMatch : ByteArray := prog_14_method_37_code
def yX12_isMatch : MethodName := ⟨RX12, "isMatch", "(I)Z"⟩
abbrev cX12_matchNow : ByteArray := prog_14_method_38_code
def yX12_matchNow : MethodName := ⟨RX12, "matchNow", "(I)I"⟩
abbrev cX12_match : ByteArray := prog_14_method_39_code
def yX12_match : MethodName := ⟨RX12, "match", "(I)I"⟩
abbrev cX12_freeCrimes : ByteArray := prog_14_method_40_code
def yX12_freeCrimes : MethodName := ⟨RX12, "freeCrimes", "()I"⟩
abbrev cX12_alterBy : ByteArray := prog_14_method_41_code
def yX12_alterBy : MethodName := ⟨RX12, "alterBy", "(I)I"⟩
abbrev cX12_stitchesNow : ByteArray := prog_14_method_42_code
def yX12_stitchesNow : MethodName := ⟨RX12, "stitchesNow", "()I"⟩
abbrev cX12_stitches : ByteArray := prog_14_method_43_code
def yX12_stitches : MethodName := ⟨RX12, "stitches", "()I"⟩
abbrev cX12_tried : ByteArray := prog_14_method_44_code
def yX12_tried : MethodName := ⟨RX12, "tried", "(IIZ)I"⟩
abbrev cX12_forget : ByteArray := prog_14_method_45_code
def yX12_forget : MethodName := ⟨RX12, "forget", "()I"⟩
abbrev cX12_couldBe : ByteArray := prog_14_method_46_code
def yX12_couldBe : MethodName := ⟨RX12, "couldBe", "(II)Z"⟩
abbrev cX12_howLarge : ByteArray := prog_14_method_47_code
def yX12_howLarge : MethodName := ⟨RX12, "howLarge", "(I)I"⟩
abbrev cX12_nextOf : ByteArray := prog_14_method_48_code
def yX12_nextOf : MethodName := ⟨RX12, "nextOf", "(I)I"⟩
abbrev cX12_draw : ByteArray := prog_14_method_49_code
def yX12_draw : MethodName := ⟨RX12, "draw", "(I)I"⟩
abbrev cX12_paidAll : ByteArray := prog_14_method_50_code
def yX12_paidAll : MethodName := ⟨RX12, "paidAll", "()I"⟩
abbrev cX12_weeksNow : ByteArray := prog_14_method_51_code
def yX12_weeksNow : MethodName := ⟨RX12, "weeksNow", "(III)I"⟩
abbrev cX12_weeks : ByteArray := prog_14_method_52_code
def yX12_weeks : MethodName := ⟨RX12, "weeks", "(III)I"⟩
abbrev cX12_image : ByteArray := prog_14_method_53_code
def yX12_image : MethodName := ⟨RX12, "image", "()I"⟩
abbrev cX12_restore : ByteArray := prog_14_method_54_code
def yX12_restore : MethodName := ⟨RX12, "restore", "()I"⟩
abbrev cX12_howMany : ByteArray := prog_14_method_55_code
def yX12_howMany : MethodName := ⟨RX12, "howMany", "(I)I"⟩
abbrev cX12_count : ByteArray := prog_14_method_56_code
def yX12_count : MethodName := ⟨RX12, "count", "(I)I"⟩
abbrev cX12_mix : ByteArray := prog_14_method_57_code
def yX12_mix : MethodName := ⟨RX12, "mix", "(J)V"⟩
abbrev cX12_digest : ByteArray := prog_14_method_58_code
def yX12_digest : MethodName := ⟨RX12, "digest", "()J"⟩
def RJ6 : String := "java/lang/Integer"
def TJ6 : u_T := fun k => match k with
  | _ => ("", "", "", false)
def tyJ6 : Nat → FieldType := fun k => match k with
  | _ => .int
theorem nmJ6 : ∀ a, a < 0 → ∀ b, b < 0 → a ≠ b → (TJ6 a).2.1 ≠ (TJ6 b).2.1 := by decide +kernel
theorem tyJ6_ok : ∀ k, k < 0 → parseFieldDescriptor (TJ6 k).2.2.1 = some (tyJ6 k) := by decide +kernel
abbrev cJ6_bitCount_0f7a4 : ByteArray := prog_15_method_49_code
def yJ6_bitCount_0f7a4 : MethodName := ⟨RJ6, "bitCount", "(I)I"⟩
def RJ9 : String := "java/lang/Math"
def TJ9 : u_T := fun k => match k with
  | _ => ("", "", "", false)
def tyJ9 : Nat → FieldType := fun k => match k with
  | _ => .int
theorem nmJ9 : ∀ a, a < 0 → ∀ b, b < 0 → a ≠ b → (TJ9 a).2.1 ≠ (TJ9 b).2.1 := by decide +kernel
theorem tyJ9_ok : ∀ k, k < 0 → parseFieldDescriptor (TJ9 k).2.2.1 = some (tyJ9 k) := by decide +kernel
abbrev cJ9_abs_0f7a4 : ByteArray := prog_16_method_59_code
def yJ9_abs_0f7a4 : MethodName := ⟨RJ9, "abs", "(I)I"⟩
abbrev cJ9_max_7cf53 : ByteArray := prog_16_method_65_code
def yJ9_max_7cf53 : MethodName := ⟨RJ9, "max", "(II)I"⟩
abbrev cJ9_min_7cf53 : ByteArray := prog_16_method_69_code
def yJ9_min_7cf53 : MethodName := ⟨RJ9, "min", "(II)I"⟩
def RL : String := "ConfessBySizeLaw"
abbrev cL_law : ByteArray := code
def yL_law : MethodName := ⟨RL, "law", "([I)Z"⟩
abbrev vwCl : List vw_C := [(RX0, TX0, 2), (RX1, TX1, 3), (RX2, TX2, 2), (RX3, TX3, 2), (RX4, TX4, 7), (RX5, TX5, 2), (RX6, TX6, 4), (RX7, TX7, 5), (RX8, TX8, 2), (RX9, TX9, 2), (RX10, TX10, 5), (RX11, TX11, 9), (RX12, TX12, 40)]
