section
-- ===== PART A: goes FIRST, ahead of the names: the tables' words, and 'selects' of the private methods out of them =====
/-- a private method of a class that the tables say can be made, by its rows of tables_1 -/
def lw_okq (q : MethodName × Nat) : Prop := (q.1.cls ≠ "java/lang/invoke/MethodHandle" ∧ q.1.cls ≠ "java/lang/invoke/VarHandle") ∧ Cond.instantiable q.1.cls q.2 ∈ tables_1 ∧ Cond.privateMethod q.1 ∈ tables_1 ∧ Cond.instanceMethod q.1 ∈ tables_1
theorem lw_p0 : lw_okq (⟨"ConfessBySize", "paidTo", "(LConfessBySize$Standing;I)I"⟩, 9) := ⟨⟨by decide +kernel, by decide +kernel⟩, List.mem_of_getElem? (i := 17) (by decide +kernel), List.mem_of_getElem? (i := 375) (by decide +kernel), List.mem_of_getElem? (i := 376) (by decide +kernel)⟩
theorem lw_p1 : lw_okq (⟨"ConfessBySize", "crimesFitting", "(I)I"⟩, 9) := ⟨⟨by decide +kernel, by decide +kernel⟩, List.mem_of_getElem? (i := 17) (by decide +kernel), List.mem_of_getElem? (i := 380) (by decide +kernel), List.mem_of_getElem? (i := 381) (by decide +kernel)⟩
theorem lw_p2 : lw_okq (⟨"ConfessBySize", "isFitting", "(III)Z"⟩, 9) := ⟨⟨by decide +kernel, by decide +kernel⟩, List.mem_of_getElem? (i := 17) (by decide +kernel), List.mem_of_getElem? (i := 388) (by decide +kernel), List.mem_of_getElem? (i := 389) (by decide +kernel)⟩
theorem lw_p3 : lw_okq (⟨"ConfessBySize", "sizesLeft", "(I)I"⟩, 9) := ⟨⟨by decide +kernel, by decide +kernel⟩, List.mem_of_getElem? (i := 17) (by decide +kernel), List.mem_of_getElem? (i := 427) (by decide +kernel), List.mem_of_getElem? (i := 428) (by decide +kernel)⟩
theorem lw_p4 : lw_okq (⟨"ConfessBySize", "nextToTry", "(I)I"⟩, 9) := ⟨⟨by decide +kernel, by decide +kernel⟩, List.mem_of_getElem? (i := 17) (by decide +kernel), List.mem_of_getElem? (i := 439) (by decide +kernel), List.mem_of_getElem? (i := 440) (by decide +kernel)⟩
theorem lw_p5 : lw_okq (⟨"ConfessBySize", "leftAtWorst", "(III)I"⟩, 9) := ⟨⟨by decide +kernel, by decide +kernel⟩, List.mem_of_getElem? (i := 17) (by decide +kernel), List.mem_of_getElem? (i := 443) (by decide +kernel), List.mem_of_getElem? (i := 444) (by decide +kernel)⟩
theorem lw_p6 : lw_okq (⟨"ConfessBySize", "peopleFitted", "(I)I"⟩, 9) := ⟨⟨by decide +kernel, by decide +kernel⟩, List.mem_of_getElem? (i := 17) (by decide +kernel), List.mem_of_getElem? (i := 475) (by decide +kernel), List.mem_of_getElem? (i := 476) (by decide +kernel)⟩
theorem lw_p7 : lw_okq (⟨"ConfessBySize", "halvesOf", "(I)I"⟩, 9) := ⟨⟨by decide +kernel, by decide +kernel⟩, List.mem_of_getElem? (i := 17) (by decide +kernel), List.mem_of_getElem? (i := 483) (by decide +kernel), List.mem_of_getElem? (i := 484) (by decide +kernel)⟩
theorem lw_p8 : lw_okq (⟨"ConfessBySize", "canGoHalves", "(III)Z"⟩, 9) := ⟨⟨by decide +kernel, by decide +kernel⟩, List.mem_of_getElem? (i := 17) (by decide +kernel), List.mem_of_getElem? (i := 487) (by decide +kernel), List.mem_of_getElem? (i := 488) (by decide +kernel)⟩
theorem lw_p9 : lw_okq (⟨"ConfessBySize", "mayConfess", "(LConfessBySize$Standing;II)Z"⟩, 9) := ⟨⟨by decide +kernel, by decide +kernel⟩, List.mem_of_getElem? (i := 17) (by decide +kernel), List.mem_of_getElem? (i := 497) (by decide +kernel), List.mem_of_getElem? (i := 498) (by decide +kernel)⟩
theorem lw_p10 : lw_okq (⟨"ConfessBySize", "isFree", "(LConfessBySize$Standing;I)Z"⟩, 9) := ⟨⟨by decide +kernel, by decide +kernel⟩, List.mem_of_getElem? (i := 17) (by decide +kernel), List.mem_of_getElem? (i := 501) (by decide +kernel), List.mem_of_getElem? (i := 502) (by decide +kernel)⟩
theorem lw_p11 : lw_okq (⟨"ConfessBySize", "isOpen", "()Z"⟩, 9) := ⟨⟨by decide +kernel, by decide +kernel⟩, List.mem_of_getElem? (i := 17) (by decide +kernel), List.mem_of_getElem? (i := 542) (by decide +kernel), List.mem_of_getElem? (i := 543) (by decide +kernel)⟩
theorem lw_p12 : lw_okq (⟨"ConfessBySize", "findMatch", "()V"⟩, 9) := ⟨⟨by decide +kernel, by decide +kernel⟩, List.mem_of_getElem? (i := 17) (by decide +kernel), List.mem_of_getElem? (i := 546) (by decide +kernel), List.mem_of_getElem? (i := 547) (by decide +kernel)⟩
theorem lw_p13 : lw_okq (⟨"ConfessBySize$Matching", "keepIfBetter", "(II)V"⟩, 7) := ⟨⟨by decide +kernel, by decide +kernel⟩, List.mem_of_getElem? (i := 110) (by decide +kernel), List.mem_of_getElem? (i := 570) (by decide +kernel), List.mem_of_getElem? (i := 571) (by decide +kernel)⟩
theorem lw_p14 : lw_okq (⟨"ConfessBySize", "toldOfMatch", "(I)I"⟩, 9) := ⟨⟨by decide +kernel, by decide +kernel⟩, List.mem_of_getElem? (i := 17) (by decide +kernel), List.mem_of_getElem? (i := 574) (by decide +kernel), List.mem_of_getElem? (i := 575) (by decide +kernel)⟩
theorem lw_p15 : lw_okq (⟨"ConfessBySize", "stitchesFor", "(II)I"⟩, 9) := ⟨⟨by decide +kernel, by decide +kernel⟩, List.mem_of_getElem? (i := 17) (by decide +kernel), List.mem_of_getElem? (i := 589) (by decide +kernel), List.mem_of_getElem? (i := 590) (by decide +kernel)⟩
def lw_privs_1 : List (MethodName × Nat) := [(⟨"ConfessBySize", "paidTo", "(LConfessBySize$Standing;I)I"⟩, 9), (⟨"ConfessBySize", "crimesFitting", "(I)I"⟩, 9), (⟨"ConfessBySize", "isFitting", "(III)Z"⟩, 9), (⟨"ConfessBySize", "sizesLeft", "(I)I"⟩, 9), (⟨"ConfessBySize", "nextToTry", "(I)I"⟩, 9), (⟨"ConfessBySize", "leftAtWorst", "(III)I"⟩, 9), (⟨"ConfessBySize", "peopleFitted", "(I)I"⟩, 9), (⟨"ConfessBySize", "halvesOf", "(I)I"⟩, 9), (⟨"ConfessBySize", "canGoHalves", "(III)Z"⟩, 9), (⟨"ConfessBySize", "mayConfess", "(LConfessBySize$Standing;II)Z"⟩, 9), (⟨"ConfessBySize", "isFree", "(LConfessBySize$Standing;I)Z"⟩, 9), (⟨"ConfessBySize", "isOpen", "()Z"⟩, 9), (⟨"ConfessBySize", "findMatch", "()V"⟩, 9), (⟨"ConfessBySize$Matching", "keepIfBetter", "(II)V"⟩, 7), (⟨"ConfessBySize", "toldOfMatch", "(I)I"⟩, 9), (⟨"ConfessBySize", "stitchesFor", "(II)I"⟩, 9)]
theorem lw_r1 : ∀ q ∈ lw_privs_1, lw_okq q := List.forall_mem_cons.mpr ⟨lw_p0, List.forall_mem_cons.mpr ⟨lw_p1, List.forall_mem_cons.mpr ⟨lw_p2, List.forall_mem_cons.mpr ⟨lw_p3, List.forall_mem_cons.mpr ⟨lw_p4, List.forall_mem_cons.mpr ⟨lw_p5, List.forall_mem_cons.mpr ⟨lw_p6, List.forall_mem_cons.mpr ⟨lw_p7, List.forall_mem_cons.mpr ⟨lw_p8, List.forall_mem_cons.mpr ⟨lw_p9, List.forall_mem_cons.mpr ⟨lw_p10, List.forall_mem_cons.mpr ⟨lw_p11, List.forall_mem_cons.mpr ⟨lw_p12, List.forall_mem_cons.mpr ⟨lw_p13, List.forall_mem_cons.mpr ⟨lw_p14, List.forall_mem_cons.mpr ⟨lw_p15, fun _ h => absurd h List.not_mem_nil⟩⟩⟩⟩⟩⟩⟩⟩⟩⟩⟩⟩⟩⟩⟩⟩
theorem lw_p16 : lw_okq (⟨"ConfessBySize", "comesFor", "(II)V"⟩, 9) := ⟨⟨by decide +kernel, by decide +kernel⟩, List.mem_of_getElem? (i := 17) (by decide +kernel), List.mem_of_getElem? (i := 640) (by decide +kernel), List.mem_of_getElem? (i := 641) (by decide +kernel)⟩
theorem lw_p17 : lw_okq (⟨"ConfessBySize", "paidInAll", "(LConfessBySize$Standing;)I"⟩, 9) := ⟨⟨by decide +kernel, by decide +kernel⟩, List.mem_of_getElem? (i := 17) (by decide +kernel), List.mem_of_getElem? (i := 648) (by decide +kernel), List.mem_of_getElem? (i := 649) (by decide +kernel)⟩
theorem lw_p18 : lw_okq (⟨"ConfessBySize", "withMatch", "(J)J"⟩, 9) := ⟨⟨by decide +kernel, by decide +kernel⟩, List.mem_of_getElem? (i := 17) (by decide +kernel), List.mem_of_getElem? (i := 672) (by decide +kernel), List.mem_of_getElem? (i := 673) (by decide +kernel)⟩
theorem lw_p19 : lw_okq (⟨"ConfessBySizeModel", "read", "()I"⟩, 40) := ⟨⟨by decide +kernel, by decide +kernel⟩, List.mem_of_getElem? (i := 678) (by decide +kernel), List.mem_of_getElem? (i := 821) (by decide +kernel), List.mem_of_getElem? (i := 822) (by decide +kernel)⟩
theorem lw_p20 : lw_okq (⟨"ConfessBySizeModel", "readOne", "(I)I"⟩, 40) := ⟨⟨by decide +kernel, by decide +kernel⟩, List.mem_of_getElem? (i := 678) (by decide +kernel), List.mem_of_getElem? (i := 825) (by decide +kernel), List.mem_of_getElem? (i := 826) (by decide +kernel)⟩
theorem lw_p21 : lw_okq (⟨"ConfessBySizeModel", "isFigure", "(III)Z"⟩, 40) := ⟨⟨by decide +kernel, by decide +kernel⟩, List.mem_of_getElem? (i := 678) (by decide +kernel), List.mem_of_getElem? (i := 832) (by decide +kernel), List.mem_of_getElem? (i := 833) (by decide +kernel)⟩
theorem lw_p22 : lw_okq (⟨"ConfessBySizeModel", "readCrimes", "(I)I"⟩, 40) := ⟨⟨by decide +kernel, by decide +kernel⟩, List.mem_of_getElem? (i := 678) (by decide +kernel), List.mem_of_getElem? (i := 836) (by decide +kernel), List.mem_of_getElem? (i := 837) (by decide +kernel)⟩
theorem lw_p23 : lw_okq (⟨"ConfessBySizeModel", "isOne", "(I)Z"⟩, 40) := ⟨⟨by decide +kernel, by decide +kernel⟩, List.mem_of_getElem? (i := 678) (by decide +kernel), List.mem_of_getElem? (i := 848) (by decide +kernel), List.mem_of_getElem? (i := 849) (by decide +kernel)⟩
theorem lw_p24 : lw_okq (⟨"ConfessBySizeModel", "oneNow", "(II)I"⟩, 40) := ⟨⟨by decide +kernel, by decide +kernel⟩, List.mem_of_getElem? (i := 678) (by decide +kernel), List.mem_of_getElem? (i := 852) (by decide +kernel), List.mem_of_getElem? (i := 853) (by decide +kernel)⟩
theorem lw_p25 : lw_okq (⟨"ConfessBySizeModel", "bears", "(I)I"⟩, 40) := ⟨⟨by decide +kernel, by decide +kernel⟩, List.mem_of_getElem? (i := 678) (by decide +kernel), List.mem_of_getElem? (i := 856) (by decide +kernel), List.mem_of_getElem? (i := 857) (by decide +kernel)⟩
theorem lw_p26 : lw_okq (⟨"ConfessBySizeModel", "paid", "(I)I"⟩, 40) := ⟨⟨by decide +kernel, by decide +kernel⟩, List.mem_of_getElem? (i := 678) (by decide +kernel), List.mem_of_getElem? (i := 860) (by decide +kernel), List.mem_of_getElem? (i := 861) (by decide +kernel)⟩
theorem lw_p27 : lw_okq (⟨"ConfessBySizeModel", "fitting", "(I)I"⟩, 40) := ⟨⟨by decide +kernel, by decide +kernel⟩, List.mem_of_getElem? (i := 678) (by decide +kernel), List.mem_of_getElem? (i := 864) (by decide +kernel), List.mem_of_getElem? (i := 865) (by decide +kernel)⟩
theorem lw_p28 : lw_okq (⟨"ConfessBySizeModel", "fits", "(II)Z"⟩, 40) := ⟨⟨by decide +kernel, by decide +kernel⟩, List.mem_of_getElem? (i := 678) (by decide +kernel), List.mem_of_getElem? (i := 868) (by decide +kernel), List.mem_of_getElem? (i := 869) (by decide +kernel)⟩
theorem lw_p29 : lw_okq (⟨"ConfessBySizeModel", "fitsBy", "(IIII)Z"⟩, 40) := ⟨⟨by decide +kernel, by decide +kernel⟩, List.mem_of_getElem? (i := 678) (by decide +kernel), List.mem_of_getElem? (i := 872) (by decide +kernel), List.mem_of_getElem? (i := 873) (by decide +kernel)⟩
theorem lw_p30 : lw_okq (⟨"ConfessBySizeModel", "counts", "(II)I"⟩, 40) := ⟨⟨by decide +kernel, by decide +kernel⟩, List.mem_of_getElem? (i := 678) (by decide +kernel), List.mem_of_getElem? (i := 876) (by decide +kernel), List.mem_of_getElem? (i := 877) (by decide +kernel)⟩
theorem lw_p31 : lw_okq (⟨"ConfessBySizeModel", "isHand", "(II)Z"⟩, 40) := ⟨⟨by decide +kernel, by decide +kernel⟩, List.mem_of_getElem? (i := 678) (by decide +kernel), List.mem_of_getElem? (i := 880) (by decide +kernel), List.mem_of_getElem? (i := 881) (by decide +kernel)⟩
def lw_privs_2 : List (MethodName × Nat) := [(⟨"ConfessBySize", "comesFor", "(II)V"⟩, 9), (⟨"ConfessBySize", "paidInAll", "(LConfessBySize$Standing;)I"⟩, 9), (⟨"ConfessBySize", "withMatch", "(J)J"⟩, 9), (⟨"ConfessBySizeModel", "read", "()I"⟩, 40), (⟨"ConfessBySizeModel", "readOne", "(I)I"⟩, 40), (⟨"ConfessBySizeModel", "isFigure", "(III)Z"⟩, 40), (⟨"ConfessBySizeModel", "readCrimes", "(I)I"⟩, 40), (⟨"ConfessBySizeModel", "isOne", "(I)Z"⟩, 40), (⟨"ConfessBySizeModel", "oneNow", "(II)I"⟩, 40), (⟨"ConfessBySizeModel", "bears", "(I)I"⟩, 40), (⟨"ConfessBySizeModel", "paid", "(I)I"⟩, 40), (⟨"ConfessBySizeModel", "fitting", "(I)I"⟩, 40), (⟨"ConfessBySizeModel", "fits", "(II)Z"⟩, 40), (⟨"ConfessBySizeModel", "fitsBy", "(IIII)Z"⟩, 40), (⟨"ConfessBySizeModel", "counts", "(II)I"⟩, 40), (⟨"ConfessBySizeModel", "isHand", "(II)Z"⟩, 40)]
theorem lw_r2 : ∀ q ∈ lw_privs_2, lw_okq q := List.forall_mem_cons.mpr ⟨lw_p16, List.forall_mem_cons.mpr ⟨lw_p17, List.forall_mem_cons.mpr ⟨lw_p18, List.forall_mem_cons.mpr ⟨lw_p19, List.forall_mem_cons.mpr ⟨lw_p20, List.forall_mem_cons.mpr ⟨lw_p21, List.forall_mem_cons.mpr ⟨lw_p22, List.forall_mem_cons.mpr ⟨lw_p23, List.forall_mem_cons.mpr ⟨lw_p24, List.forall_mem_cons.mpr ⟨lw_p25, List.forall_mem_cons.mpr ⟨lw_p26, List.forall_mem_cons.mpr ⟨lw_p27, List.forall_mem_cons.mpr ⟨lw_p28, List.forall_mem_cons.mpr ⟨lw_p29, List.forall_mem_cons.mpr ⟨lw_p30, List.forall_mem_cons.mpr ⟨lw_p31, fun _ h => absurd h List.not_mem_nil⟩⟩⟩⟩⟩⟩⟩⟩⟩⟩⟩⟩⟩⟩⟩⟩
theorem lw_p32 : lw_okq (⟨"ConfessBySizeModel", "howLarge", "(I)I"⟩, 40) := ⟨⟨by decide +kernel, by decide +kernel⟩, List.mem_of_getElem? (i := 678) (by decide +kernel), List.mem_of_getElem? (i := 884) (by decide +kernel), List.mem_of_getElem? (i := 885) (by decide +kernel)⟩
theorem lw_p33 : lw_okq (⟨"ConfessBySizeModel", "couldBe", "(II)Z"⟩, 40) := ⟨⟨by decide +kernel, by decide +kernel⟩, List.mem_of_getElem? (i := 678) (by decide +kernel), List.mem_of_getElem? (i := 888) (by decide +kernel), List.mem_of_getElem? (i := 889) (by decide +kernel)⟩
theorem lw_p34 : lw_okq (⟨"ConfessBySizeModel", "nextOf", "(I)I"⟩, 40) := ⟨⟨by decide +kernel, by decide +kernel⟩, List.mem_of_getElem? (i := 678) (by decide +kernel), List.mem_of_getElem? (i := 892) (by decide +kernel), List.mem_of_getElem? (i := 893) (by decide +kernel)⟩
theorem lw_p35 : lw_okq (⟨"ConfessBySizeModel", "isCrime", "(I)Z"⟩, 40) := ⟨⟨by decide +kernel, by decide +kernel⟩, List.mem_of_getElem? (i := 678) (by decide +kernel), List.mem_of_getElem? (i := 908) (by decide +kernel), List.mem_of_getElem? (i := 909) (by decide +kernel)⟩
theorem lw_p36 : lw_okq (⟨"ConfessBySizeModel", "crimeNow", "(II)I"⟩, 40) := ⟨⟨by decide +kernel, by decide +kernel⟩, List.mem_of_getElem? (i := 678) (by decide +kernel), List.mem_of_getElem? (i := 912) (by decide +kernel), List.mem_of_getElem? (i := 913) (by decide +kernel)⟩
theorem lw_p37 : lw_okq (⟨"ConfessBySizeModel", "hangsOn", "(I)I"⟩, 40) := ⟨⟨by decide +kernel, by decide +kernel⟩, List.mem_of_getElem? (i := 678) (by decide +kernel), List.mem_of_getElem? (i := 916) (by decide +kernel), List.mem_of_getElem? (i := 917) (by decide +kernel)⟩
theorem lw_p38 : lw_okq (⟨"ConfessBySizeModel", "fitted", "(I)I"⟩, 40) := ⟨⟨by decide +kernel, by decide +kernel⟩, List.mem_of_getElem? (i := 678) (by decide +kernel), List.mem_of_getElem? (i := 920) (by decide +kernel), List.mem_of_getElem? (i := 921) (by decide +kernel)⟩
theorem lw_p39 : lw_okq (⟨"ConfessBySizeModel", "halvesOf", "(I)I"⟩, 40) := ⟨⟨by decide +kernel, by decide +kernel⟩, List.mem_of_getElem? (i := 678) (by decide +kernel), List.mem_of_getElem? (i := 924) (by decide +kernel), List.mem_of_getElem? (i := 925) (by decide +kernel)⟩
theorem lw_p40 : lw_okq (⟨"ConfessBySizeModel", "isFree", "(I)Z"⟩, 40) := ⟨⟨by decide +kernel, by decide +kernel⟩, List.mem_of_getElem? (i := 678) (by decide +kernel), List.mem_of_getElem? (i := 932) (by decide +kernel), List.mem_of_getElem? (i := 933) (by decide +kernel)⟩
theorem lw_p41 : lw_okq (⟨"ConfessBySizeModel", "matchNow", "(I)I"⟩, 40) := ⟨⟨by decide +kernel, by decide +kernel⟩, List.mem_of_getElem? (i := 678) (by decide +kernel), List.mem_of_getElem? (i := 948) (by decide +kernel), List.mem_of_getElem? (i := 949) (by decide +kernel)⟩
theorem lw_p42 : lw_okq (⟨"ConfessBySizeModel", "codes", "()I"⟩, 40) := ⟨⟨by decide +kernel, by decide +kernel⟩, List.mem_of_getElem? (i := 678) (by decide +kernel), List.mem_of_getElem? (i := 952) (by decide +kernel), List.mem_of_getElem? (i := 953) (by decide +kernel)⟩
theorem lw_p43 : lw_okq (⟨"ConfessBySizeModel", "isMatch", "(I)Z"⟩, 40) := ⟨⟨by decide +kernel, by decide +kernel⟩, List.mem_of_getElem? (i := 678) (by decide +kernel), List.mem_of_getElem? (i := 956) (by decide +kernel), List.mem_of_getElem? (i := 957) (by decide +kernel)⟩
theorem lw_p44 : lw_okq (⟨"ConfessBySizeModel", "hasBy", "(II)I"⟩, 40) := ⟨⟨by decide +kernel, by decide +kernel⟩, List.mem_of_getElem? (i := 678) (by decide +kernel), List.mem_of_getElem? (i := 960) (by decide +kernel), List.mem_of_getElem? (i := 961) (by decide +kernel)⟩
theorem lw_p45 : lw_okq (⟨"ConfessBySizeModel", "stitchesNow", "()I"⟩, 40) := ⟨⟨by decide +kernel, by decide +kernel⟩, List.mem_of_getElem? (i := 678) (by decide +kernel), List.mem_of_getElem? (i := 968) (by decide +kernel), List.mem_of_getElem? (i := 969) (by decide +kernel)⟩
theorem lw_p46 : lw_okq (⟨"ConfessBySizeModel", "freeCrimes", "()I"⟩, 40) := ⟨⟨by decide +kernel, by decide +kernel⟩, List.mem_of_getElem? (i := 678) (by decide +kernel), List.mem_of_getElem? (i := 972) (by decide +kernel), List.mem_of_getElem? (i := 973) (by decide +kernel)⟩
theorem lw_p47 : lw_okq (⟨"ConfessBySizeModel", "alterBy", "(I)I"⟩, 40) := ⟨⟨by decide +kernel, by decide +kernel⟩, List.mem_of_getElem? (i := 678) (by decide +kernel), List.mem_of_getElem? (i := 976) (by decide +kernel), List.mem_of_getElem? (i := 977) (by decide +kernel)⟩
def lw_privs_3 : List (MethodName × Nat) := [(⟨"ConfessBySizeModel", "howLarge", "(I)I"⟩, 40), (⟨"ConfessBySizeModel", "couldBe", "(II)Z"⟩, 40), (⟨"ConfessBySizeModel", "nextOf", "(I)I"⟩, 40), (⟨"ConfessBySizeModel", "isCrime", "(I)Z"⟩, 40), (⟨"ConfessBySizeModel", "crimeNow", "(II)I"⟩, 40), (⟨"ConfessBySizeModel", "hangsOn", "(I)I"⟩, 40), (⟨"ConfessBySizeModel", "fitted", "(I)I"⟩, 40), (⟨"ConfessBySizeModel", "halvesOf", "(I)I"⟩, 40), (⟨"ConfessBySizeModel", "isFree", "(I)Z"⟩, 40), (⟨"ConfessBySizeModel", "matchNow", "(I)I"⟩, 40), (⟨"ConfessBySizeModel", "codes", "()I"⟩, 40), (⟨"ConfessBySizeModel", "isMatch", "(I)Z"⟩, 40), (⟨"ConfessBySizeModel", "hasBy", "(II)I"⟩, 40), (⟨"ConfessBySizeModel", "stitchesNow", "()I"⟩, 40), (⟨"ConfessBySizeModel", "freeCrimes", "()I"⟩, 40), (⟨"ConfessBySizeModel", "alterBy", "(I)I"⟩, 40)]
theorem lw_r3 : ∀ q ∈ lw_privs_3, lw_okq q := List.forall_mem_cons.mpr ⟨lw_p32, List.forall_mem_cons.mpr ⟨lw_p33, List.forall_mem_cons.mpr ⟨lw_p34, List.forall_mem_cons.mpr ⟨lw_p35, List.forall_mem_cons.mpr ⟨lw_p36, List.forall_mem_cons.mpr ⟨lw_p37, List.forall_mem_cons.mpr ⟨lw_p38, List.forall_mem_cons.mpr ⟨lw_p39, List.forall_mem_cons.mpr ⟨lw_p40, List.forall_mem_cons.mpr ⟨lw_p41, List.forall_mem_cons.mpr ⟨lw_p42, List.forall_mem_cons.mpr ⟨lw_p43, List.forall_mem_cons.mpr ⟨lw_p44, List.forall_mem_cons.mpr ⟨lw_p45, List.forall_mem_cons.mpr ⟨lw_p46, List.forall_mem_cons.mpr ⟨lw_p47, fun _ h => absurd h List.not_mem_nil⟩⟩⟩⟩⟩⟩⟩⟩⟩⟩⟩⟩⟩⟩⟩⟩
theorem lw_p48 : lw_okq (⟨"ConfessBySizeModel", "weeksNow", "(III)I"⟩, 40) := ⟨⟨by decide +kernel, by decide +kernel⟩, List.mem_of_getElem? (i := 678) (by decide +kernel), List.mem_of_getElem? (i := 992) (by decide +kernel), List.mem_of_getElem? (i := 993) (by decide +kernel)⟩
theorem lw_p49 : lw_okq (⟨"ConfessBySizeModel", "draw", "(I)I"⟩, 40) := ⟨⟨by decide +kernel, by decide +kernel⟩, List.mem_of_getElem? (i := 678) (by decide +kernel), List.mem_of_getElem? (i := 996) (by decide +kernel), List.mem_of_getElem? (i := 997) (by decide +kernel)⟩
theorem lw_p50 : lw_okq (⟨"ConfessBySizeModel", "paidAll", "()I"⟩, 40) := ⟨⟨by decide +kernel, by decide +kernel⟩, List.mem_of_getElem? (i := 678) (by decide +kernel), List.mem_of_getElem? (i := 1004) (by decide +kernel), List.mem_of_getElem? (i := 1005) (by decide +kernel)⟩
theorem lw_p51 : lw_okq (⟨"ConfessBySizeModel", "howMany", "(I)I"⟩, 40) := ⟨⟨by decide +kernel, by decide +kernel⟩, List.mem_of_getElem? (i := 678) (by decide +kernel), List.mem_of_getElem? (i := 1020) (by decide +kernel), List.mem_of_getElem? (i := 1021) (by decide +kernel)⟩
theorem lw_p52 : lw_okq (⟨"ConfessBySizeModel", "mix", "(J)V"⟩, 40) := ⟨⟨by decide +kernel, by decide +kernel⟩, List.mem_of_getElem? (i := 678) (by decide +kernel), List.mem_of_getElem? (i := 1029) (by decide +kernel), List.mem_of_getElem? (i := 1030) (by decide +kernel)⟩
def lw_privs_4 : List (MethodName × Nat) := [(⟨"ConfessBySizeModel", "weeksNow", "(III)I"⟩, 40), (⟨"ConfessBySizeModel", "draw", "(I)I"⟩, 40), (⟨"ConfessBySizeModel", "paidAll", "()I"⟩, 40), (⟨"ConfessBySizeModel", "howMany", "(I)I"⟩, 40), (⟨"ConfessBySizeModel", "mix", "(J)V"⟩, 40)]
theorem lw_r4 : ∀ q ∈ lw_privs_4, lw_okq q := List.forall_mem_cons.mpr ⟨lw_p48, List.forall_mem_cons.mpr ⟨lw_p49, List.forall_mem_cons.mpr ⟨lw_p50, List.forall_mem_cons.mpr ⟨lw_p51, List.forall_mem_cons.mpr ⟨lw_p52, fun _ h => absurd h List.not_mem_nil⟩⟩⟩⟩⟩
def lw_privs : List (MethodName × Nat) := lw_privs_1 ++ (lw_privs_2 ++ (lw_privs_3 ++ (lw_privs_4)))
def lw_tbl : List Cond := k2_sels lw_privs ++ tables_1
theorem lw_privs_ok : ∀ q ∈ lw_privs, lw_okq q := by
  show ∀ q ∈ lw_privs_1 ++ (lw_privs_2 ++ (lw_privs_3 ++ (lw_privs_4))), lw_okq q
  exact List.forall_mem_append.mpr ⟨lw_r1, List.forall_mem_append.mpr ⟨lw_r2, List.forall_mem_append.mpr ⟨lw_r3, lw_r4⟩⟩⟩
-- ===== end of PART A; then your names; then what follows =====
/-! ===== BEGIN words of one list among another's, by their places ===== -/
theorem goodIn_r {big : List Cond} (ws : List Cond) (ps : List Nat) (hp : ws = ps.filterMap (fun i => big[i]?)) (h : ws.all goodWord = true) : GoodIn big ws := by
  intro w hw
  have h1 := List.all_eq_true.mp h w hw
  rw [hp] at hw
  obtain ⟨i, -, hi⟩ := List.mem_filterMap.mp hw
  have hm : w ∈ big := by first | exact List.mem_of_getElem? hi | exact List.getElem?_mem hi
  exact ⟨hm, good_of_word h1⟩
theorem goodIn_app {big a b : List Cond} (ha : GoodIn big a) (hb : GoodIn big b) : GoodIn big (a ++ b) := fun w h => (List.mem_append.mp h).elim (ha w) (hb w)
theorem goodIn_ca {big a b : List Cond} {c : Cond} (ha : GoodIn big (c :: a)) (hb : GoodIn big b) : GoodIn big (c :: (a ++ b)) := fun w h => (List.mem_cons.mp h).elim (fun e => ha w (List.mem_cons.mpr (Or.inl e))) (fun h => (List.mem_append.mp h).elim (fun h => ha w (List.mem_cons.mpr (Or.inr h))) (hb w))
theorem goodIn_sub {big ws : List Cond} (hm : ∀ w ∈ ws, w ∈ big) (h : ws.all goodWord = true) : GoodIn big ws := fun w hw => ⟨hm w hw, good_of_word (List.all_eq_true.mp h w hw)⟩
/-! ===== END ===== -/
def RX0 : String := "ConfessBySize$Boy"
def TX0 : u_T := fun k => match k with
  | 0 => ("ConfessBySize$Man", "size", "I", true)
  | _ => ("ConfessBySize$Man", "hand", "I", true)
def tyX0 : Nat → FieldType := fun k => match k with
  | 0 => .int
  | _ => .int
abbrev wsX00 : List Cond := u_ws RX0 TX0 2
theorem nmX0 : ∀ a, a < 2 → ∀ b, b < 2 → a ≠ b → (TX0 a).2.1 ≠ (TX0 b).2.1 := by decide +kernel
theorem tyX0_ok : ∀ k, k < 2 → parseFieldDescriptor (TX0 k).2.2.1 = some (tyX0 k) := by decide +kernel
abbrev cX0_init : ByteArray := prog_2_method_1_code
def yX0_init : MethodName := ⟨RX0, "<init>", "(II)V"⟩
abbrev cX0_kind : ByteArray := prog_2_method_2_code
def yX0_kind : MethodName := ⟨RX0, "kind", "()I"⟩
abbrev cX0_bears : ByteArray := prog_2_method_3_code
def yX0_bears : MethodName := ⟨RX0, "bears", "()I"⟩
abbrev cX0_doesConfess : ByteArray := prog_2_method_4_code
def yX0_doesConfess : MethodName := ⟨RX0, "doesConfess", "()Z"⟩
def RX1 : String := "ConfessBySize$Crime"
def TX1 : u_T := fun k => match k with
  | 0 => ("ConfessBySize$Crime", "toldSize", "I", true)
  | 1 => ("ConfessBySize$Crime", "hand", "I", true)
  | _ => ("ConfessBySize$Crime", "reward", "I", true)
def tyX1 : Nat → FieldType := fun k => match k with
  | 0 => .int
  | 1 => .int
  | _ => .int
abbrev wsX10 : List Cond := u_ws RX1 TX1 3
theorem nmX1 : ∀ a, a < 3 → ∀ b, b < 3 → a ≠ b → (TX1 a).2.1 ≠ (TX1 b).2.1 := by decide +kernel
theorem tyX1_ok : ∀ k, k < 3 → parseFieldDescriptor (TX1 k).2.2.1 = some (tyX1 k) := by decide +kernel
abbrev cX1_init : ByteArray := prog_3_method_1_code
def yX1_init : MethodName := ⟨RX1, "<init>", "(III)V"⟩
def RX2 : String := "ConfessBySize$Irish"
def TX2 : u_T := fun k => match k with
  | 0 => ("ConfessBySize$Man", "size", "I", true)
  | _ => ("ConfessBySize$Man", "hand", "I", true)
def tyX2 : Nat → FieldType := fun k => match k with
  | 0 => .int
  | _ => .int
abbrev wsX20 : List Cond := u_ws RX2 TX2 2
theorem nmX2 : ∀ a, a < 2 → ∀ b, b < 2 → a ≠ b → (TX2 a).2.1 ≠ (TX2 b).2.1 := by decide +kernel
theorem tyX2_ok : ∀ k, k < 2 → parseFieldDescriptor (TX2 k).2.2.1 = some (tyX2 k) := by decide +kernel
abbrev cX2_init : ByteArray := prog_4_method_1_code
def yX2_init : MethodName := ⟨RX2, "<init>", "(II)V"⟩
abbrev cX2_kind : ByteArray := prog_4_method_2_code
def yX2_kind : MethodName := ⟨RX2, "kind", "()I"⟩
abbrev cX2_counted : ByteArray := prog_4_method_3_code
def yX2_counted : MethodName := ⟨RX2, "counted", "(I)I"⟩
def RX3 : String := "ConfessBySize$Man"
def TX3 : u_T := fun k => match k with
  | 0 => ("ConfessBySize$Man", "size", "I", true)
  | _ => ("ConfessBySize$Man", "hand", "I", true)
def tyX3 : Nat → FieldType := fun k => match k with
  | 0 => .int
  | _ => .int
abbrev wsX30 : List Cond := u_ws RX3 TX3 2
theorem nmX3 : ∀ a, a < 2 → ∀ b, b < 2 → a ≠ b → (TX3 a).2.1 ≠ (TX3 b).2.1 := by decide +kernel
theorem tyX3_ok : ∀ k, k < 2 → parseFieldDescriptor (TX3 k).2.2.1 = some (tyX3 k) := by decide +kernel
abbrev cX3_init : ByteArray := prog_5_method_1_code
def yX3_init : MethodName := ⟨RX3, "<init>", "(II)V"⟩
abbrev cX3_kind : ByteArray := prog_5_method_2_code
def yX3_kind : MethodName := ⟨RX3, "kind", "()I"⟩
abbrev cX3_bears : ByteArray := prog_5_method_3_code
def yX3_bears : MethodName := ⟨RX3, "bears", "()I"⟩
abbrev cX3_counted : ByteArray := prog_5_method_4_code
def yX3_counted : MethodName := ⟨RX3, "counted", "(I)I"⟩
abbrev cX3_hasHandLike : ByteArray := prog_5_method_5_code
def yX3_hasHandLike : MethodName := ⟨RX3, "hasHandLike", "(I)Z"⟩
abbrev cX3_doesConfess : ByteArray := prog_5_method_6_code
def yX3_doesConfess : MethodName := ⟨RX3, "doesConfess", "()Z"⟩
abbrev cX3_wouldFit : ByteArray := prog_5_method_7_code
def yX3_wouldFit : MethodName := ⟨RX3, "wouldFit", "(III)Z"⟩
def RX4 : String := "ConfessBySize$Matching"
def TX4 : u_T := fun k => match k with
  | 0 => ("ConfessBySize$Matching", "allowed", "[I", true)
  | 1 => ("ConfessBySize$Matching", "rewards", "[I", true)
  | 2 => ("ConfessBySize$Matching", "choice", "[I", true)
  | 3 => ("ConfessBySize$Matching", "best", "[I", true)
  | 4 => ("ConfessBySize$Matching", "peopleMany", "I", false)
  | 5 => ("ConfessBySize$Matching", "bestMany", "I", false)
  | _ => ("ConfessBySize$Matching", "bestReward", "I", false)
def tyX4 : Nat → FieldType := fun k => match k with
  | 0 => .array .int
  | 1 => .array .int
  | 2 => .array .int
  | 3 => .array .int
  | 4 => .int
  | 5 => .int
  | _ => .int
abbrev wsX40 : List Cond := u_ws RX4 TX4 7
theorem nmX4 : ∀ a, a < 7 → ∀ b, b < 7 → a ≠ b → (TX4 a).2.1 ≠ (TX4 b).2.1 := by decide +kernel
theorem tyX4_ok : ∀ k, k < 7 → parseFieldDescriptor (TX4 k).2.2.1 = some (tyX4 k) := by decide +kernel
abbrev cX4_init : ByteArray := prog_6_method_1_code
def yX4_init : MethodName := ⟨RX4, "<init>", "()V"⟩
abbrev cX4_begin : ByteArray := prog_6_method_2_code
def yX4_begin : MethodName := ⟨RX4, "begin", "(I)V"⟩
abbrev cX4_allow : ByteArray := prog_6_method_3_code
def yX4_allow : MethodName := ⟨RX4, "allow", "(II)V"⟩
abbrev cX4_reward : ByteArray := prog_6_method_4_code
def yX4_reward : MethodName := ⟨RX4, "reward", "(II)V"⟩
abbrev cX4_find : ByteArray := prog_6_method_5_code
def yX4_find : MethodName := ⟨RX4, "find", "()V"⟩
abbrev cX4_bestOn : ByteArray := prog_6_method_6_code
def yX4_bestOn : MethodName := ⟨RX4, "bestOn", "(I)I"⟩
abbrev cX4_choose : ByteArray := prog_6_method_7_code
def yX4_choose : MethodName := ⟨RX4, "choose", "(LConfessBySize$Matching;IIII)V"⟩
abbrev cX4_keepIfBetter : ByteArray := prog_6_method_8_code
def yX4_keepIfBetter : MethodName := ⟨RX4, "keepIfBetter", "(II)V"⟩
def RX5 : String := "ConfessBySize$Page"
def TX5 : u_T := fun k => match k with
  | 0 => ("ConfessBySize$Page", "codes", "[I", true)
  | _ => ("ConfessBySize$Page", "length", "I", false)
def tyX5 : Nat → FieldType := fun k => match k with
  | 0 => .array .int
  | _ => .int
abbrev wsX50 : List Cond := u_ws RX5 TX5 2
theorem nmX5 : ∀ a, a < 2 → ∀ b, b < 2 → a ≠ b → (TX5 a).2.1 ≠ (TX5 b).2.1 := by decide +kernel
theorem tyX5_ok : ∀ k, k < 2 → parseFieldDescriptor (TX5 k).2.2.1 = some (tyX5 k) := by decide +kernel
abbrev cX5_init : ByteArray := prog_7_method_1_code
def yX5_init : MethodName := ⟨RX5, "<init>", "()V"⟩
abbrev cX5_length : ByteArray := prog_7_method_2_code
def yX5_length : MethodName := ⟨RX5, "length", "()I"⟩
abbrev cX5_isFull : ByteArray := prog_7_method_3_code
def yX5_isFull : MethodName := ⟨RX5, "isFull", "()Z"⟩
abbrev cX5_add : ByteArray := prog_7_method_4_code
def yX5_add : MethodName := ⟨RX5, "add", "(I)V"⟩
abbrev cX5_clear : ByteArray := prog_7_method_5_code
def yX5_clear : MethodName := ⟨RX5, "clear", "()V"⟩
abbrev cX5_codeAt : ByteArray := prog_7_method_6_code
def yX5_codeAt : MethodName := ⟨RX5, "codeAt", "(I)I"⟩
abbrev cX5_digitAt : ByteArray := prog_7_method_7_code
def yX5_digitAt : MethodName := ⟨RX5, "digitAt", "(I)I"⟩
abbrev cX5_semicolon : ByteArray := prog_7_method_8_code
def yX5_semicolon : MethodName := ⟨RX5, "semicolon", "()I"⟩
abbrev cX5_firstFault : ByteArray := prog_7_method_9_code
def yX5_firstFault : MethodName := ⟨RX5, "firstFault", "()I"⟩
abbrev cX5_isStation : ByteArray := prog_7_method_10_code
def yX5_isStation : MethodName := ⟨RX5, "isStation", "()Z"⟩
abbrev cX5_isOfPeople : ByteArray := prog_7_method_11_code
def yX5_isOfPeople : MethodName := ⟨RX5, "isOfPeople", "(II)Z"⟩
abbrev cX5_isOfCrimes : ByteArray := prog_7_method_12_code
def yX5_isOfCrimes : MethodName := ⟨RX5, "isOfCrimes", "(II)Z"⟩
abbrev cX5_isKindLetter : ByteArray := prog_7_method_13_code
def yX5_isKindLetter : MethodName := ⟨RX5, "isKindLetter", "(I)Z"⟩
abbrev cX5_isDigit : ByteArray := prog_7_method_14_code
def yX5_isDigit : MethodName := ⟨RX5, "isDigit", "(III)Z"⟩
def RX6 : String := "ConfessBySize$Roll"
def TX6 : u_T := fun k => match k with
  | 0 => ("ConfessBySize$Roll", "people", "[LConfessBySize$Man;", true)
  | 1 => ("ConfessBySize$Roll", "crimes", "[LConfessBySize$Crime;", true)
  | 2 => ("ConfessBySize$Roll", "peopleMany", "I", false)
  | _ => ("ConfessBySize$Roll", "crimesMany", "I", false)
def tyX6 : Nat → FieldType := fun k => match k with
  | 0 => .array (.object "ConfessBySize$Man")
  | 1 => .array (.object "ConfessBySize$Crime")
  | 2 => .int
  | _ => .int
abbrev wsX60 : List Cond := u_ws RX6 TX6 4
theorem nmX6 : ∀ a, a < 4 → ∀ b, b < 4 → a ≠ b → (TX6 a).2.1 ≠ (TX6 b).2.1 := by decide +kernel
theorem tyX6_ok : ∀ k, k < 4 → parseFieldDescriptor (TX6 k).2.2.1 = some (tyX6 k) := by decide +kernel
abbrev cX6_init : ByteArray := prog_8_method_1_code
def yX6_init : MethodName := ⟨RX6, "<init>", "()V"⟩
abbrev cX6_peopleMany : ByteArray := prog_8_method_2_code
def yX6_peopleMany : MethodName := ⟨RX6, "peopleMany", "()I"⟩
abbrev cX6_crimesMany : ByteArray := prog_8_method_3_code
def yX6_crimesMany : MethodName := ⟨RX6, "crimesMany", "()I"⟩
abbrev cX6_manOf : ByteArray := prog_8_method_4_code
def yX6_manOf : MethodName := ⟨RX6, "manOf", "(I)LConfessBySize$Man;"⟩
abbrev cX6_crimeOf : ByteArray := prog_8_method_5_code
def yX6_crimeOf : MethodName := ⟨RX6, "crimeOf", "(I)LConfessBySize$Crime;"⟩
abbrev cX6_read : ByteArray := prog_8_method_6_code
def yX6_read : MethodName := ⟨RX6, "read", "(LConfessBySize$Page;)V"⟩
abbrev cX6_manAt : ByteArray := prog_8_method_7_code
def yX6_manAt : MethodName := ⟨RX6, "manAt", "(LConfessBySize$Page;I)LConfessBySize$Man;"⟩
abbrev cX6_crimeAt : ByteArray := prog_8_method_8_code
def yX6_crimeAt : MethodName := ⟨RX6, "crimeAt", "(LConfessBySize$Page;I)LConfessBySize$Crime;"⟩
def RX7 : String := "ConfessBySize$Standing"
def TX7 : u_T := fun k => match k with
  | 0 => ("ConfessBySize$Standing", "sizes", "[I", true)
  | 1 => ("ConfessBySize$Standing", "hasConfessed", "[I", true)
  | 2 => ("ConfessBySize$Standing", "trials", "LConfessBySize$Trials;", true)
  | 3 => ("ConfessBySize$Standing", "stitchesMade", "I", false)
  | _ => ("ConfessBySize$Standing", "timesConfessed", "I", false)
def tyX7 : Nat → FieldType := fun k => match k with
  | 0 => .array .int
  | 1 => .array .int
  | 2 => .object "ConfessBySize$Trials"
  | 3 => .int
  | _ => .int
abbrev wsX70 : List Cond := u_ws RX7 TX7 5
theorem nmX7 : ∀ a, a < 5 → ∀ b, b < 5 → a ≠ b → (TX7 a).2.1 ≠ (TX7 b).2.1 := by decide +kernel
theorem tyX7_ok : ∀ k, k < 5 → parseFieldDescriptor (TX7 k).2.2.1 = some (tyX7 k) := by decide +kernel
abbrev cX7_init : ByteArray := prog_9_method_1_code
def yX7_init : MethodName := ⟨RX7, "<init>", "()V"⟩
abbrev cX7_begin : ByteArray := prog_9_method_2_code
def yX7_begin : MethodName := ⟨RX7, "begin", "(LConfessBySize$Roll;)V"⟩
abbrev cX7_copyFrom : ByteArray := prog_9_method_3_code
def yX7_copyFrom : MethodName := ⟨RX7, "copyFrom", "(LConfessBySize$Standing;)V"⟩
abbrev cX7_sizeOf : ByteArray := prog_9_method_4_code
def yX7_sizeOf : MethodName := ⟨RX7, "sizeOf", "(I)I"⟩
abbrev cX7_resize : ByteArray := prog_9_method_5_code
def yX7_resize : MethodName := ⟨RX7, "resize", "(II)V"⟩
abbrev cX7_crimeOn : ByteArray := prog_9_method_6_code
def yX7_crimeOn : MethodName := ⟨RX7, "crimeOn", "(I)I"⟩
abbrev cX7_hangsOn : ByteArray := prog_9_method_7_code
def yX7_hangsOn : MethodName := ⟨RX7, "hangsOn", "(I)I"⟩
abbrev cX7_hang : ByteArray := prog_9_method_8_code
def yX7_hang : MethodName := ⟨RX7, "hang", "(II)V"⟩
abbrev cX7_hanging : ByteArray := prog_9_method_9_code
def yX7_hanging : MethodName := ⟨RX7, "hanging", "()I"⟩
def RX8 : String := "ConfessBySize$Tailor"
def TX8 : u_T := fun k => match k with
  | 0 => ("ConfessBySize$Man", "size", "I", true)
  | _ => ("ConfessBySize$Man", "hand", "I", true)
def tyX8 : Nat → FieldType := fun k => match k with
  | 0 => .int
  | _ => .int
abbrev wsX80 : List Cond := u_ws RX8 TX8 2
theorem nmX8 : ∀ a, a < 2 → ∀ b, b < 2 → a ≠ b → (TX8 a).2.1 ≠ (TX8 b).2.1 := by decide +kernel
theorem tyX8_ok : ∀ k, k < 2 → parseFieldDescriptor (TX8 k).2.2.1 = some (tyX8 k) := by decide +kernel
abbrev cX8_init : ByteArray := prog_10_method_1_code
def yX8_init : MethodName := ⟨RX8, "<init>", "(II)V"⟩
abbrev cX8_kind : ByteArray := prog_10_method_2_code
def yX8_kind : MethodName := ⟨RX8, "kind", "()I"⟩
abbrev cX8_bears : ByteArray := prog_10_method_3_code
def yX8_bears : MethodName := ⟨RX8, "bears", "()I"⟩
def RX9 : String := "ConfessBySize$Thief"
def TX9 : u_T := fun k => match k with
  | 0 => ("ConfessBySize$Man", "size", "I", true)
  | _ => ("ConfessBySize$Man", "hand", "I", true)
def tyX9 : Nat → FieldType := fun k => match k with
  | 0 => .int
  | _ => .int
abbrev wsX90 : List Cond := u_ws RX9 TX9 2
theorem nmX9 : ∀ a, a < 2 → ∀ b, b < 2 → a ≠ b → (TX9 a).2.1 ≠ (TX9 b).2.1 := by decide +kernel
theorem tyX9_ok : ∀ k, k < 2 → parseFieldDescriptor (TX9 k).2.2.1 = some (tyX9 k) := by decide +kernel
abbrev cX9_init : ByteArray := prog_11_method_1_code
def yX9_init : MethodName := ⟨RX9, "<init>", "(II)V"⟩
abbrev cX9_kind : ByteArray := prog_11_method_2_code
def yX9_kind : MethodName := ⟨RX9, "kind", "()I"⟩
abbrev cX9_hasHandLike : ByteArray := prog_11_method_3_code
def yX9_hasHandLike : MethodName := ⟨RX9, "hasHandLike", "(I)Z"⟩
def RX10 : String := "ConfessBySize$Trials"
def TX10 : u_T := fun k => match k with
  | 0 => ("ConfessBySize$Trials", "persons", "[I", true)
  | 1 => ("ConfessBySize$Trials", "crimeSizes", "[I", true)
  | 2 => ("ConfessBySize$Trials", "crimeHands", "[I", true)
  | 3 => ("ConfessBySize$Trials", "didFit", "[Z", true)
  | _ => ("ConfessBySize$Trials", "many", "I", false)
def tyX10 : Nat → FieldType := fun k => match k with
  | 0 => .array .int
  | 1 => .array .int
  | 2 => .array .int
  | 3 => .array .boolean
  | _ => .int
abbrev wsX100 : List Cond := u_ws RX10 TX10 5
theorem nmX10 : ∀ a, a < 5 → ∀ b, b < 5 → a ≠ b → (TX10 a).2.1 ≠ (TX10 b).2.1 := by decide +kernel
theorem tyX10_ok : ∀ k, k < 5 → parseFieldDescriptor (TX10 k).2.2.1 = some (tyX10 k) := by decide +kernel
abbrev cX10_init : ByteArray := prog_12_method_1_code
def yX10_init : MethodName := ⟨RX10, "<init>", "()V"⟩
abbrev cX10_many : ByteArray := prog_12_method_2_code
def yX10_many : MethodName := ⟨RX10, "many", "()I"⟩
abbrev cX10_isFull : ByteArray := prog_12_method_3_code
def yX10_isFull : MethodName := ⟨RX10, "isFull", "()Z"⟩
abbrev cX10_add : ByteArray := prog_12_method_4_code
def yX10_add : MethodName := ⟨RX10, "add", "(IIIZ)V"⟩
abbrev cX10_clear : ByteArray := prog_12_method_5_code
def yX10_clear : MethodName := ⟨RX10, "clear", "()V"⟩
abbrev cX10_copyFrom : ByteArray := prog_12_method_6_code
def yX10_copyFrom : MethodName := ⟨RX10, "copyFrom", "(LConfessBySize$Trials;)V"⟩
abbrev cX10_allow : ByteArray := prog_12_method_7_code
def yX10_allow : MethodName := ⟨RX10, "allow", "(ILConfessBySize$Man;I)Z"⟩
def RX11 : String := "ConfessBySize"
def TX11 : u_T := fun k => match k with
  | 0 => ("ConfessBySize", "page", "LConfessBySize$Page;", true)
  | 1 => ("ConfessBySize", "roll", "LConfessBySize$Roll;", true)
  | 2 => ("ConfessBySize", "now", "LConfessBySize$Standing;", true)
  | 3 => ("ConfessBySize", "kept", "LConfessBySize$Standing;", true)
  | 4 => ("ConfessBySize", "wouldBe", "LConfessBySize$Standing;", true)
  | 5 => ("ConfessBySize", "matching", "LConfessBySize$Matching;", true)
  | 6 => ("ConfessBySize", "isKept", "Z", false)
  | 7 => ("ConfessBySize", "stationsRead", "I", false)
  | _ => ("ConfessBySize", "stitchingsDone", "I", false)
def tyX11 : Nat → FieldType := fun k => match k with
  | 0 => .object "ConfessBySize$Page"
  | 1 => .object "ConfessBySize$Roll"
  | 2 => .object "ConfessBySize$Standing"
  | 3 => .object "ConfessBySize$Standing"
  | 4 => .object "ConfessBySize$Standing"
  | 5 => .object "ConfessBySize$Matching"
  | 6 => .boolean
  | 7 => .int
  | _ => .int
abbrev wsX110 : List Cond := u_ws RX11 TX11 9
theorem nmX11 : ∀ a, a < 9 → ∀ b, b < 9 → a ≠ b → (TX11 a).2.1 ≠ (TX11 b).2.1 := by decide +kernel
theorem tyX11_ok : ∀ k, k < 9 → parseFieldDescriptor (TX11 k).2.2.1 = some (tyX11 k) := by decide +kernel
abbrev cX11_init : ByteArray := prog_1_method_1_code
def yX11_init : MethodName := ⟨RX11, "<init>", "()V"⟩
abbrev cX11_letter : ByteArray := prog_1_method_2_code
def yX11_letter : MethodName := ⟨RX11, "letter", "(I)I"⟩
abbrev cX11_blank : ByteArray := prog_1_method_3_code
def yX11_blank : MethodName := ⟨RX11, "blank", "()I"⟩
abbrev cX11_fault : ByteArray := prog_1_method_4_code
def yX11_fault : MethodName := ⟨RX11, "fault", "()I"⟩
abbrev cX11_station : ByteArray := prog_1_method_5_code
def yX11_station : MethodName := ⟨RX11, "station", "()I"⟩
abbrev cX11_about : ByteArray := prog_1_method_6_code
def yX11_about : MethodName := ⟨RX11, "about", "(II)I"⟩
abbrev cX11_as : ByteArray := prog_1_method_7_code
def yX11_as : MethodName := ⟨RX11, "as", "(II)I"⟩
abbrev cX11_crime : ByteArray := prog_1_method_8_code
def yX11_crime : MethodName := ⟨RX11, "crime", "(II)I"⟩
abbrev cX11_confess : ByteArray := prog_1_method_9_code
def yX11_confess : MethodName := ⟨RX11, "confess", "(II)I"⟩
abbrev cX11_recant : ByteArray := prog_1_method_10_code
def yX11_recant : MethodName := ⟨RX11, "recant", "(I)I"⟩
abbrev cX11_alter : ByteArray := prog_1_method_11_code
def yX11_alter : MethodName := ⟨RX11, "alter", "(IZ)I"⟩
abbrev cX11_match : ByteArray := prog_1_method_12_code
def yX11_match : MethodName := ⟨RX11, "match", "(I)I"⟩
abbrev cX11_stitches : ByteArray := prog_1_method_13_code
def yX11_stitches : MethodName := ⟨RX11, "stitches", "()I"⟩
abbrev cX11_tried : ByteArray := prog_1_method_14_code
def yX11_tried : MethodName := ⟨RX11, "tried", "(IIZ)I"⟩
abbrev cX11_forget : ByteArray := prog_1_method_15_code
def yX11_forget : MethodName := ⟨RX11, "forget", "()I"⟩
abbrev cX11_weeks : ByteArray := prog_1_method_16_code
def yX11_weeks : MethodName := ⟨RX11, "weeks", "(III)I"⟩
abbrev cX11_image : ByteArray := prog_1_method_17_code
def yX11_image : MethodName := ⟨RX11, "image", "()I"⟩
abbrev cX11_restore : ByteArray := prog_1_method_18_code
def yX11_restore : MethodName := ⟨RX11, "restore", "()I"⟩
abbrev cX11_count : ByteArray := prog_1_method_19_code
def yX11_count : MethodName := ⟨RX11, "count", "(I)I"⟩
abbrev cX11_digest : ByteArray := prog_1_method_20_code
def yX11_digest : MethodName := ⟨RX11, "digest", "()J"⟩
abbrev cX11_isOpen : ByteArray := prog_1_method_21_code
def yX11_isOpen : MethodName := ⟨RX11, "isOpen", "()Z"⟩
abbrev cX11_isSize : ByteArray := prog_1_method_22_code
def yX11_isSize : MethodName := ⟨RX11, "isSize", "(I)Z"⟩
abbrev cX11_isOfKind : ByteArray := prog_1_method_23_code
def yX11_isOfKind : MethodName := ⟨RX11, "isOfKind", "(LConfessBySize$Man;I)Z"⟩
abbrev cX11_isFitting : ByteArray := prog_1_method_24_code
def yX11_isFitting : MethodName := ⟨RX11, "isFitting", "(III)Z"⟩
abbrev cX11_crimesFitting : ByteArray := prog_1_method_25_code
def yX11_crimesFitting : MethodName := ⟨RX11, "crimesFitting", "(I)I"⟩
abbrev cX11_peopleFitted : ByteArray := prog_1_method_26_code
def yX11_peopleFitted : MethodName := ⟨RX11, "peopleFitted", "(I)I"⟩
abbrev cX11_halvesOf : ByteArray := prog_1_method_27_code
def yX11_halvesOf : MethodName := ⟨RX11, "halvesOf", "(I)I"⟩
abbrev cX11_canGoHalves : ByteArray := prog_1_method_28_code
def yX11_canGoHalves : MethodName := ⟨RX11, "canGoHalves", "(III)Z"⟩
abbrev cX11_isFree : ByteArray := prog_1_method_29_code
def yX11_isFree : MethodName := ⟨RX11, "isFree", "(LConfessBySize$Standing;I)Z"⟩
abbrev cX11_mayConfess : ByteArray := prog_1_method_30_code
def yX11_mayConfess : MethodName := ⟨RX11, "mayConfess", "(LConfessBySize$Standing;II)Z"⟩
abbrev cX11_paidTo : ByteArray := prog_1_method_31_code
def yX11_paidTo : MethodName := ⟨RX11, "paidTo", "(LConfessBySize$Standing;I)I"⟩
abbrev cX11_paidInAll : ByteArray := prog_1_method_32_code
def yX11_paidInAll : MethodName := ⟨RX11, "paidInAll", "(LConfessBySize$Standing;)I"⟩
abbrev cX11_isOfMatch : ByteArray := prog_1_method_33_code
def yX11_isOfMatch : MethodName := ⟨RX11, "isOfMatch", "(I)Z"⟩
abbrev cX11_findMatch : ByteArray := prog_1_method_34_code
def yX11_findMatch : MethodName := ⟨RX11, "findMatch", "()V"⟩
abbrev cX11_toldOfMatch : ByteArray := prog_1_method_35_code
def yX11_toldOfMatch : MethodName := ⟨RX11, "toldOfMatch", "(I)I"⟩
abbrev cX11_withMatch : ByteArray := prog_1_method_36_code
def yX11_withMatch : MethodName := ⟨RX11, "withMatch", "(J)J"⟩
abbrev cX11_fewestStitches : ByteArray := prog_1_method_37_code
def yX11_fewestStitches : MethodName := ⟨RX11, "fewestStitches", "(LConfessBySize;II)I"⟩
abbrev cX11_stitchesFor : ByteArray := prog_1_method_38_code
def yX11_stitchesFor : MethodName := ⟨RX11, "stitchesFor", "(II)I"⟩
abbrev cX11_sizesLeft : ByteArray := prog_1_method_39_code
def yX11_sizesLeft : MethodName := ⟨RX11, "sizesLeft", "(I)I"⟩
abbrev cX11_bitOfSize : ByteArray := prog_1_method_40_code
def yX11_bitOfSize : MethodName := ⟨RX11, "bitOfSize", "(I)I"⟩
abbrev cX11_nextToTry : ByteArray := prog_1_method_41_code
def yX11_nextToTry : MethodName := ⟨RX11, "nextToTry", "(I)I"⟩
abbrev cX11_leftAtWorst : ByteArray := prog_1_method_42_code
def yX11_leftAtWorst : MethodName := ⟨RX11, "leftAtWorst", "(III)I"⟩
abbrev cX11_seedAfter : ByteArray := prog_1_method_43_code
def yX11_seedAfter : MethodName := ⟨RX11, "seedAfter", "(I)I"⟩
abbrev cX11_drawn : ByteArray := prog_1_method_44_code
def yX11_drawn : MethodName := ⟨RX11, "drawn", "(II)I"⟩
abbrev cX11_comesFor : ByteArray := prog_1_method_45_code
def yX11_comesFor : MethodName := ⟨RX11, "comesFor", "(II)V"⟩
def RX12 : String := "ConfessBySizeModel"
def TX12 : u_T := fun k => match k with
  | 0 => ("ConfessBySizeModel", "stations", "I", false)
  | 1 => ("ConfessBySizeModel", "people", "I", false)
  | 2 => ("ConfessBySizeModel", "crimes", "I", false)
  | 3 => ("ConfessBySizeModel", "kindOf", "[I", true)
  | 4 => ("ConfessBySizeModel", "sizeOf", "[I", true)
  | 5 => ("ConfessBySizeModel", "handOf", "[I", true)
  | 6 => ("ConfessBySizeModel", "crimeSize", "[I", true)
  | 7 => ("ConfessBySizeModel", "crimeHand", "[I", true)
  | 8 => ("ConfessBySizeModel", "rewardOf", "[I", true)
  | 9 => ("ConfessBySizeModel", "hasOf", "[I", true)
  | 10 => ("ConfessBySizeModel", "stitchMany", "I", false)
  | 11 => ("ConfessBySizeModel", "confessions", "I", false)
  | 12 => ("ConfessBySizeModel", "triedMany", "I", false)
  | 13 => ("ConfessBySizeModel", "triedWho", "[I", true)
  | 14 => ("ConfessBySizeModel", "triedSize", "[I", true)
  | 15 => ("ConfessBySizeModel", "triedHand", "[I", true)
  | 16 => ("ConfessBySizeModel", "triedFits", "[I", true)
  | 17 => ("ConfessBySizeModel", "asks", "I", false)
  | 18 => ("ConfessBySizeModel", "pageLength", "I", false)
  | 19 => ("ConfessBySizeModel", "page", "[B", true)
  | 20 => ("ConfessBySizeModel", "isWhole", "Z", false)
  | 21 => ("ConfessBySizeModel", "newMany", "I", false)
  | 22 => ("ConfessBySizeModel", "newCrimes", "I", false)
  | 23 => ("ConfessBySizeModel", "matchMany", "I", false)
  | 24 => ("ConfessBySizeModel", "matchReward", "I", false)
  | 25 => ("ConfessBySizeModel", "savedSize", "[I", true)
  | 26 => ("ConfessBySizeModel", "seedNow", "J", false)
  | 27 => ("ConfessBySizeModel", "savedHas", "[I", true)
  | 28 => ("ConfessBySizeModel", "isKept", "Z", false)
  | 29 => ("ConfessBySizeModel", "keptStation", "I", false)
  | 30 => ("ConfessBySizeModel", "keptStitches", "I", false)
  | 31 => ("ConfessBySizeModel", "keptConfessions", "I", false)
  | 32 => ("ConfessBySizeModel", "keptTried", "I", false)
  | 33 => ("ConfessBySizeModel", "keptSize", "[I", true)
  | 34 => ("ConfessBySizeModel", "keptHas", "[I", true)
  | 35 => ("ConfessBySizeModel", "keptWho", "[I", true)
  | 36 => ("ConfessBySizeModel", "keptTriedSize", "[I", true)
  | 37 => ("ConfessBySizeModel", "keptTriedHand", "[I", true)
  | 38 => ("ConfessBySizeModel", "keptFits", "[I", true)
  | _ => ("ConfessBySizeModel", "h", "J", false)
def tyX12 : Nat → FieldType := fun k => match k with
  | 0 => .int
  | 1 => .int
  | 2 => .int
  | 3 => .array .int
  | 4 => .array .int
  | 5 => .array .int
  | 6 => .array .int
  | 7 => .array .int
  | 8 => .array .int
  | 9 => .array .int
  | 10 => .int
  | 11 => .int
  | 12 => .int
  | 13 => .array .int
  | 14 => .array .int
  | 15 => .array .int
  | 16 => .array .int
  | 17 => .int
  | 18 => .int
  | 19 => .array .byte
  | 20 => .boolean
  | 21 => .int
  | 22 => .int
  | 23 => .int
  | 24 => .int
  | 25 => .array .int
  | 26 => .long
  | 27 => .array .int
  | 28 => .boolean
  | 29 => .int
  | 30 => .int
  | 31 => .int
  | 32 => .int
  | 33 => .array .int
  | 34 => .array .int
  | 35 => .array .int
  | 36 => .array .int
  | 37 => .array .int
  | 38 => .array .int
  | _ => .long
abbrev wsX120 : List Cond := u_ws RX12 TX12 40
theorem nmX12 : ∀ a, a < 40 → ∀ b, b < 40 → a ≠ b → (TX12 a).2.1 ≠ (TX12 b).2.1 := by decide +kernel
theorem tyX12_ok : ∀ k, k < 40 → parseFieldDescriptor (TX12 k).2.2.1 = some (tyX12 k) := by decide +kernel
abbrev cX12_init : ByteArray := prog_14_method_1_code
def yX12_init : MethodName := ⟨RX12, "<init>", "()V"⟩
abbrev cX12_within : ByteArray := prog_14_method_3_code
def yX12_within : MethodName := ⟨RX12, "within", "(III)Z"⟩
abbrev cX12_isIn : ByteArray := prog_14_method_4_code
def yX12_isIn : MethodName := ⟨RX12, "isIn", "(II)Z"⟩
abbrev cX12_letter : ByteArray := prog_14_method_5_code
def yX12_letter : MethodName := ⟨RX12, "letter", "(I)I"⟩
abbrev cX12_blank : ByteArray := prog_14_method_6_code
def yX12_blank : MethodName := ⟨RX12, "blank", "()I"⟩
abbrev cX12_kindBy : ByteArray := prog_14_method_7_code
def yX12_kindBy : MethodName := ⟨RX12, "kindBy", "(I)I"⟩
abbrev cX12_isFigure : ByteArray := prog_14_method_8_code
def yX12_isFigure : MethodName := ⟨RX12, "isFigure", "(III)Z"⟩
abbrev cX12_readOne : ByteArray := prog_14_method_9_code
def yX12_readOne : MethodName := ⟨RX12, "readOne", "(I)I"⟩
abbrev cX12_readCrimes : ByteArray := prog_14_method_10_code
def yX12_readCrimes : MethodName := ⟨RX12, "readCrimes", "(I)I"⟩
abbrev cX12_read : ByteArray := prog_14_method_11_code
def yX12_read : MethodName := ⟨RX12, "read", "()I"⟩
abbrev cX12_fault : ByteArray := prog_14_method_12_code
def yX12_fault : MethodName := ⟨RX12, "fault", "()I"⟩
abbrev cX12_station : ByteArray := prog_14_method_13_code
def yX12_station : MethodName := ⟨RX12, "station", "()I"⟩
abbrev cX12_isOne : ByteArray := prog_14_method_14_code
def yX12_isOne : MethodName := ⟨RX12, "isOne", "(I)Z"⟩
abbrev cX12_isCrime : ByteArray := prog_14_method_15_code
def yX12_isCrime : MethodName := ⟨RX12, "isCrime", "(I)Z"⟩
abbrev cX12_bears : ByteArray := prog_14_method_16_code
def yX12_bears : MethodName := ⟨RX12, "bears", "(I)I"⟩
abbrev cX12_counts : ByteArray := prog_14_method_17_code
def yX12_counts : MethodName := ⟨RX12, "counts", "(II)I"⟩
abbrev cX12_isHand : ByteArray := prog_14_method_18_code
def yX12_isHand : MethodName := ⟨RX12, "isHand", "(II)Z"⟩
abbrev cX12_fitsBy : ByteArray := prog_14_method_19_code
def yX12_fitsBy : MethodName := ⟨RX12, "fitsBy", "(IIII)Z"⟩
abbrev cX12_fits : ByteArray := prog_14_method_20_code
def yX12_fits : MethodName := ⟨RX12, "fits", "(II)Z"⟩
abbrev cX12_fitting : ByteArray := prog_14_method_21_code
def yX12_fitting : MethodName := ⟨RX12, "fitting", "(I)I"⟩
abbrev cX12_fitted : ByteArray := prog_14_method_22_code
def yX12_fitted : MethodName := ⟨RX12, "fitted", "(I)I"⟩
abbrev cX12_hangsOn : ByteArray := prog_14_method_23_code
def yX12_hangsOn : MethodName := ⟨RX12, "hangsOn", "(I)I"⟩
abbrev cX12_paid : ByteArray := prog_14_method_24_code
def yX12_paid : MethodName := ⟨RX12, "paid", "(I)I"⟩
abbrev cX12_halvesOf : ByteArray := prog_14_method_25_code
def yX12_halvesOf : MethodName := ⟨RX12, "halvesOf", "(I)I"⟩
abbrev cX12_oneNow : ByteArray := prog_14_method_26_code
def yX12_oneNow : MethodName := ⟨RX12, "oneNow", "(II)I"⟩
abbrev cX12_about : ByteArray := prog_14_method_27_code
def yX12_about : MethodName := ⟨RX12, "about", "(II)I"⟩
abbrev cX12_as : ByteArray := prog_14_method_28_code
def yX12_as : MethodName := ⟨RX12, "as", "(II)I"⟩
abbrev cX12_crimeNow : ByteArray := prog_14_method_29_code
def yX12_crimeNow : MethodName := ⟨RX12, "crimeNow", "(II)I"⟩
abbrev cX12_crime : ByteArray := prog_14_method_30_code
def yX12_crime : MethodName := ⟨RX12, "crime", "(II)I"⟩
abbrev cX12_isFree : ByteArray := prog_14_method_31_code
def yX12_isFree : MethodName := ⟨RX12, "isFree", "(I)Z"⟩
abbrev cX12_confess : ByteArray := prog_14_method_32_code
def yX12_confess : MethodName := ⟨RX12, "confess", "(II)I"⟩
abbrev cX12_recant : ByteArray := prog_14_method_33_code
def yX12_recant : MethodName := ⟨RX12, "recant", "(I)I"⟩
abbrev cX12_alter : ByteArray := prog_14_method_34_code
def yX12_alter : MethodName := ⟨RX12, "alter", "(IZ)I"⟩
abbrev cX12_hasBy : ByteArray := prog_14_method_35_code
def yX12_hasBy : MethodName := ⟨RX12, "hasBy", "(II)I"⟩
abbrev cX12_codes : ByteArray := prog_14_method_36_code
def yX12_codes : MethodName := ⟨RX12, "codes", "()I"⟩
abbrev cX12_isMatch : ByteArray := prog_14_method_37_code
def yX12_isMatch : MethodName := ⟨RX12, "isMatch", "(I)Z"⟩
abbrev cX12_matchNow : ByteArray := prog_14_method_38_code
def yX12_matchNow : MethodName := ⟨RX12, "matchNow", "(I)I"⟩
abbrev cX12_match : ByteArray := prog_14_method_39_code
def yX12_match : MethodName := ⟨RX12, "match", "(I)I"⟩
abbrev cX12_freeCrimes : ByteArray := prog_14_method_40_code
def yX12_freeCrimes : MethodName := ⟨RX12, "freeCrimes", "()I"⟩
abbrev cX12_alterBy : ByteArray := prog_14_method_41_code
def yX12_alterBy : MethodName := ⟨RX12, "alterBy", "(I)I"⟩
abbrev cX12_stitchesNow : ByteArray := prog_14_method_42_code
def yX12_stitchesNow : MethodName := ⟨RX12, "stitchesNow", "()I"⟩
abbrev cX12_stitches : ByteArray := prog_14_method_43_code
def yX12_stitches : MethodName := ⟨RX12, "stitches", "()I"⟩
abbrev cX12_tried : ByteArray := prog_14_method_44_code
def yX12_tried : MethodName := ⟨RX12, "tried", "(IIZ)I"⟩
abbrev cX12_forget : ByteArray := prog_14_method_45_code
def yX12_forget : MethodName := ⟨RX12, "forget", "()I"⟩
abbrev cX12_couldBe : ByteArray := prog_14_method_46_code
def yX12_couldBe : MethodName := ⟨RX12, "couldBe", "(II)Z"⟩
abbrev cX12_howLarge : ByteArray := prog_14_method_47_code
def yX12_howLarge : MethodName := ⟨RX12, "howLarge", "(I)I"⟩
abbrev cX12_nextOf : ByteArray := prog_14_method_48_code
def yX12_nextOf : MethodName := ⟨RX12, "nextOf", "(I)I"⟩
abbrev cX12_draw : ByteArray := prog_14_method_49_code
def yX12_draw : MethodName := ⟨RX12, "draw", "(I)I"⟩
abbrev cX12_paidAll : ByteArray := prog_14_method_50_code
def yX12_paidAll : MethodName := ⟨RX12, "paidAll", "()I"⟩
abbrev cX12_weeksNow : ByteArray := prog_14_method_51_code
def yX12_weeksNow : MethodName := ⟨RX12, "weeksNow", "(III)I"⟩
abbrev cX12_weeks : ByteArray := prog_14_method_52_code
def yX12_weeks : MethodName := ⟨RX12, "weeks", "(III)I"⟩
abbrev cX12_image : ByteArray := prog_14_method_53_code
def yX12_image : MethodName := ⟨RX12, "image", "()I"⟩
abbrev cX12_restore : ByteArray := prog_14_method_54_code
def yX12_restore : MethodName := ⟨RX12, "restore", "()I"⟩
abbrev cX12_howMany : ByteArray := prog_14_method_55_code
def yX12_howMany : MethodName := ⟨RX12, "howMany", "(I)I"⟩
abbrev cX12_count : ByteArray := prog_14_method_56_code
def yX12_count : MethodName := ⟨RX12, "count", "(I)I"⟩
abbrev cX12_mix : ByteArray := prog_14_method_57_code
def yX12_mix : MethodName := ⟨RX12, "mix", "(J)V"⟩
abbrev cX12_digest : ByteArray := prog_14_method_58_code
def yX12_digest : MethodName := ⟨RX12, "digest", "()J"⟩
def RJ6 : String := "java/lang/Integer"
def TJ6 : u_T := fun k => match k with
  | _ => ("", "", "", false)
def tyJ6 : Nat → FieldType := fun k => match k with
  | _ => .int
theorem nmJ6 : ∀ a, a < 0 → ∀ b, b < 0 → a ≠ b → (TJ6 a).2.1 ≠ (TJ6 b).2.1 := by decide +kernel
theorem tyJ6_ok : ∀ k, k < 0 → parseFieldDescriptor (TJ6 k).2.2.1 = some (tyJ6 k) := by decide +kernel
abbrev cJ6_bitCount_0f7a4 : ByteArray := prog_15_method_49_code
def yJ6_bitCount_0f7a4 : MethodName := ⟨RJ6, "bitCount", "(I)I"⟩
def RJ9 : String := "java/lang/Math"
def TJ9 : u_T := fun k => match k with
  | _ => ("", "", "", false)
def tyJ9 : Nat → FieldType := fun k => match k with
  | _ => .int
theorem nmJ9 : ∀ a, a < 0 → ∀ b, b < 0 → a ≠ b → (TJ9 a).2.1 ≠ (TJ9 b).2.1 := by decide +kernel
theorem tyJ9_ok : ∀ k, k < 0 → parseFieldDescriptor (TJ9 k).2.2.1 = some (tyJ9 k) := by decide +kernel
abbrev cJ9_abs_0f7a4 : ByteArray := prog_16_method_59_code
def yJ9_abs_0f7a4 : MethodName := ⟨RJ9, "abs", "(I)I"⟩
abbrev cJ9_max_7cf53 : ByteArray := prog_16_method_65_code
def yJ9_max_7cf53 : MethodName := ⟨RJ9, "max", "(II)I"⟩
abbrev cJ9_min_7cf53 : ByteArray := prog_16_method_69_code
def yJ9_min_7cf53 : MethodName := ⟨RJ9, "min", "(II)I"⟩
def RL : String := "ConfessBySizeLaw"
abbrev cL_law : ByteArray := code
def yL_law : MethodName := ⟨RL, "law", "([I)Z"⟩
abbrev vwCl : List vw_C := [(RX0, TX0, 2), (RX1, TX1, 3), (RX2, TX2, 2), (RX3, TX3, 2), (RX4, TX4, 7), (RX5, TX5, 2), (RX6, TX6, 4), (RX7, TX7, 5), (RX8, TX8, 2), (RX9, TX9, 2), (RX10, TX10, 5), (RX11, TX11, 9), (RX12, TX12, 40)]
end
section
theorem dX0_init_0 : decode cX0_init 0 = .ok (.aload_n 0, 1) := by decide +kernel
theorem dX0_init_1 : decode cX0_init 1 = .ok (.iload_n 1, 1) := by decide +kernel
theorem dX0_init_2 : decode cX0_init 2 = .ok (.iload_n 2, 1) := by decide +kernel
theorem dX0_init_3 : decode cX0_init 3 = .ok (.invokespecial 3, 3) := by decide +kernel
theorem dX0_init_6 : decode cX0_init 6 = .ok (.return_, 1) := by decide +kernel
theorem dX0_kind_0 : decode cX0_kind 0 = .ok (.iconst 2, 1) := by decide +kernel
theorem dX0_kind_1 : decode cX0_kind 1 = .ok (.ireturn, 1) := by decide +kernel
theorem dX0_bears_0 : decode cX0_bears 0 = .ok (.iconst 0, 1) := by decide +kernel
theorem dX0_bears_1 : decode cX0_bears 1 = .ok (.ireturn, 1) := by decide +kernel
theorem dX0_doesConfess_0 : decode cX0_doesConfess 0 = .ok (.iconst 0, 1) := by decide +kernel
theorem dX0_doesConfess_1 : decode cX0_doesConfess 1 = .ok (.ireturn, 1) := by decide +kernel
theorem dX1_init_0 : decode cX1_init 0 = .ok (.aload_n 0, 1) := by decide +kernel
theorem dX1_init_1 : decode cX1_init 1 = .ok (.invokespecial 1, 3) := by decide +kernel
theorem dX1_init_4 : decode cX1_init 4 = .ok (.aload_n 0, 1) := by decide +kernel
theorem dX1_init_5 : decode cX1_init 5 = .ok (.iload_n 1, 1) := by decide +kernel
theorem dX1_init_6 : decode cX1_init 6 = .ok (.putfield 7, 3) := by decide +kernel
theorem dX1_init_9 : decode cX1_init 9 = .ok (.aload_n 0, 1) := by decide +kernel
theorem dX1_init_10 : decode cX1_init 10 = .ok (.iload_n 2, 1) := by decide +kernel
theorem dX1_init_11 : decode cX1_init 11 = .ok (.putfield 13, 3) := by decide +kernel
theorem dX1_init_14 : decode cX1_init 14 = .ok (.aload_n 0, 1) := by decide +kernel
theorem dX1_init_15 : decode cX1_init 15 = .ok (.iload_n 3, 1) := by decide +kernel
theorem dX1_init_16 : decode cX1_init 16 = .ok (.putfield 16, 3) := by decide +kernel
theorem dX1_init_19 : decode cX1_init 19 = .ok (.return_, 1) := by decide +kernel
theorem dX2_init_0 : decode cX2_init 0 = .ok (.aload_n 0, 1) := by decide +kernel
theorem dX2_init_1 : decode cX2_init 1 = .ok (.iload_n 1, 1) := by decide +kernel
theorem dX2_init_2 : decode cX2_init 2 = .ok (.iload_n 2, 1) := by decide +kernel
theorem dX2_init_3 : decode cX2_init 3 = .ok (.invokespecial 3, 3) := by decide +kernel
theorem dX2_init_6 : decode cX2_init 6 = .ok (.return_, 1) := by decide +kernel
theorem dX2_kind_0 : decode cX2_kind 0 = .ok (.iconst 3, 1) := by decide +kernel
theorem dX2_kind_1 : decode cX2_kind 1 = .ok (.ireturn, 1) := by decide +kernel
theorem dX2_counted_0 : decode cX2_counted 0 = .ok (.iload_n 1, 1) := by decide +kernel
theorem dX2_counted_1 : decode cX2_counted 1 = .ok (.iconst 1, 1) := by decide +kernel
theorem dX2_counted_2 : decode cX2_counted 2 = .ok (.iadd, 1) := by decide +kernel
theorem dX2_counted_3 : decode cX2_counted 3 = .ok (.ireturn, 1) := by decide +kernel
theorem dX3_init_0 : decode cX3_init 0 = .ok (.aload_n 0, 1) := by decide +kernel
theorem dX3_init_1 : decode cX3_init 1 = .ok (.invokespecial 3, 3) := by decide +kernel
theorem dX3_init_4 : decode cX3_init 4 = .ok (.aload_n 0, 1) := by decide +kernel
theorem dX3_init_5 : decode cX3_init 5 = .ok (.iload_n 1, 1) := by decide +kernel
theorem dX3_init_6 : decode cX3_init 6 = .ok (.putfield 9, 3) := by decide +kernel
theorem dX3_init_9 : decode cX3_init 9 = .ok (.aload_n 0, 1) := by decide +kernel
theorem dX3_init_10 : decode cX3_init 10 = .ok (.iload_n 2, 1) := by decide +kernel
theorem dX3_init_11 : decode cX3_init 11 = .ok (.putfield 15, 3) := by decide +kernel
theorem dX3_init_14 : decode cX3_init 14 = .ok (.return_, 1) := by decide +kernel
theorem dX3_kind_0 : decode cX3_kind 0 = .ok (.iconst 0, 1) := by decide +kernel
theorem dX3_kind_1 : decode cX3_kind 1 = .ok (.ireturn, 1) := by decide +kernel
theorem dX3_bears_0 : decode cX3_bears 0 = .ok (.iconst 1, 1) := by decide +kernel
theorem dX3_bears_1 : decode cX3_bears 1 = .ok (.ireturn, 1) := by decide +kernel
theorem dX3_counted_0 : decode cX3_counted 0 = .ok (.iload_n 1, 1) := by decide +kernel
theorem dX3_counted_1 : decode cX3_counted 1 = .ok (.ireturn, 1) := by decide +kernel
theorem dX3_hasHandLike_0 : decode cX3_hasHandLike 0 = .ok (.aload_n 0, 1) := by decide +kernel
theorem dX3_hasHandLike_1 : decode cX3_hasHandLike 1 = .ok (.getfield 15, 3) := by decide +kernel
theorem dX3_hasHandLike_4 : decode cX3_hasHandLike 4 = .ok (.iload_n 1, 1) := by decide +kernel
theorem dX3_hasHandLike_5 : decode cX3_hasHandLike 5 = .ok (.if_icmp .ne 7, 3) := by decide +kernel
theorem dX3_hasHandLike_8 : decode cX3_hasHandLike 8 = .ok (.iconst 1, 1) := by decide +kernel
theorem dX3_hasHandLike_9 : decode cX3_hasHandLike 9 = .ok (.goto 4, 3) := by decide +kernel
theorem dX3_hasHandLike_12 : decode cX3_hasHandLike 12 = .ok (.iconst 0, 1) := by decide +kernel
theorem dX3_hasHandLike_13 : decode cX3_hasHandLike 13 = .ok (.ireturn, 1) := by decide +kernel
theorem dX3_doesConfess_0 : decode cX3_doesConfess 0 = .ok (.iconst 1, 1) := by decide +kernel
theorem dX3_doesConfess_1 : decode cX3_doesConfess 1 = .ok (.ireturn, 1) := by decide +kernel
theorem dX3_wouldFit_0 : decode cX3_wouldFit 0 = .ok (.aload_n 0, 1) := by decide +kernel
theorem dX3_wouldFit_1 : decode cX3_wouldFit 1 = .ok (.iload_n 3, 1) := by decide +kernel
theorem dX3_wouldFit_2 : decode cX3_wouldFit 2 = .ok (.invokevirtual 18, 3) := by decide +kernel
theorem dX3_wouldFit_5 : decode cX3_wouldFit 5 = .ok (.ifCond .eq 24, 3) := by decide +kernel
theorem dX3_wouldFit_8 : decode cX3_wouldFit 8 = .ok (.iload_n 2, 1) := by decide +kernel
theorem dX3_wouldFit_9 : decode cX3_wouldFit 9 = .ok (.aload_n 0, 1) := by decide +kernel
theorem dX3_wouldFit_10 : decode cX3_wouldFit 10 = .ok (.iload_n 1, 1) := by decide +kernel
theorem dX3_wouldFit_11 : decode cX3_wouldFit 11 = .ok (.invokevirtual 22, 3) := by decide +kernel
theorem dX3_wouldFit_14 : decode cX3_wouldFit 14 = .ok (.isub, 1) := by decide +kernel
theorem dX3_wouldFit_15 : decode cX3_wouldFit 15 = .ok (.invokestatic 26, 3) := by decide +kernel
theorem dX3_wouldFit_18 : decode cX3_wouldFit 18 = .ok (.aload_n 0, 1) := by decide +kernel
theorem dX3_wouldFit_19 : decode cX3_wouldFit 19 = .ok (.invokevirtual 31, 3) := by decide +kernel
theorem dX3_wouldFit_22 : decode cX3_wouldFit 22 = .ok (.if_icmp .gt 7, 3) := by decide +kernel
theorem dX3_wouldFit_25 : decode cX3_wouldFit 25 = .ok (.iconst 1, 1) := by decide +kernel
theorem dX3_wouldFit_26 : decode cX3_wouldFit 26 = .ok (.goto 4, 3) := by decide +kernel
theorem dX3_wouldFit_29 : decode cX3_wouldFit 29 = .ok (.iconst 0, 1) := by decide +kernel
theorem dX3_wouldFit_30 : decode cX3_wouldFit 30 = .ok (.ireturn, 1) := by decide +kernel
theorem dX4_init_0 : decode cX4_init 0 = .ok (.aload_n 0, 1) := by decide +kernel
theorem dX4_init_1 : decode cX4_init 1 = .ok (.invokespecial 3, 3) := by decide +kernel
theorem dX4_init_4 : decode cX4_init 4 = .ok (.aload_n 0, 1) := by decide +kernel
theorem dX4_init_5 : decode cX4_init 5 = .ok (.iconst 4, 1) := by decide +kernel
theorem dX4_init_6 : decode cX4_init 6 = .ok (.newarray .int, 2) := by decide +kernel
theorem dX4_init_8 : decode cX4_init 8 = .ok (.putfield 9, 3) := by decide +kernel
theorem dX4_init_11 : decode cX4_init 11 = .ok (.aload_n 0, 1) := by decide +kernel
theorem dX4_init_12 : decode cX4_init 12 = .ok (.iconst 4, 1) := by decide +kernel
theorem dX4_init_13 : decode cX4_init 13 = .ok (.newarray .int, 2) := by decide +kernel
theorem dX4_init_15 : decode cX4_init 15 = .ok (.putfield 15, 3) := by decide +kernel
theorem dX4_init_18 : decode cX4_init 18 = .ok (.aload_n 0, 1) := by decide +kernel
theorem dX4_init_19 : decode cX4_init 19 = .ok (.iconst 4, 1) := by decide +kernel
theorem dX4_init_20 : decode cX4_init 20 = .ok (.newarray .int, 2) := by decide +kernel
theorem dX4_init_22 : decode cX4_init 22 = .ok (.putfield 18, 3) := by decide +kernel
theorem dX4_init_25 : decode cX4_init 25 = .ok (.aload_n 0, 1) := by decide +kernel
theorem dX4_init_26 : decode cX4_init 26 = .ok (.iconst 4, 1) := by decide +kernel
theorem dX4_init_27 : decode cX4_init 27 = .ok (.newarray .int, 2) := by decide +kernel
theorem dX4_init_29 : decode cX4_init 29 = .ok (.putfield 21, 3) := by decide +kernel
theorem dX4_init_32 : decode cX4_init 32 = .ok (.return_, 1) := by decide +kernel
theorem dX4_begin_0 : decode cX4_begin 0 = .ok (.aload_n 0, 1) := by decide +kernel
theorem dX4_begin_1 : decode cX4_begin 1 = .ok (.iload_n 1, 1) := by decide +kernel
theorem dX4_begin_2 : decode cX4_begin 2 = .ok (.iconst 4, 1) := by decide +kernel
theorem dX4_begin_3 : decode cX4_begin 3 = .ok (.invokestatic 24, 3) := by decide +kernel
theorem dX4_begin_6 : decode cX4_begin 6 = .ok (.putfield 30, 3) := by decide +kernel
theorem dX4_begin_9 : decode cX4_begin 9 = .ok (.aload_n 0, 1) := by decide +kernel
theorem dX4_begin_10 : decode cX4_begin 10 = .ok (.iconst (-1), 1) := by decide +kernel
theorem dX4_begin_11 : decode cX4_begin 11 = .ok (.putfield 34, 3) := by decide +kernel
theorem dX4_begin_14 : decode cX4_begin 14 = .ok (.aload_n 0, 1) := by decide +kernel
theorem dX4_begin_15 : decode cX4_begin 15 = .ok (.iconst (-1), 1) := by decide +kernel
theorem dX4_begin_16 : decode cX4_begin 16 = .ok (.putfield 37, 3) := by decide +kernel
theorem dX4_begin_19 : decode cX4_begin 19 = .ok (.iconst 0, 1) := by decide +kernel
theorem dX4_begin_20 : decode cX4_begin 20 = .ok (.istore_n 2, 1) := by decide +kernel
theorem dX4_begin_21 : decode cX4_begin 21 = .ok (.iload_n 2, 1) := by decide +kernel
theorem dX4_begin_22 : decode cX4_begin 22 = .ok (.iconst 4, 1) := by decide +kernel
theorem dX4_begin_23 : decode cX4_begin 23 = .ok (.if_icmp .ge 30, 3) := by decide +kernel
theorem dX4_begin_26 : decode cX4_begin 26 = .ok (.aload_n 0, 1) := by decide +kernel
theorem dX4_begin_27 : decode cX4_begin 27 = .ok (.getfield 9, 3) := by decide +kernel
theorem dX4_begin_30 : decode cX4_begin 30 = .ok (.iload_n 2, 1) := by decide +kernel
theorem dX4_begin_31 : decode cX4_begin 31 = .ok (.iconst 0, 1) := by decide +kernel
theorem dX4_begin_32 : decode cX4_begin 32 = .ok (.iastore, 1) := by decide +kernel
theorem dX4_begin_33 : decode cX4_begin 33 = .ok (.aload_n 0, 1) := by decide +kernel
theorem dX4_begin_34 : decode cX4_begin 34 = .ok (.getfield 18, 3) := by decide +kernel
theorem dX4_begin_37 : decode cX4_begin 37 = .ok (.iload_n 2, 1) := by decide +kernel
theorem dX4_begin_38 : decode cX4_begin 38 = .ok (.iconst (-1), 1) := by decide +kernel
theorem dX4_begin_39 : decode cX4_begin 39 = .ok (.iastore, 1) := by decide +kernel
theorem dX4_begin_40 : decode cX4_begin 40 = .ok (.aload_n 0, 1) := by decide +kernel
theorem dX4_begin_41 : decode cX4_begin 41 = .ok (.getfield 21, 3) := by decide +kernel
theorem dX4_begin_44 : decode cX4_begin 44 = .ok (.iload_n 2, 1) := by decide +kernel
theorem dX4_begin_45 : decode cX4_begin 45 = .ok (.iconst (-1), 1) := by decide +kernel
theorem dX4_begin_46 : decode cX4_begin 46 = .ok (.iastore, 1) := by decide +kernel
theorem dX4_begin_47 : decode cX4_begin 47 = .ok (.iinc 2 1, 3) := by decide +kernel
theorem dX4_begin_50 : decode cX4_begin 50 = .ok (.goto (-29), 3) := by decide +kernel
theorem dX4_begin_53 : decode cX4_begin 53 = .ok (.return_, 1) := by decide +kernel
theorem dX4_allow_0 : decode cX4_allow 0 = .ok (.iload_n 1, 1) := by decide +kernel
theorem dX4_allow_1 : decode cX4_allow 1 = .ok (.ifCond .lt 24, 3) := by decide +kernel
theorem dX4_allow_4 : decode cX4_allow 4 = .ok (.iload_n 1, 1) := by decide +kernel
theorem dX4_allow_5 : decode cX4_allow 5 = .ok (.aload_n 0, 1) := by decide +kernel
theorem dX4_allow_6 : decode cX4_allow 6 = .ok (.getfield 9, 3) := by decide +kernel
theorem dX4_allow_9 : decode cX4_allow 9 = .ok (.arraylength, 1) := by decide +kernel
theorem dX4_allow_10 : decode cX4_allow 10 = .ok (.if_icmp .ge 15, 3) := by decide +kernel
theorem dX4_allow_13 : decode cX4_allow 13 = .ok (.aload_n 0, 1) := by decide +kernel
theorem dX4_allow_14 : decode cX4_allow 14 = .ok (.getfield 9, 3) := by decide +kernel
theorem dX4_allow_17 : decode cX4_allow 17 = .ok (.iload_n 1, 1) := by decide +kernel
theorem dX4_allow_18 : decode cX4_allow 18 = .ok (.dup2, 1) := by decide +kernel
theorem dX4_allow_19 : decode cX4_allow 19 = .ok (.iaload, 1) := by decide +kernel
theorem dX4_allow_20 : decode cX4_allow 20 = .ok (.iconst 1, 1) := by decide +kernel
theorem dX4_allow_21 : decode cX4_allow 21 = .ok (.iload_n 2, 1) := by decide +kernel
theorem dX4_allow_22 : decode cX4_allow 22 = .ok (.ishl, 1) := by decide +kernel
theorem dX4_allow_23 : decode cX4_allow 23 = .ok (.ior, 1) := by decide +kernel
theorem dX4_allow_24 : decode cX4_allow 24 = .ok (.iastore, 1) := by decide +kernel
theorem dX4_allow_25 : decode cX4_allow 25 = .ok (.return_, 1) := by decide +kernel
theorem dX4_reward_0 : decode cX4_reward 0 = .ok (.iload_n 1, 1) := by decide +kernel
theorem dX4_reward_1 : decode cX4_reward 1 = .ok (.ifCond .lt 19, 3) := by decide +kernel
theorem dX4_reward_4 : decode cX4_reward 4 = .ok (.iload_n 1, 1) := by decide +kernel
theorem dX4_reward_5 : decode cX4_reward 5 = .ok (.aload_n 0, 1) := by decide +kernel
theorem dX4_reward_6 : decode cX4_reward 6 = .ok (.getfield 15, 3) := by decide +kernel
theorem dX4_reward_9 : decode cX4_reward 9 = .ok (.arraylength, 1) := by decide +kernel
theorem dX4_reward_10 : decode cX4_reward 10 = .ok (.if_icmp .ge 10, 3) := by decide +kernel
theorem dX4_reward_13 : decode cX4_reward 13 = .ok (.aload_n 0, 1) := by decide +kernel
theorem dX4_reward_14 : decode cX4_reward 14 = .ok (.getfield 15, 3) := by decide +kernel
theorem dX4_reward_17 : decode cX4_reward 17 = .ok (.iload_n 1, 1) := by decide +kernel
theorem dX4_reward_18 : decode cX4_reward 18 = .ok (.iload_n 2, 1) := by decide +kernel
theorem dX4_reward_19 : decode cX4_reward 19 = .ok (.iastore, 1) := by decide +kernel
theorem dX4_reward_20 : decode cX4_reward 20 = .ok (.return_, 1) := by decide +kernel
theorem dX4_find_0 : decode cX4_find 0 = .ok (.aload_n 0, 1) := by decide +kernel
theorem dX4_find_1 : decode cX4_find 1 = .ok (.iconst 0, 1) := by decide +kernel
theorem dX4_find_2 : decode cX4_find 2 = .ok (.iconst 0, 1) := by decide +kernel
theorem dX4_find_3 : decode cX4_find 3 = .ok (.iconst 0, 1) := by decide +kernel
theorem dX4_find_4 : decode cX4_find 4 = .ok (.iconst 0, 1) := by decide +kernel
theorem dX4_find_5 : decode cX4_find 5 = .ok (.invokestatic 40, 3) := by decide +kernel
theorem dX4_find_8 : decode cX4_find 8 = .ok (.return_, 1) := by decide +kernel
theorem dX4_bestOn_0 : decode cX4_bestOn 0 = .ok (.iload_n 1, 1) := by decide +kernel
theorem dX4_bestOn_1 : decode cX4_bestOn 1 = .ok (.ifCond .lt 21, 3) := by decide +kernel
theorem dX4_bestOn_4 : decode cX4_bestOn 4 = .ok (.iload_n 1, 1) := by decide +kernel
theorem dX4_bestOn_5 : decode cX4_bestOn 5 = .ok (.aload_n 0, 1) := by decide +kernel
theorem dX4_bestOn_6 : decode cX4_bestOn 6 = .ok (.getfield 21, 3) := by decide +kernel
theorem dX4_bestOn_9 : decode cX4_bestOn 9 = .ok (.arraylength, 1) := by decide +kernel
theorem dX4_bestOn_10 : decode cX4_bestOn 10 = .ok (.if_icmp .ge 12, 3) := by decide +kernel
theorem dX4_bestOn_13 : decode cX4_bestOn 13 = .ok (.aload_n 0, 1) := by decide +kernel
theorem dX4_bestOn_14 : decode cX4_bestOn 14 = .ok (.getfield 21, 3) := by decide +kernel
theorem dX4_bestOn_17 : decode cX4_bestOn 17 = .ok (.iload_n 1, 1) := by decide +kernel
theorem dX4_bestOn_18 : decode cX4_bestOn 18 = .ok (.iaload, 1) := by decide +kernel
theorem dX4_bestOn_19 : decode cX4_bestOn 19 = .ok (.goto 4, 3) := by decide +kernel
theorem dX4_bestOn_22 : decode cX4_bestOn 22 = .ok (.iconst (-1), 1) := by decide +kernel
theorem dX4_bestOn_23 : decode cX4_bestOn 23 = .ok (.ireturn, 1) := by decide +kernel
theorem dX4_choose_0 : decode cX4_choose 0 = .ok (.iload_n 1, 1) := by decide +kernel
theorem dX4_choose_1 : decode cX4_choose 1 = .ok (.ifCond .lt 20, 3) := by decide +kernel
theorem dX4_choose_4 : decode cX4_choose 4 = .ok (.iload_n 1, 1) := by decide +kernel
theorem dX4_choose_5 : decode cX4_choose 5 = .ok (.aload_n 0, 1) := by decide +kernel
theorem dX4_choose_6 : decode cX4_choose 6 = .ok (.getfield 30, 3) := by decide +kernel
theorem dX4_choose_9 : decode cX4_choose 9 = .ok (.if_icmp .ge 12, 3) := by decide +kernel
theorem dX4_choose_12 : decode cX4_choose 12 = .ok (.iload_n 1, 1) := by decide +kernel
theorem dX4_choose_13 : decode cX4_choose 13 = .ok (.aload_n 0, 1) := by decide +kernel
theorem dX4_choose_14 : decode cX4_choose 14 = .ok (.getfield 18, 3) := by decide +kernel
theorem dX4_choose_17 : decode cX4_choose 17 = .ok (.arraylength, 1) := by decide +kernel
theorem dX4_choose_18 : decode cX4_choose 18 = .ok (.if_icmp .lt 11, 3) := by decide +kernel
theorem dX4_choose_21 : decode cX4_choose 21 = .ok (.aload_n 0, 1) := by decide +kernel
theorem dX4_choose_22 : decode cX4_choose 22 = .ok (.iload_n 3, 1) := by decide +kernel
theorem dX4_choose_23 : decode cX4_choose 23 = .ok (.iload 4, 2) := by decide +kernel
theorem dX4_choose_25 : decode cX4_choose 25 = .ok (.invokevirtual 44, 3) := by decide +kernel
theorem dX4_choose_28 : decode cX4_choose 28 = .ok (.return_, 1) := by decide +kernel
theorem dX4_choose_29 : decode cX4_choose 29 = .ok (.aload_n 0, 1) := by decide +kernel
theorem dX4_choose_30 : decode cX4_choose 30 = .ok (.getfield 18, 3) := by decide +kernel
theorem dX4_choose_33 : decode cX4_choose 33 = .ok (.iload_n 1, 1) := by decide +kernel
theorem dX4_choose_34 : decode cX4_choose 34 = .ok (.iconst (-1), 1) := by decide +kernel
theorem dX4_choose_35 : decode cX4_choose 35 = .ok (.iastore, 1) := by decide +kernel
theorem dX4_choose_36 : decode cX4_choose 36 = .ok (.aload_n 0, 1) := by decide +kernel
theorem dX4_choose_37 : decode cX4_choose 37 = .ok (.iload_n 1, 1) := by decide +kernel
theorem dX4_choose_38 : decode cX4_choose 38 = .ok (.iconst 1, 1) := by decide +kernel
theorem dX4_choose_39 : decode cX4_choose 39 = .ok (.iadd, 1) := by decide +kernel
theorem dX4_choose_40 : decode cX4_choose 40 = .ok (.iload_n 2, 1) := by decide +kernel
theorem dX4_choose_41 : decode cX4_choose 41 = .ok (.iload_n 3, 1) := by decide +kernel
theorem dX4_choose_42 : decode cX4_choose 42 = .ok (.iload 4, 2) := by decide +kernel
theorem dX4_choose_44 : decode cX4_choose 44 = .ok (.invokestatic 40, 3) := by decide +kernel
theorem dX4_choose_47 : decode cX4_choose 47 = .ok (.aload_n 0, 1) := by decide +kernel
theorem dX4_choose_48 : decode cX4_choose 48 = .ok (.getfield 9, 3) := by decide +kernel
theorem dX4_choose_51 : decode cX4_choose 51 = .ok (.iload_n 1, 1) := by decide +kernel
theorem dX4_choose_52 : decode cX4_choose 52 = .ok (.iaload, 1) := by decide +kernel
theorem dX4_choose_53 : decode cX4_choose 53 = .ok (.iload_n 2, 1) := by decide +kernel
theorem dX4_choose_54 : decode cX4_choose 54 = .ok (.iconst (-1), 1) := by decide +kernel
theorem dX4_choose_55 : decode cX4_choose 55 = .ok (.ixor, 1) := by decide +kernel
theorem dX4_choose_56 : decode cX4_choose 56 = .ok (.iand, 1) := by decide +kernel
theorem dX4_choose_57 : decode cX4_choose 57 = .ok (.istore 5, 2) := by decide +kernel
theorem dX4_choose_59 : decode cX4_choose 59 = .ok (.iconst 0, 1) := by decide +kernel
theorem dX4_choose_60 : decode cX4_choose 60 = .ok (.istore 6, 2) := by decide +kernel
theorem dX4_choose_62 : decode cX4_choose 62 = .ok (.iload 6, 2) := by decide +kernel
theorem dX4_choose_64 : decode cX4_choose 64 = .ok (.aload_n 0, 1) := by decide +kernel
theorem dX4_choose_65 : decode cX4_choose 65 = .ok (.getfield 15, 3) := by decide +kernel
theorem dX4_choose_68 : decode cX4_choose 68 = .ok (.arraylength, 1) := by decide +kernel
theorem dX4_choose_69 : decode cX4_choose 69 = .ok (.if_icmp .ge 56, 3) := by decide +kernel
theorem dX4_choose_72 : decode cX4_choose 72 = .ok (.iload 5, 2) := by decide +kernel
theorem dX4_choose_74 : decode cX4_choose 74 = .ok (.iload 6, 2) := by decide +kernel
theorem dX4_choose_76 : decode cX4_choose 76 = .ok (.ishr, 1) := by decide +kernel
theorem dX4_choose_77 : decode cX4_choose 77 = .ok (.iconst 1, 1) := by decide +kernel
theorem dX4_choose_78 : decode cX4_choose 78 = .ok (.iand, 1) := by decide +kernel
theorem dX4_choose_79 : decode cX4_choose 79 = .ok (.ifCond .ne 6, 3) := by decide +kernel
theorem dX4_choose_82 : decode cX4_choose 82 = .ok (.goto 37, 3) := by decide +kernel
theorem dX4_choose_85 : decode cX4_choose 85 = .ok (.aload_n 0, 1) := by decide +kernel
theorem dX4_choose_86 : decode cX4_choose 86 = .ok (.getfield 18, 3) := by decide +kernel
theorem dX4_choose_89 : decode cX4_choose 89 = .ok (.iload_n 1, 1) := by decide +kernel
theorem dX4_choose_90 : decode cX4_choose 90 = .ok (.iload 6, 2) := by decide +kernel
theorem dX4_choose_92 : decode cX4_choose 92 = .ok (.iastore, 1) := by decide +kernel
theorem dX4_choose_93 : decode cX4_choose 93 = .ok (.aload_n 0, 1) := by decide +kernel
theorem dX4_choose_94 : decode cX4_choose 94 = .ok (.iload_n 1, 1) := by decide +kernel
theorem dX4_choose_95 : decode cX4_choose 95 = .ok (.iconst 1, 1) := by decide +kernel
theorem dX4_choose_96 : decode cX4_choose 96 = .ok (.iadd, 1) := by decide +kernel
theorem dX4_choose_97 : decode cX4_choose 97 = .ok (.iload_n 2, 1) := by decide +kernel
theorem dX4_choose_98 : decode cX4_choose 98 = .ok (.iconst 1, 1) := by decide +kernel
theorem dX4_choose_99 : decode cX4_choose 99 = .ok (.iload 6, 2) := by decide +kernel
theorem dX4_choose_101 : decode cX4_choose 101 = .ok (.ishl, 1) := by decide +kernel
theorem dX4_choose_102 : decode cX4_choose 102 = .ok (.ior, 1) := by decide +kernel
theorem dX4_choose_103 : decode cX4_choose 103 = .ok (.iload_n 3, 1) := by decide +kernel
theorem dX4_choose_104 : decode cX4_choose 104 = .ok (.iconst 1, 1) := by decide +kernel
theorem dX4_choose_105 : decode cX4_choose 105 = .ok (.iadd, 1) := by decide +kernel
theorem dX4_choose_106 : decode cX4_choose 106 = .ok (.iload 4, 2) := by decide +kernel
theorem dX4_choose_108 : decode cX4_choose 108 = .ok (.aload_n 0, 1) := by decide +kernel
theorem dX4_choose_109 : decode cX4_choose 109 = .ok (.getfield 15, 3) := by decide +kernel
theorem dX4_choose_112 : decode cX4_choose 112 = .ok (.iload 6, 2) := by decide +kernel
theorem dX4_choose_114 : decode cX4_choose 114 = .ok (.iaload, 1) := by decide +kernel
theorem dX4_choose_115 : decode cX4_choose 115 = .ok (.iadd, 1) := by decide +kernel
theorem dX4_choose_116 : decode cX4_choose 116 = .ok (.invokestatic 40, 3) := by decide +kernel
theorem dX4_choose_119 : decode cX4_choose 119 = .ok (.iinc 6 1, 3) := by decide +kernel
theorem dX4_choose_122 : decode cX4_choose 122 = .ok (.goto (-60), 3) := by decide +kernel
theorem dX4_choose_125 : decode cX4_choose 125 = .ok (.return_, 1) := by decide +kernel
theorem dX4_keepIfBetter_0 : decode cX4_keepIfBetter 0 = .ok (.iload_n 1, 1) := by decide +kernel
theorem dX4_keepIfBetter_1 : decode cX4_keepIfBetter 1 = .ok (.aload_n 0, 1) := by decide +kernel
theorem dX4_keepIfBetter_2 : decode cX4_keepIfBetter 2 = .ok (.getfield 34, 3) := by decide +kernel
theorem dX4_keepIfBetter_5 : decode cX4_keepIfBetter 5 = .ok (.if_icmp .lt 19, 3) := by decide +kernel
theorem dX4_keepIfBetter_8 : decode cX4_keepIfBetter 8 = .ok (.iload_n 1, 1) := by decide +kernel
theorem dX4_keepIfBetter_9 : decode cX4_keepIfBetter 9 = .ok (.aload_n 0, 1) := by decide +kernel
theorem dX4_keepIfBetter_10 : decode cX4_keepIfBetter 10 = .ok (.getfield 34, 3) := by decide +kernel
theorem dX4_keepIfBetter_13 : decode cX4_keepIfBetter 13 = .ok (.if_icmp .ne 12, 3) := by decide +kernel
theorem dX4_keepIfBetter_16 : decode cX4_keepIfBetter 16 = .ok (.iload_n 2, 1) := by decide +kernel
theorem dX4_keepIfBetter_17 : decode cX4_keepIfBetter 17 = .ok (.aload_n 0, 1) := by decide +kernel
theorem dX4_keepIfBetter_18 : decode cX4_keepIfBetter 18 = .ok (.getfield 37, 3) := by decide +kernel
theorem dX4_keepIfBetter_21 : decode cX4_keepIfBetter 21 = .ok (.if_icmp .gt 4, 3) := by decide +kernel
theorem dX4_keepIfBetter_24 : decode cX4_keepIfBetter 24 = .ok (.return_, 1) := by decide +kernel
theorem dX4_keepIfBetter_25 : decode cX4_keepIfBetter 25 = .ok (.aload_n 0, 1) := by decide +kernel
theorem dX4_keepIfBetter_26 : decode cX4_keepIfBetter 26 = .ok (.iload_n 1, 1) := by decide +kernel
theorem dX4_keepIfBetter_27 : decode cX4_keepIfBetter 27 = .ok (.putfield 34, 3) := by decide +kernel
theorem dX4_keepIfBetter_30 : decode cX4_keepIfBetter 30 = .ok (.aload_n 0, 1) := by decide +kernel
theorem dX4_keepIfBetter_31 : decode cX4_keepIfBetter 31 = .ok (.iload_n 2, 1) := by decide +kernel
theorem dX4_keepIfBetter_32 : decode cX4_keepIfBetter 32 = .ok (.putfield 37, 3) := by decide +kernel
theorem dX4_keepIfBetter_35 : decode cX4_keepIfBetter 35 = .ok (.iconst 0, 1) := by decide +kernel
theorem dX4_keepIfBetter_36 : decode cX4_keepIfBetter 36 = .ok (.istore_n 3, 1) := by decide +kernel
theorem dX4_keepIfBetter_37 : decode cX4_keepIfBetter 37 = .ok (.iload_n 3, 1) := by decide +kernel
theorem dX4_keepIfBetter_38 : decode cX4_keepIfBetter 38 = .ok (.aload_n 0, 1) := by decide +kernel
theorem dX4_keepIfBetter_39 : decode cX4_keepIfBetter 39 = .ok (.getfield 21, 3) := by decide +kernel
theorem dX4_keepIfBetter_42 : decode cX4_keepIfBetter 42 = .ok (.arraylength, 1) := by decide +kernel
theorem dX4_keepIfBetter_43 : decode cX4_keepIfBetter 43 = .ok (.if_icmp .ge 30, 3) := by decide +kernel
theorem dX4_keepIfBetter_46 : decode cX4_keepIfBetter 46 = .ok (.iload_n 3, 1) := by decide +kernel
theorem dX4_keepIfBetter_47 : decode cX4_keepIfBetter 47 = .ok (.aload_n 0, 1) := by decide +kernel
theorem dX4_keepIfBetter_48 : decode cX4_keepIfBetter 48 = .ok (.getfield 18, 3) := by decide +kernel
theorem dX4_keepIfBetter_51 : decode cX4_keepIfBetter 51 = .ok (.arraylength, 1) := by decide +kernel
theorem dX4_keepIfBetter_52 : decode cX4_keepIfBetter 52 = .ok (.if_icmp .ge 21, 3) := by decide +kernel
theorem dX4_keepIfBetter_55 : decode cX4_keepIfBetter 55 = .ok (.aload_n 0, 1) := by decide +kernel
theorem dX4_keepIfBetter_56 : decode cX4_keepIfBetter 56 = .ok (.getfield 21, 3) := by decide +kernel
theorem dX4_keepIfBetter_59 : decode cX4_keepIfBetter 59 = .ok (.iload_n 3, 1) := by decide +kernel
theorem dX4_keepIfBetter_60 : decode cX4_keepIfBetter 60 = .ok (.aload_n 0, 1) := by decide +kernel
theorem dX4_keepIfBetter_61 : decode cX4_keepIfBetter 61 = .ok (.getfield 18, 3) := by decide +kernel
theorem dX4_keepIfBetter_64 : decode cX4_keepIfBetter 64 = .ok (.iload_n 3, 1) := by decide +kernel
theorem dX4_keepIfBetter_65 : decode cX4_keepIfBetter 65 = .ok (.iaload, 1) := by decide +kernel
theorem dX4_keepIfBetter_66 : decode cX4_keepIfBetter 66 = .ok (.iastore, 1) := by decide +kernel
theorem dX4_keepIfBetter_67 : decode cX4_keepIfBetter 67 = .ok (.iinc 3 1, 3) := by decide +kernel
theorem dX4_keepIfBetter_70 : decode cX4_keepIfBetter 70 = .ok (.goto (-33), 3) := by decide +kernel
theorem dX4_keepIfBetter_73 : decode cX4_keepIfBetter 73 = .ok (.return_, 1) := by decide +kernel
theorem dX5_init_0 : decode cX5_init 0 = .ok (.aload_n 0, 1) := by decide +kernel
theorem dX5_init_1 : decode cX5_init 1 = .ok (.invokespecial 3, 3) := by decide +kernel
theorem dX5_init_4 : decode cX5_init 4 = .ok (.aload_n 0, 1) := by decide +kernel
theorem dX5_init_5 : decode cX5_init 5 = .ok (.bipush 30, 2) := by decide +kernel
theorem dX5_init_7 : decode cX5_init 7 = .ok (.newarray .int, 2) := by decide +kernel
theorem dX5_init_9 : decode cX5_init 9 = .ok (.putfield 9, 3) := by decide +kernel
theorem dX5_init_12 : decode cX5_init 12 = .ok (.return_, 1) := by decide +kernel
theorem dX5_length_0 : decode cX5_length 0 = .ok (.aload_n 0, 1) := by decide +kernel
theorem dX5_length_1 : decode cX5_length 1 = .ok (.getfield 15, 3) := by decide +kernel
theorem dX5_length_4 : decode cX5_length 4 = .ok (.ireturn, 1) := by decide +kernel
theorem dX5_isFull_0 : decode cX5_isFull 0 = .ok (.aload_n 0, 1) := by decide +kernel
theorem dX5_isFull_1 : decode cX5_isFull 1 = .ok (.getfield 15, 3) := by decide +kernel
theorem dX5_isFull_4 : decode cX5_isFull 4 = .ok (.aload_n 0, 1) := by decide +kernel
theorem dX5_isFull_5 : decode cX5_isFull 5 = .ok (.getfield 9, 3) := by decide +kernel
theorem dX5_isFull_8 : decode cX5_isFull 8 = .ok (.arraylength, 1) := by decide +kernel
theorem dX5_isFull_9 : decode cX5_isFull 9 = .ok (.if_icmp .lt 7, 3) := by decide +kernel
theorem dX5_isFull_12 : decode cX5_isFull 12 = .ok (.iconst 1, 1) := by decide +kernel
theorem dX5_isFull_13 : decode cX5_isFull 13 = .ok (.goto 4, 3) := by decide +kernel
theorem dX5_isFull_16 : decode cX5_isFull 16 = .ok (.iconst 0, 1) := by decide +kernel
theorem dX5_isFull_17 : decode cX5_isFull 17 = .ok (.ireturn, 1) := by decide +kernel
theorem dX5_add_0 : decode cX5_add 0 = .ok (.aload_n 0, 1) := by decide +kernel
theorem dX5_add_1 : decode cX5_add 1 = .ok (.getfield 15, 3) := by decide +kernel
theorem dX5_add_4 : decode cX5_add 4 = .ok (.ifCond .lt 15, 3) := by decide +kernel
theorem dX5_add_7 : decode cX5_add 7 = .ok (.aload_n 0, 1) := by decide +kernel
theorem dX5_add_8 : decode cX5_add 8 = .ok (.getfield 15, 3) := by decide +kernel
theorem dX5_add_11 : decode cX5_add 11 = .ok (.aload_n 0, 1) := by decide +kernel
theorem dX5_add_12 : decode cX5_add 12 = .ok (.getfield 9, 3) := by decide +kernel
theorem dX5_add_15 : decode cX5_add 15 = .ok (.arraylength, 1) := by decide +kernel
theorem dX5_add_16 : decode cX5_add 16 = .ok (.if_icmp .lt 4, 3) := by decide +kernel
theorem dX5_add_19 : decode cX5_add 19 = .ok (.return_, 1) := by decide +kernel
theorem dX5_add_20 : decode cX5_add 20 = .ok (.aload_n 0, 1) := by decide +kernel
theorem dX5_add_21 : decode cX5_add 21 = .ok (.getfield 9, 3) := by decide +kernel
theorem dX5_add_24 : decode cX5_add 24 = .ok (.aload_n 0, 1) := by decide +kernel
theorem dX5_add_25 : decode cX5_add 25 = .ok (.getfield 15, 3) := by decide +kernel
theorem dX5_add_28 : decode cX5_add 28 = .ok (.iload_n 1, 1) := by decide +kernel
theorem dX5_add_29 : decode cX5_add 29 = .ok (.iastore, 1) := by decide +kernel
theorem dX5_add_30 : decode cX5_add 30 = .ok (.aload_n 0, 1) := by decide +kernel
theorem dX5_add_31 : decode cX5_add 31 = .ok (.dup, 1) := by decide +kernel
theorem dX5_add_32 : decode cX5_add 32 = .ok (.getfield 15, 3) := by decide +kernel
theorem dX5_add_35 : decode cX5_add 35 = .ok (.iconst 1, 1) := by decide +kernel
theorem dX5_add_36 : decode cX5_add 36 = .ok (.iadd, 1) := by decide +kernel
theorem dX5_add_37 : decode cX5_add 37 = .ok (.putfield 15, 3) := by decide +kernel
theorem dX5_add_40 : decode cX5_add 40 = .ok (.return_, 1) := by decide +kernel
theorem dX5_clear_0 : decode cX5_clear 0 = .ok (.aload_n 0, 1) := by decide +kernel
theorem dX5_clear_1 : decode cX5_clear 1 = .ok (.iconst 0, 1) := by decide +kernel
theorem dX5_clear_2 : decode cX5_clear 2 = .ok (.putfield 15, 3) := by decide +kernel
theorem dX5_clear_5 : decode cX5_clear 5 = .ok (.return_, 1) := by decide +kernel
theorem dX5_codeAt_0 : decode cX5_codeAt 0 = .ok (.iload_n 1, 1) := by decide +kernel
theorem dX5_codeAt_1 : decode cX5_codeAt 1 = .ok (.ifCond .lt 29, 3) := by decide +kernel
theorem dX5_codeAt_4 : decode cX5_codeAt 4 = .ok (.iload_n 1, 1) := by decide +kernel
theorem dX5_codeAt_5 : decode cX5_codeAt 5 = .ok (.aload_n 0, 1) := by decide +kernel
theorem dX5_codeAt_6 : decode cX5_codeAt 6 = .ok (.getfield 15, 3) := by decide +kernel
theorem dX5_codeAt_9 : decode cX5_codeAt 9 = .ok (.if_icmp .ge 21, 3) := by decide +kernel
theorem dX5_codeAt_12 : decode cX5_codeAt 12 = .ok (.iload_n 1, 1) := by decide +kernel
theorem dX5_codeAt_13 : decode cX5_codeAt 13 = .ok (.aload_n 0, 1) := by decide +kernel
theorem dX5_codeAt_14 : decode cX5_codeAt 14 = .ok (.getfield 9, 3) := by decide +kernel
theorem dX5_codeAt_17 : decode cX5_codeAt 17 = .ok (.arraylength, 1) := by decide +kernel
theorem dX5_codeAt_18 : decode cX5_codeAt 18 = .ok (.if_icmp .ge 12, 3) := by decide +kernel
theorem dX5_codeAt_21 : decode cX5_codeAt 21 = .ok (.aload_n 0, 1) := by decide +kernel
theorem dX5_codeAt_22 : decode cX5_codeAt 22 = .ok (.getfield 9, 3) := by decide +kernel
theorem dX5_codeAt_25 : decode cX5_codeAt 25 = .ok (.iload_n 1, 1) := by decide +kernel
theorem dX5_codeAt_26 : decode cX5_codeAt 26 = .ok (.iaload, 1) := by decide +kernel
theorem dX5_codeAt_27 : decode cX5_codeAt 27 = .ok (.goto 4, 3) := by decide +kernel
theorem dX5_codeAt_30 : decode cX5_codeAt 30 = .ok (.iconst (-1), 1) := by decide +kernel
theorem dX5_codeAt_31 : decode cX5_codeAt 31 = .ok (.ireturn, 1) := by decide +kernel
theorem dX5_digitAt_0 : decode cX5_digitAt 0 = .ok (.aload_n 0, 1) := by decide +kernel
theorem dX5_digitAt_1 : decode cX5_digitAt 1 = .ok (.iload_n 1, 1) := by decide +kernel
theorem dX5_digitAt_2 : decode cX5_digitAt 2 = .ok (.invokevirtual 19, 3) := by decide +kernel
theorem dX5_digitAt_5 : decode cX5_digitAt 5 = .ok (.bipush 48, 2) := by decide +kernel
theorem dX5_digitAt_7 : decode cX5_digitAt 7 = .ok (.isub, 1) := by decide +kernel
theorem dX5_digitAt_8 : decode cX5_digitAt 8 = .ok (.ireturn, 1) := by decide +kernel
theorem dX5_semicolon_0 : decode cX5_semicolon 0 = .ok (.iconst 0, 1) := by decide +kernel
theorem dX5_semicolon_1 : decode cX5_semicolon 1 = .ok (.istore_n 1, 1) := by decide +kernel
theorem dX5_semicolon_2 : decode cX5_semicolon 2 = .ok (.iload_n 1, 1) := by decide +kernel
theorem dX5_semicolon_3 : decode cX5_semicolon 3 = .ok (.aload_n 0, 1) := by decide +kernel
theorem dX5_semicolon_4 : decode cX5_semicolon 4 = .ok (.getfield 15, 3) := by decide +kernel
theorem dX5_semicolon_7 : decode cX5_semicolon 7 = .ok (.if_icmp .ge 21, 3) := by decide +kernel
theorem dX5_semicolon_10 : decode cX5_semicolon 10 = .ok (.aload_n 0, 1) := by decide +kernel
theorem dX5_semicolon_11 : decode cX5_semicolon 11 = .ok (.iload_n 1, 1) := by decide +kernel
theorem dX5_semicolon_12 : decode cX5_semicolon 12 = .ok (.invokevirtual 19, 3) := by decide +kernel
theorem dX5_semicolon_15 : decode cX5_semicolon 15 = .ok (.bipush 59, 2) := by decide +kernel
theorem dX5_semicolon_17 : decode cX5_semicolon 17 = .ok (.if_icmp .ne 5, 3) := by decide +kernel
theorem dX5_semicolon_20 : decode cX5_semicolon 20 = .ok (.iload_n 1, 1) := by decide +kernel
theorem dX5_semicolon_21 : decode cX5_semicolon 21 = .ok (.ireturn, 1) := by decide +kernel
theorem dX5_semicolon_22 : decode cX5_semicolon 22 = .ok (.iinc 1 1, 3) := by decide +kernel
theorem dX5_semicolon_25 : decode cX5_semicolon 25 = .ok (.goto (-23), 3) := by decide +kernel
theorem dX5_semicolon_28 : decode cX5_semicolon 28 = .ok (.aload_n 0, 1) := by decide +kernel
theorem dX5_semicolon_29 : decode cX5_semicolon 29 = .ok (.getfield 15, 3) := by decide +kernel
theorem dX5_semicolon_32 : decode cX5_semicolon 32 = .ok (.ireturn, 1) := by decide +kernel
theorem dX5_firstFault_0 : decode cX5_firstFault 0 = .ok (.aload_n 0, 1) := by decide +kernel
theorem dX5_firstFault_1 : decode cX5_firstFault 1 = .ok (.invokevirtual 23, 3) := by decide +kernel
theorem dX5_firstFault_4 : decode cX5_firstFault 4 = .ok (.istore_n 1, 1) := by decide +kernel
theorem dX5_firstFault_5 : decode cX5_firstFault 5 = .ok (.iconst 0, 1) := by decide +kernel
theorem dX5_firstFault_6 : decode cX5_firstFault 6 = .ok (.istore_n 2, 1) := by decide +kernel
theorem dX5_firstFault_7 : decode cX5_firstFault 7 = .ok (.iload_n 2, 1) := by decide +kernel
theorem dX5_firstFault_8 : decode cX5_firstFault 8 = .ok (.aload_n 0, 1) := by decide +kernel
theorem dX5_firstFault_9 : decode cX5_firstFault 9 = .ok (.getfield 15, 3) := by decide +kernel
theorem dX5_firstFault_12 : decode cX5_firstFault 12 = .ok (.if_icmp .ge 46, 3) := by decide +kernel
theorem dX5_firstFault_15 : decode cX5_firstFault 15 = .ok (.iload_n 2, 1) := by decide +kernel
theorem dX5_firstFault_16 : decode cX5_firstFault 16 = .ok (.iload_n 1, 1) := by decide +kernel
theorem dX5_firstFault_17 : decode cX5_firstFault 17 = .ok (.if_icmp .gt 15, 3) := by decide +kernel
theorem dX5_firstFault_20 : decode cX5_firstFault 20 = .ok (.aload_n 0, 1) := by decide +kernel
theorem dX5_firstFault_21 : decode cX5_firstFault 21 = .ok (.iload_n 2, 1) := by decide +kernel
theorem dX5_firstFault_22 : decode cX5_firstFault 22 = .ok (.invokevirtual 19, 3) := by decide +kernel
theorem dX5_firstFault_25 : decode cX5_firstFault 25 = .ok (.iload_n 2, 1) := by decide +kernel
theorem dX5_firstFault_26 : decode cX5_firstFault 26 = .ok (.invokestatic 27, 3) := by decide +kernel
theorem dX5_firstFault_29 : decode cX5_firstFault 29 = .ok (.goto 16, 3) := by decide +kernel
theorem dX5_firstFault_32 : decode cX5_firstFault 32 = .ok (.aload_n 0, 1) := by decide +kernel
theorem dX5_firstFault_33 : decode cX5_firstFault 33 = .ok (.iload_n 2, 1) := by decide +kernel
theorem dX5_firstFault_34 : decode cX5_firstFault 34 = .ok (.invokevirtual 19, 3) := by decide +kernel
theorem dX5_firstFault_37 : decode cX5_firstFault 37 = .ok (.iload_n 2, 1) := by decide +kernel
theorem dX5_firstFault_38 : decode cX5_firstFault 38 = .ok (.iload_n 1, 1) := by decide +kernel
theorem dX5_firstFault_39 : decode cX5_firstFault 39 = .ok (.isub, 1) := by decide +kernel
theorem dX5_firstFault_40 : decode cX5_firstFault 40 = .ok (.iconst 1, 1) := by decide +kernel
theorem dX5_firstFault_41 : decode cX5_firstFault 41 = .ok (.isub, 1) := by decide +kernel
theorem dX5_firstFault_42 : decode cX5_firstFault 42 = .ok (.invokestatic 31, 3) := by decide +kernel
theorem dX5_firstFault_45 : decode cX5_firstFault 45 = .ok (.istore_n 3, 1) := by decide +kernel
theorem dX5_firstFault_46 : decode cX5_firstFault 46 = .ok (.iload_n 3, 1) := by decide +kernel
theorem dX5_firstFault_47 : decode cX5_firstFault 47 = .ok (.ifCond .ne 5, 3) := by decide +kernel
theorem dX5_firstFault_50 : decode cX5_firstFault 50 = .ok (.iload_n 2, 1) := by decide +kernel
theorem dX5_firstFault_51 : decode cX5_firstFault 51 = .ok (.ireturn, 1) := by decide +kernel
theorem dX5_firstFault_52 : decode cX5_firstFault 52 = .ok (.iinc 2 1, 3) := by decide +kernel
theorem dX5_firstFault_55 : decode cX5_firstFault 55 = .ok (.goto (-48), 3) := by decide +kernel
theorem dX5_firstFault_58 : decode cX5_firstFault 58 = .ok (.aload_n 0, 1) := by decide +kernel
theorem dX5_firstFault_59 : decode cX5_firstFault 59 = .ok (.getfield 15, 3) := by decide +kernel
theorem dX5_firstFault_62 : decode cX5_firstFault 62 = .ok (.ireturn, 1) := by decide +kernel
theorem dX5_isStation_0 : decode cX5_isStation 0 = .ok (.aload_n 0, 1) := by decide +kernel
theorem dX5_isStation_1 : decode cX5_isStation 1 = .ok (.getfield 15, 3) := by decide +kernel
theorem dX5_isStation_4 : decode cX5_isStation 4 = .ok (.aload_n 0, 1) := by decide +kernel
theorem dX5_isStation_5 : decode cX5_isStation 5 = .ok (.invokevirtual 23, 3) := by decide +kernel
theorem dX5_isStation_8 : decode cX5_isStation 8 = .ok (.isub, 1) := by decide +kernel
theorem dX5_isStation_9 : decode cX5_isStation 9 = .ok (.iconst 1, 1) := by decide +kernel
theorem dX5_isStation_10 : decode cX5_isStation 10 = .ok (.isub, 1) := by decide +kernel
theorem dX5_isStation_11 : decode cX5_isStation 11 = .ok (.istore_n 1, 1) := by decide +kernel
theorem dX5_isStation_12 : decode cX5_isStation 12 = .ok (.aload_n 0, 1) := by decide +kernel
theorem dX5_isStation_13 : decode cX5_isStation 13 = .ok (.invokevirtual 34, 3) := by decide +kernel
theorem dX5_isStation_16 : decode cX5_isStation 16 = .ok (.aload_n 0, 1) := by decide +kernel
theorem dX5_isStation_17 : decode cX5_isStation 17 = .ok (.getfield 15, 3) := by decide +kernel
theorem dX5_isStation_20 : decode cX5_isStation 20 = .ok (.if_icmp .ne 17, 3) := by decide +kernel
theorem dX5_isStation_23 : decode cX5_isStation 23 = .ok (.iload_n 1, 1) := by decide +kernel
theorem dX5_isStation_24 : decode cX5_isStation 24 = .ok (.ifCond .le 13, 3) := by decide +kernel
theorem dX5_isStation_27 : decode cX5_isStation 27 = .ok (.iload_n 1, 1) := by decide +kernel
theorem dX5_isStation_28 : decode cX5_isStation 28 = .ok (.iconst 3, 1) := by decide +kernel
theorem dX5_isStation_29 : decode cX5_isStation 29 = .ok (.irem, 1) := by decide +kernel
theorem dX5_isStation_30 : decode cX5_isStation 30 = .ok (.ifCond .ne 7, 3) := by decide +kernel
theorem dX5_isStation_33 : decode cX5_isStation 33 = .ok (.iconst 1, 1) := by decide +kernel
theorem dX5_isStation_34 : decode cX5_isStation 34 = .ok (.goto 4, 3) := by decide +kernel
theorem dX5_isStation_37 : decode cX5_isStation 37 = .ok (.iconst 0, 1) := by decide +kernel
theorem dX5_isStation_38 : decode cX5_isStation 38 = .ok (.ireturn, 1) := by decide +kernel
theorem dX5_isOfPeople_0 : decode cX5_isOfPeople 0 = .ok (.iload_n 1, 1) := by decide +kernel
theorem dX5_isOfPeople_1 : decode cX5_isOfPeople 1 = .ok (.iconst 4, 1) := by decide +kernel
theorem dX5_isOfPeople_2 : decode cX5_isOfPeople 2 = .ok (.idiv, 1) := by decide +kernel
theorem dX5_isOfPeople_3 : decode cX5_isOfPeople 3 = .ok (.iconst 1, 1) := by decide +kernel
theorem dX5_isOfPeople_4 : decode cX5_isOfPeople 4 = .ok (.iadd, 1) := by decide +kernel
theorem dX5_isOfPeople_5 : decode cX5_isOfPeople 5 = .ok (.istore_n 2, 1) := by decide +kernel
theorem dX5_isOfPeople_6 : decode cX5_isOfPeople 6 = .ok (.iload_n 1, 1) := by decide +kernel
theorem dX5_isOfPeople_7 : decode cX5_isOfPeople 7 = .ok (.iconst 4, 1) := by decide +kernel
theorem dX5_isOfPeople_8 : decode cX5_isOfPeople 8 = .ok (.irem, 1) := by decide +kernel
theorem dX5_isOfPeople_9 : decode cX5_isOfPeople 9 = .ok (.tableswitch 47 0 2 #[27, 32, 40], 27) := by decide +kernel
theorem dX5_isOfPeople_36 : decode cX5_isOfPeople 36 = .ok (.iload_n 0, 1) := by decide +kernel
theorem dX5_isOfPeople_37 : decode cX5_isOfPeople 37 = .ok (.invokestatic 37, 3) := by decide +kernel
theorem dX5_isOfPeople_40 : decode cX5_isOfPeople 40 = .ok (.ireturn, 1) := by decide +kernel
theorem dX5_isOfPeople_41 : decode cX5_isOfPeople 41 = .ok (.iload_n 0, 1) := by decide +kernel
theorem dX5_isOfPeople_42 : decode cX5_isOfPeople 42 = .ok (.iconst 1, 1) := by decide +kernel
theorem dX5_isOfPeople_43 : decode cX5_isOfPeople 43 = .ok (.bipush 9, 2) := by decide +kernel
theorem dX5_isOfPeople_45 : decode cX5_isOfPeople 45 = .ok (.invokestatic 41, 3) := by decide +kernel
theorem dX5_isOfPeople_48 : decode cX5_isOfPeople 48 = .ok (.ireturn, 1) := by decide +kernel
theorem dX5_isOfPeople_49 : decode cX5_isOfPeople 49 = .ok (.iload_n 0, 1) := by decide +kernel
theorem dX5_isOfPeople_50 : decode cX5_isOfPeople 50 = .ok (.iconst 0, 1) := by decide +kernel
theorem dX5_isOfPeople_51 : decode cX5_isOfPeople 51 = .ok (.iconst 3, 1) := by decide +kernel
theorem dX5_isOfPeople_52 : decode cX5_isOfPeople 52 = .ok (.invokestatic 41, 3) := by decide +kernel
theorem dX5_isOfPeople_55 : decode cX5_isOfPeople 55 = .ok (.ireturn, 1) := by decide +kernel
theorem dX5_isOfPeople_56 : decode cX5_isOfPeople 56 = .ok (.iload_n 0, 1) := by decide +kernel
theorem dX5_isOfPeople_57 : decode cX5_isOfPeople 57 = .ok (.bipush 44, 2) := by decide +kernel
theorem dX5_isOfPeople_59 : decode cX5_isOfPeople 59 = .ok (.if_icmp .ne 8, 3) := by decide +kernel
theorem dX5_isOfPeople_62 : decode cX5_isOfPeople 62 = .ok (.iload_n 2, 1) := by decide +kernel
theorem dX5_isOfPeople_63 : decode cX5_isOfPeople 63 = .ok (.iconst 4, 1) := by decide +kernel
theorem dX5_isOfPeople_64 : decode cX5_isOfPeople 64 = .ok (.if_icmp .lt 19, 3) := by decide +kernel
theorem dX5_isOfPeople_67 : decode cX5_isOfPeople 67 = .ok (.iload_n 0, 1) := by decide +kernel
theorem dX5_isOfPeople_68 : decode cX5_isOfPeople 68 = .ok (.bipush 59, 2) := by decide +kernel
theorem dX5_isOfPeople_70 : decode cX5_isOfPeople 70 = .ok (.if_icmp .ne 17, 3) := by decide +kernel
theorem dX5_isOfPeople_73 : decode cX5_isOfPeople 73 = .ok (.iload_n 2, 1) := by decide +kernel
theorem dX5_isOfPeople_74 : decode cX5_isOfPeople 74 = .ok (.iconst 2, 1) := by decide +kernel
theorem dX5_isOfPeople_75 : decode cX5_isOfPeople 75 = .ok (.if_icmp .lt 12, 3) := by decide +kernel
theorem dX5_isOfPeople_78 : decode cX5_isOfPeople 78 = .ok (.iload_n 2, 1) := by decide +kernel
theorem dX5_isOfPeople_79 : decode cX5_isOfPeople 79 = .ok (.iconst 4, 1) := by decide +kernel
theorem dX5_isOfPeople_80 : decode cX5_isOfPeople 80 = .ok (.if_icmp .gt 7, 3) := by decide +kernel
theorem dX5_isOfPeople_83 : decode cX5_isOfPeople 83 = .ok (.iconst 1, 1) := by decide +kernel
theorem dX5_isOfPeople_84 : decode cX5_isOfPeople 84 = .ok (.goto 4, 3) := by decide +kernel
theorem dX5_isOfPeople_87 : decode cX5_isOfPeople 87 = .ok (.iconst 0, 1) := by decide +kernel
theorem dX5_isOfPeople_88 : decode cX5_isOfPeople 88 = .ok (.ireturn, 1) := by decide +kernel
theorem dX5_isOfCrimes_0 : decode cX5_isOfCrimes 0 = .ok (.iload_n 1, 1) := by decide +kernel
theorem dX5_isOfCrimes_1 : decode cX5_isOfCrimes 1 = .ok (.iconst 3, 1) := by decide +kernel
theorem dX5_isOfCrimes_2 : decode cX5_isOfCrimes 2 = .ok (.idiv, 1) := by decide +kernel
theorem dX5_isOfCrimes_3 : decode cX5_isOfCrimes 3 = .ok (.iconst 4, 1) := by decide +kernel
theorem dX5_isOfCrimes_4 : decode cX5_isOfCrimes 4 = .ok (.if_icmp .lt 5, 3) := by decide +kernel
theorem dX5_isOfCrimes_7 : decode cX5_isOfCrimes 7 = .ok (.iconst 0, 1) := by decide +kernel
theorem dX5_isOfCrimes_8 : decode cX5_isOfCrimes 8 = .ok (.ireturn, 1) := by decide +kernel
theorem dX5_isOfCrimes_9 : decode cX5_isOfCrimes 9 = .ok (.iload_n 1, 1) := by decide +kernel
theorem dX5_isOfCrimes_10 : decode cX5_isOfCrimes 10 = .ok (.iconst 3, 1) := by decide +kernel
theorem dX5_isOfCrimes_11 : decode cX5_isOfCrimes 11 = .ok (.irem, 1) := by decide +kernel
theorem dX5_isOfCrimes_12 : decode cX5_isOfCrimes 12 = .ok (.iconst 1, 1) := by decide +kernel
theorem dX5_isOfCrimes_13 : decode cX5_isOfCrimes 13 = .ok (.if_icmp .ne 12, 3) := by decide +kernel
theorem dX5_isOfCrimes_16 : decode cX5_isOfCrimes 16 = .ok (.iload_n 0, 1) := by decide +kernel
theorem dX5_isOfCrimes_17 : decode cX5_isOfCrimes 17 = .ok (.iconst 0, 1) := by decide +kernel
theorem dX5_isOfCrimes_18 : decode cX5_isOfCrimes 18 = .ok (.iconst 3, 1) := by decide +kernel
theorem dX5_isOfCrimes_19 : decode cX5_isOfCrimes 19 = .ok (.invokestatic 41, 3) := by decide +kernel
theorem dX5_isOfCrimes_22 : decode cX5_isOfCrimes 22 = .ok (.goto 10, 3) := by decide +kernel
theorem dX5_isOfCrimes_25 : decode cX5_isOfCrimes 25 = .ok (.iload_n 0, 1) := by decide +kernel
theorem dX5_isOfCrimes_26 : decode cX5_isOfCrimes 26 = .ok (.iconst 1, 1) := by decide +kernel
theorem dX5_isOfCrimes_27 : decode cX5_isOfCrimes 27 = .ok (.bipush 9, 2) := by decide +kernel
theorem dX5_isOfCrimes_29 : decode cX5_isOfCrimes 29 = .ok (.invokestatic 41, 3) := by decide +kernel
theorem dX5_isOfCrimes_32 : decode cX5_isOfCrimes 32 = .ok (.ireturn, 1) := by decide +kernel
theorem dX5_isKindLetter_0 : decode cX5_isKindLetter 0 = .ok (.iload_n 0, 1) := by decide +kernel
theorem dX5_isKindLetter_1 : decode cX5_isKindLetter 1 = .ok (.bipush 109, 2) := by decide +kernel
theorem dX5_isKindLetter_3 : decode cX5_isKindLetter 3 = .ok (.if_icmp .eq 27, 3) := by decide +kernel
theorem dX5_isKindLetter_6 : decode cX5_isKindLetter 6 = .ok (.iload_n 0, 1) := by decide +kernel
theorem dX5_isKindLetter_7 : decode cX5_isKindLetter 7 = .ok (.bipush 116, 2) := by decide +kernel
theorem dX5_isKindLetter_9 : decode cX5_isKindLetter 9 = .ok (.if_icmp .eq 21, 3) := by decide +kernel
theorem dX5_isKindLetter_12 : decode cX5_isKindLetter 12 = .ok (.iload_n 0, 1) := by decide +kernel
theorem dX5_isKindLetter_13 : decode cX5_isKindLetter 13 = .ok (.bipush 98, 2) := by decide +kernel
theorem dX5_isKindLetter_15 : decode cX5_isKindLetter 15 = .ok (.if_icmp .eq 15, 3) := by decide +kernel
theorem dX5_isKindLetter_18 : decode cX5_isKindLetter 18 = .ok (.iload_n 0, 1) := by decide +kernel
theorem dX5_isKindLetter_19 : decode cX5_isKindLetter 19 = .ok (.bipush 105, 2) := by decide +kernel
theorem dX5_isKindLetter_21 : decode cX5_isKindLetter 21 = .ok (.if_icmp .eq 9, 3) := by decide +kernel
theorem dX5_isKindLetter_24 : decode cX5_isKindLetter 24 = .ok (.iload_n 0, 1) := by decide +kernel
theorem dX5_isKindLetter_25 : decode cX5_isKindLetter 25 = .ok (.bipush 104, 2) := by decide +kernel
theorem dX5_isKindLetter_27 : decode cX5_isKindLetter 27 = .ok (.if_icmp .ne 7, 3) := by decide +kernel
theorem dX5_isKindLetter_30 : decode cX5_isKindLetter 30 = .ok (.iconst 1, 1) := by decide +kernel
theorem dX5_isKindLetter_31 : decode cX5_isKindLetter 31 = .ok (.goto 4, 3) := by decide +kernel
theorem dX5_isKindLetter_34 : decode cX5_isKindLetter 34 = .ok (.iconst 0, 1) := by decide +kernel
theorem dX5_isKindLetter_35 : decode cX5_isKindLetter 35 = .ok (.ireturn, 1) := by decide +kernel
theorem dX5_isDigit_0 : decode cX5_isDigit 0 = .ok (.iload_n 0, 1) := by decide +kernel
theorem dX5_isDigit_1 : decode cX5_isDigit 1 = .ok (.bipush 48, 2) := by decide +kernel
theorem dX5_isDigit_3 : decode cX5_isDigit 3 = .ok (.iload_n 1, 1) := by decide +kernel
theorem dX5_isDigit_4 : decode cX5_isDigit 4 = .ok (.iadd, 1) := by decide +kernel
theorem dX5_isDigit_5 : decode cX5_isDigit 5 = .ok (.if_icmp .lt 15, 3) := by decide +kernel
theorem dX5_isDigit_8 : decode cX5_isDigit 8 = .ok (.iload_n 0, 1) := by decide +kernel
theorem dX5_isDigit_9 : decode cX5_isDigit 9 = .ok (.bipush 48, 2) := by decide +kernel
theorem dX5_isDigit_11 : decode cX5_isDigit 11 = .ok (.iload_n 2, 1) := by decide +kernel
theorem dX5_isDigit_12 : decode cX5_isDigit 12 = .ok (.iadd, 1) := by decide +kernel
theorem dX5_isDigit_13 : decode cX5_isDigit 13 = .ok (.if_icmp .gt 7, 3) := by decide +kernel
theorem dX5_isDigit_16 : decode cX5_isDigit 16 = .ok (.iconst 1, 1) := by decide +kernel
theorem dX5_isDigit_17 : decode cX5_isDigit 17 = .ok (.goto 4, 3) := by decide +kernel
theorem dX5_isDigit_20 : decode cX5_isDigit 20 = .ok (.iconst 0, 1) := by decide +kernel
theorem dX5_isDigit_21 : decode cX5_isDigit 21 = .ok (.ireturn, 1) := by decide +kernel
theorem dX6_init_0 : decode cX6_init 0 = .ok (.aload_n 0, 1) := by decide +kernel
theorem dX6_init_1 : decode cX6_init 1 = .ok (.invokespecial 3, 3) := by decide +kernel
theorem dX6_init_4 : decode cX6_init 4 = .ok (.aload_n 0, 1) := by decide +kernel
theorem dX6_init_5 : decode cX6_init 5 = .ok (.iconst 4, 1) := by decide +kernel
theorem dX6_init_6 : decode cX6_init 6 = .ok (.anewarray 9, 3) := by decide +kernel
theorem dX6_init_9 : decode cX6_init 9 = .ok (.putfield 11, 3) := by decide +kernel
theorem dX6_init_12 : decode cX6_init 12 = .ok (.aload_n 0, 1) := by decide +kernel
theorem dX6_init_13 : decode cX6_init 13 = .ok (.iconst 4, 1) := by decide +kernel
theorem dX6_init_14 : decode cX6_init 14 = .ok (.anewarray 17, 3) := by decide +kernel
theorem dX6_init_17 : decode cX6_init 17 = .ok (.putfield 19, 3) := by decide +kernel
theorem dX6_init_20 : decode cX6_init 20 = .ok (.return_, 1) := by decide +kernel
theorem dX6_peopleMany_0 : decode cX6_peopleMany 0 = .ok (.aload_n 0, 1) := by decide +kernel
theorem dX6_peopleMany_1 : decode cX6_peopleMany 1 = .ok (.getfield 23, 3) := by decide +kernel
theorem dX6_peopleMany_4 : decode cX6_peopleMany 4 = .ok (.ireturn, 1) := by decide +kernel
theorem dX6_crimesMany_0 : decode cX6_crimesMany 0 = .ok (.aload_n 0, 1) := by decide +kernel
theorem dX6_crimesMany_1 : decode cX6_crimesMany 1 = .ok (.getfield 27, 3) := by decide +kernel
theorem dX6_crimesMany_4 : decode cX6_crimesMany 4 = .ok (.ireturn, 1) := by decide +kernel
theorem dX6_manOf_0 : decode cX6_manOf 0 = .ok (.iload_n 1, 1) := by decide +kernel
theorem dX6_manOf_1 : decode cX6_manOf 1 = .ok (.ifCond .lt 29, 3) := by decide +kernel
theorem dX6_manOf_4 : decode cX6_manOf 4 = .ok (.iload_n 1, 1) := by decide +kernel
theorem dX6_manOf_5 : decode cX6_manOf 5 = .ok (.aload_n 0, 1) := by decide +kernel
theorem dX6_manOf_6 : decode cX6_manOf 6 = .ok (.getfield 23, 3) := by decide +kernel
theorem dX6_manOf_9 : decode cX6_manOf 9 = .ok (.if_icmp .ge 21, 3) := by decide +kernel
theorem dX6_manOf_12 : decode cX6_manOf 12 = .ok (.iload_n 1, 1) := by decide +kernel
theorem dX6_manOf_13 : decode cX6_manOf 13 = .ok (.aload_n 0, 1) := by decide +kernel
theorem dX6_manOf_14 : decode cX6_manOf 14 = .ok (.getfield 11, 3) := by decide +kernel
theorem dX6_manOf_17 : decode cX6_manOf 17 = .ok (.arraylength, 1) := by decide +kernel
theorem dX6_manOf_18 : decode cX6_manOf 18 = .ok (.if_icmp .ge 12, 3) := by decide +kernel
theorem dX6_manOf_21 : decode cX6_manOf 21 = .ok (.aload_n 0, 1) := by decide +kernel
theorem dX6_manOf_22 : decode cX6_manOf 22 = .ok (.getfield 11, 3) := by decide +kernel
theorem dX6_manOf_25 : decode cX6_manOf 25 = .ok (.iload_n 1, 1) := by decide +kernel
theorem dX6_manOf_26 : decode cX6_manOf 26 = .ok (.aaload, 1) := by decide +kernel
theorem dX6_manOf_27 : decode cX6_manOf 27 = .ok (.goto 4, 3) := by decide +kernel
theorem dX6_manOf_30 : decode cX6_manOf 30 = .ok (.aconst_null, 1) := by decide +kernel
theorem dX6_manOf_31 : decode cX6_manOf 31 = .ok (.areturn, 1) := by decide +kernel
theorem dX6_crimeOf_0 : decode cX6_crimeOf 0 = .ok (.iload_n 1, 1) := by decide +kernel
theorem dX6_crimeOf_1 : decode cX6_crimeOf 1 = .ok (.ifCond .lt 29, 3) := by decide +kernel
theorem dX6_crimeOf_4 : decode cX6_crimeOf 4 = .ok (.iload_n 1, 1) := by decide +kernel
theorem dX6_crimeOf_5 : decode cX6_crimeOf 5 = .ok (.aload_n 0, 1) := by decide +kernel
theorem dX6_crimeOf_6 : decode cX6_crimeOf 6 = .ok (.getfield 27, 3) := by decide +kernel
theorem dX6_crimeOf_9 : decode cX6_crimeOf 9 = .ok (.if_icmp .ge 21, 3) := by decide +kernel
theorem dX6_crimeOf_12 : decode cX6_crimeOf 12 = .ok (.iload_n 1, 1) := by decide +kernel
theorem dX6_crimeOf_13 : decode cX6_crimeOf 13 = .ok (.aload_n 0, 1) := by decide +kernel
theorem dX6_crimeOf_14 : decode cX6_crimeOf 14 = .ok (.getfield 19, 3) := by decide +kernel
theorem dX6_crimeOf_17 : decode cX6_crimeOf 17 = .ok (.arraylength, 1) := by decide +kernel
theorem dX6_crimeOf_18 : decode cX6_crimeOf 18 = .ok (.if_icmp .ge 12, 3) := by decide +kernel
theorem dX6_crimeOf_21 : decode cX6_crimeOf 21 = .ok (.aload_n 0, 1) := by decide +kernel
theorem dX6_crimeOf_22 : decode cX6_crimeOf 22 = .ok (.getfield 19, 3) := by decide +kernel
theorem dX6_crimeOf_25 : decode cX6_crimeOf 25 = .ok (.iload_n 1, 1) := by decide +kernel
theorem dX6_crimeOf_26 : decode cX6_crimeOf 26 = .ok (.aaload, 1) := by decide +kernel
theorem dX6_crimeOf_27 : decode cX6_crimeOf 27 = .ok (.goto 4, 3) := by decide +kernel
theorem dX6_crimeOf_30 : decode cX6_crimeOf 30 = .ok (.aconst_null, 1) := by decide +kernel
theorem dX6_crimeOf_31 : decode cX6_crimeOf 31 = .ok (.areturn, 1) := by decide +kernel
theorem dX6_read_0 : decode cX6_read 0 = .ok (.aload_n 1, 1) := by decide +kernel
theorem dX6_read_1 : decode cX6_read 1 = .ok (.ifnonnull 4, 3) := by decide +kernel
theorem dX6_read_4 : decode cX6_read 4 = .ok (.return_, 1) := by decide +kernel
theorem dX6_read_5 : decode cX6_read 5 = .ok (.aload_n 1, 1) := by decide +kernel
theorem dX6_read_6 : decode cX6_read 6 = .ok (.invokevirtual 30, 3) := by decide +kernel
theorem dX6_read_9 : decode cX6_read 9 = .ok (.iconst 1, 1) := by decide +kernel
theorem dX6_read_10 : decode cX6_read 10 = .ok (.iadd, 1) := by decide +kernel
theorem dX6_read_11 : decode cX6_read 11 = .ok (.istore_n 2, 1) := by decide +kernel
theorem dX6_read_12 : decode cX6_read 12 = .ok (.aload_n 0, 1) := by decide +kernel
theorem dX6_read_13 : decode cX6_read 13 = .ok (.iload_n 2, 1) := by decide +kernel
theorem dX6_read_14 : decode cX6_read 14 = .ok (.iconst 4, 1) := by decide +kernel
theorem dX6_read_15 : decode cX6_read 15 = .ok (.idiv, 1) := by decide +kernel
theorem dX6_read_16 : decode cX6_read 16 = .ok (.aload_n 0, 1) := by decide +kernel
theorem dX6_read_17 : decode cX6_read 17 = .ok (.getfield 11, 3) := by decide +kernel
theorem dX6_read_20 : decode cX6_read 20 = .ok (.arraylength, 1) := by decide +kernel
theorem dX6_read_21 : decode cX6_read 21 = .ok (.invokestatic 36, 3) := by decide +kernel
theorem dX6_read_24 : decode cX6_read 24 = .ok (.putfield 23, 3) := by decide +kernel
theorem dX6_read_27 : decode cX6_read 27 = .ok (.iconst 0, 1) := by decide +kernel
theorem dX6_read_28 : decode cX6_read 28 = .ok (.istore_n 3, 1) := by decide +kernel
theorem dX6_read_29 : decode cX6_read 29 = .ok (.iload_n 3, 1) := by decide +kernel
theorem dX6_read_30 : decode cX6_read 30 = .ok (.aload_n 0, 1) := by decide +kernel
theorem dX6_read_31 : decode cX6_read 31 = .ok (.getfield 23, 3) := by decide +kernel
theorem dX6_read_34 : decode cX6_read 34 = .ok (.if_icmp .ge 31, 3) := by decide +kernel
theorem dX6_read_37 : decode cX6_read 37 = .ok (.iload_n 3, 1) := by decide +kernel
theorem dX6_read_38 : decode cX6_read 38 = .ok (.aload_n 0, 1) := by decide +kernel
theorem dX6_read_39 : decode cX6_read 39 = .ok (.getfield 11, 3) := by decide +kernel
theorem dX6_read_42 : decode cX6_read 42 = .ok (.arraylength, 1) := by decide +kernel
theorem dX6_read_43 : decode cX6_read 43 = .ok (.if_icmp .ge 22, 3) := by decide +kernel
theorem dX6_read_46 : decode cX6_read 46 = .ok (.aload_n 0, 1) := by decide +kernel
theorem dX6_read_47 : decode cX6_read 47 = .ok (.getfield 11, 3) := by decide +kernel
theorem dX6_read_50 : decode cX6_read 50 = .ok (.iload_n 3, 1) := by decide +kernel
theorem dX6_read_51 : decode cX6_read 51 = .ok (.aload_n 1, 1) := by decide +kernel
theorem dX6_read_52 : decode cX6_read 52 = .ok (.iload_n 3, 1) := by decide +kernel
theorem dX6_read_53 : decode cX6_read 53 = .ok (.iconst 4, 1) := by decide +kernel
theorem dX6_read_54 : decode cX6_read 54 = .ok (.imul, 1) := by decide +kernel
theorem dX6_read_55 : decode cX6_read 55 = .ok (.invokestatic 42, 3) := by decide +kernel
theorem dX6_read_58 : decode cX6_read 58 = .ok (.aastore, 1) := by decide +kernel
theorem dX6_read_59 : decode cX6_read 59 = .ok (.iinc 3 1, 3) := by decide +kernel
theorem dX6_read_62 : decode cX6_read 62 = .ok (.goto (-33), 3) := by decide +kernel
theorem dX6_read_65 : decode cX6_read 65 = .ok (.aload_n 0, 1) := by decide +kernel
theorem dX6_read_66 : decode cX6_read 66 = .ok (.aload_n 1, 1) := by decide +kernel
theorem dX6_read_67 : decode cX6_read 67 = .ok (.invokevirtual 46, 3) := by decide +kernel
theorem dX6_read_70 : decode cX6_read 70 = .ok (.iload_n 2, 1) := by decide +kernel
theorem dX6_read_71 : decode cX6_read 71 = .ok (.isub, 1) := by decide +kernel
theorem dX6_read_72 : decode cX6_read 72 = .ok (.iconst 3, 1) := by decide +kernel
theorem dX6_read_73 : decode cX6_read 73 = .ok (.idiv, 1) := by decide +kernel
theorem dX6_read_74 : decode cX6_read 74 = .ok (.aload_n 0, 1) := by decide +kernel
theorem dX6_read_75 : decode cX6_read 75 = .ok (.getfield 19, 3) := by decide +kernel
theorem dX6_read_78 : decode cX6_read 78 = .ok (.arraylength, 1) := by decide +kernel
theorem dX6_read_79 : decode cX6_read 79 = .ok (.invokestatic 36, 3) := by decide +kernel
theorem dX6_read_82 : decode cX6_read 82 = .ok (.putfield 27, 3) := by decide +kernel
theorem dX6_read_85 : decode cX6_read 85 = .ok (.iconst 0, 1) := by decide +kernel
theorem dX6_read_86 : decode cX6_read 86 = .ok (.istore_n 3, 1) := by decide +kernel
theorem dX6_read_87 : decode cX6_read 87 = .ok (.iload_n 3, 1) := by decide +kernel
theorem dX6_read_88 : decode cX6_read 88 = .ok (.aload_n 0, 1) := by decide +kernel
theorem dX6_read_89 : decode cX6_read 89 = .ok (.getfield 27, 3) := by decide +kernel
theorem dX6_read_92 : decode cX6_read 92 = .ok (.if_icmp .ge 33, 3) := by decide +kernel
theorem dX6_read_95 : decode cX6_read 95 = .ok (.iload_n 3, 1) := by decide +kernel
theorem dX6_read_96 : decode cX6_read 96 = .ok (.aload_n 0, 1) := by decide +kernel
theorem dX6_read_97 : decode cX6_read 97 = .ok (.getfield 19, 3) := by decide +kernel
theorem dX6_read_100 : decode cX6_read 100 = .ok (.arraylength, 1) := by decide +kernel
theorem dX6_read_101 : decode cX6_read 101 = .ok (.if_icmp .ge 24, 3) := by decide +kernel
theorem dX6_read_104 : decode cX6_read 104 = .ok (.aload_n 0, 1) := by decide +kernel
theorem dX6_read_105 : decode cX6_read 105 = .ok (.getfield 19, 3) := by decide +kernel
theorem dX6_read_108 : decode cX6_read 108 = .ok (.iload_n 3, 1) := by decide +kernel
theorem dX6_read_109 : decode cX6_read 109 = .ok (.aload_n 1, 1) := by decide +kernel
theorem dX6_read_110 : decode cX6_read 110 = .ok (.iload_n 2, 1) := by decide +kernel
theorem dX6_read_111 : decode cX6_read 111 = .ok (.iload_n 3, 1) := by decide +kernel
theorem dX6_read_112 : decode cX6_read 112 = .ok (.iconst 3, 1) := by decide +kernel
theorem dX6_read_113 : decode cX6_read 113 = .ok (.imul, 1) := by decide +kernel
theorem dX6_read_114 : decode cX6_read 114 = .ok (.iadd, 1) := by decide +kernel
theorem dX6_read_115 : decode cX6_read 115 = .ok (.invokestatic 49, 3) := by decide +kernel
theorem dX6_read_118 : decode cX6_read 118 = .ok (.aastore, 1) := by decide +kernel
theorem dX6_read_119 : decode cX6_read 119 = .ok (.iinc 3 1, 3) := by decide +kernel
theorem dX6_read_122 : decode cX6_read 122 = .ok (.goto (-35), 3) := by decide +kernel
theorem dX6_read_125 : decode cX6_read 125 = .ok (.return_, 1) := by decide +kernel
theorem dX6_manAt_0 : decode cX6_manAt 0 = .ok (.aload_n 0, 1) := by decide +kernel
theorem dX6_manAt_1 : decode cX6_manAt 1 = .ok (.iload_n 1, 1) := by decide +kernel
theorem dX6_manAt_2 : decode cX6_manAt 2 = .ok (.iconst 1, 1) := by decide +kernel
theorem dX6_manAt_3 : decode cX6_manAt 3 = .ok (.iadd, 1) := by decide +kernel
theorem dX6_manAt_4 : decode cX6_manAt 4 = .ok (.invokevirtual 53, 3) := by decide +kernel
theorem dX6_manAt_7 : decode cX6_manAt 7 = .ok (.istore_n 2, 1) := by decide +kernel
theorem dX6_manAt_8 : decode cX6_manAt 8 = .ok (.aload_n 0, 1) := by decide +kernel
theorem dX6_manAt_9 : decode cX6_manAt 9 = .ok (.iload_n 1, 1) := by decide +kernel
theorem dX6_manAt_10 : decode cX6_manAt 10 = .ok (.iconst 2, 1) := by decide +kernel
theorem dX6_manAt_11 : decode cX6_manAt 11 = .ok (.iadd, 1) := by decide +kernel
theorem dX6_manAt_12 : decode cX6_manAt 12 = .ok (.invokevirtual 53, 3) := by decide +kernel
theorem dX6_manAt_15 : decode cX6_manAt 15 = .ok (.istore_n 3, 1) := by decide +kernel
theorem dX6_manAt_16 : decode cX6_manAt 16 = .ok (.aload_n 0, 1) := by decide +kernel
theorem dX6_manAt_17 : decode cX6_manAt 17 = .ok (.iload_n 1, 1) := by decide +kernel
theorem dX6_manAt_18 : decode cX6_manAt 18 = .ok (.invokevirtual 57, 3) := by decide +kernel
theorem dX6_manAt_21 : decode cX6_manAt 21 = .ok (.lookupswitch 83 #[(98, 53), (104, 73), (105, 63), (116, 43)], 43) := by decide +kernel
theorem dX6_manAt_64 : decode cX6_manAt 64 = .ok (.new 60, 3) := by decide +kernel
theorem dX6_manAt_67 : decode cX6_manAt 67 = .ok (.dup, 1) := by decide +kernel
theorem dX6_manAt_68 : decode cX6_manAt 68 = .ok (.iload_n 2, 1) := by decide +kernel
theorem dX6_manAt_69 : decode cX6_manAt 69 = .ok (.iload_n 3, 1) := by decide +kernel
theorem dX6_manAt_70 : decode cX6_manAt 70 = .ok (.invokespecial 62, 3) := by decide +kernel
theorem dX6_manAt_73 : decode cX6_manAt 73 = .ok (.areturn, 1) := by decide +kernel
theorem dX6_manAt_74 : decode cX6_manAt 74 = .ok (.new 65, 3) := by decide +kernel
theorem dX6_manAt_77 : decode cX6_manAt 77 = .ok (.dup, 1) := by decide +kernel
theorem dX6_manAt_78 : decode cX6_manAt 78 = .ok (.iload_n 2, 1) := by decide +kernel
theorem dX6_manAt_79 : decode cX6_manAt 79 = .ok (.iload_n 3, 1) := by decide +kernel
theorem dX6_manAt_80 : decode cX6_manAt 80 = .ok (.invokespecial 67, 3) := by decide +kernel
theorem dX6_manAt_83 : decode cX6_manAt 83 = .ok (.areturn, 1) := by decide +kernel
theorem dX6_manAt_84 : decode cX6_manAt 84 = .ok (.new 68, 3) := by decide +kernel
theorem dX6_manAt_87 : decode cX6_manAt 87 = .ok (.dup, 1) := by decide +kernel
theorem dX6_manAt_88 : decode cX6_manAt 88 = .ok (.iload_n 2, 1) := by decide +kernel
theorem dX6_manAt_89 : decode cX6_manAt 89 = .ok (.iload_n 3, 1) := by decide +kernel
theorem dX6_manAt_90 : decode cX6_manAt 90 = .ok (.invokespecial 70, 3) := by decide +kernel
theorem dX6_manAt_93 : decode cX6_manAt 93 = .ok (.areturn, 1) := by decide +kernel
theorem dX6_manAt_94 : decode cX6_manAt 94 = .ok (.new 71, 3) := by decide +kernel
theorem dX6_manAt_97 : decode cX6_manAt 97 = .ok (.dup, 1) := by decide +kernel
theorem dX6_manAt_98 : decode cX6_manAt 98 = .ok (.iload_n 2, 1) := by decide +kernel
theorem dX6_manAt_99 : decode cX6_manAt 99 = .ok (.iload_n 3, 1) := by decide +kernel
theorem dX6_manAt_100 : decode cX6_manAt 100 = .ok (.invokespecial 73, 3) := by decide +kernel
theorem dX6_manAt_103 : decode cX6_manAt 103 = .ok (.areturn, 1) := by decide +kernel
theorem dX6_manAt_104 : decode cX6_manAt 104 = .ok (.new 9, 3) := by decide +kernel
theorem dX6_manAt_107 : decode cX6_manAt 107 = .ok (.dup, 1) := by decide +kernel
theorem dX6_manAt_108 : decode cX6_manAt 108 = .ok (.iload_n 2, 1) := by decide +kernel
theorem dX6_manAt_109 : decode cX6_manAt 109 = .ok (.iload_n 3, 1) := by decide +kernel
theorem dX6_manAt_110 : decode cX6_manAt 110 = .ok (.invokespecial 74, 3) := by decide +kernel
theorem dX6_manAt_113 : decode cX6_manAt 113 = .ok (.areturn, 1) := by decide +kernel
theorem dX6_crimeAt_0 : decode cX6_crimeAt 0 = .ok (.new 17, 3) := by decide +kernel
theorem dX6_crimeAt_3 : decode cX6_crimeAt 3 = .ok (.dup, 1) := by decide +kernel
theorem dX6_crimeAt_4 : decode cX6_crimeAt 4 = .ok (.aload_n 0, 1) := by decide +kernel
theorem dX6_crimeAt_5 : decode cX6_crimeAt 5 = .ok (.iload_n 1, 1) := by decide +kernel
theorem dX6_crimeAt_6 : decode cX6_crimeAt 6 = .ok (.invokevirtual 53, 3) := by decide +kernel
theorem dX6_crimeAt_9 : decode cX6_crimeAt 9 = .ok (.aload_n 0, 1) := by decide +kernel
theorem dX6_crimeAt_10 : decode cX6_crimeAt 10 = .ok (.iload_n 1, 1) := by decide +kernel
theorem dX6_crimeAt_11 : decode cX6_crimeAt 11 = .ok (.iconst 1, 1) := by decide +kernel
theorem dX6_crimeAt_12 : decode cX6_crimeAt 12 = .ok (.iadd, 1) := by decide +kernel
theorem dX6_crimeAt_13 : decode cX6_crimeAt 13 = .ok (.invokevirtual 53, 3) := by decide +kernel
theorem dX6_crimeAt_16 : decode cX6_crimeAt 16 = .ok (.aload_n 0, 1) := by decide +kernel
theorem dX6_crimeAt_17 : decode cX6_crimeAt 17 = .ok (.iload_n 1, 1) := by decide +kernel
theorem dX6_crimeAt_18 : decode cX6_crimeAt 18 = .ok (.iconst 2, 1) := by decide +kernel
theorem dX6_crimeAt_19 : decode cX6_crimeAt 19 = .ok (.iadd, 1) := by decide +kernel
theorem dX6_crimeAt_20 : decode cX6_crimeAt 20 = .ok (.invokevirtual 53, 3) := by decide +kernel
theorem dX6_crimeAt_23 : decode cX6_crimeAt 23 = .ok (.invokespecial 75, 3) := by decide +kernel
theorem dX6_crimeAt_26 : decode cX6_crimeAt 26 = .ok (.areturn, 1) := by decide +kernel
theorem dX7_init_0 : decode cX7_init 0 = .ok (.aload_n 0, 1) := by decide +kernel
theorem dX7_init_1 : decode cX7_init 1 = .ok (.invokespecial 3, 3) := by decide +kernel
theorem dX7_init_4 : decode cX7_init 4 = .ok (.aload_n 0, 1) := by decide +kernel
theorem dX7_init_5 : decode cX7_init 5 = .ok (.iconst 4, 1) := by decide +kernel
theorem dX7_init_6 : decode cX7_init 6 = .ok (.newarray .int, 2) := by decide +kernel
theorem dX7_init_8 : decode cX7_init 8 = .ok (.putfield 9, 3) := by decide +kernel
theorem dX7_init_11 : decode cX7_init 11 = .ok (.aload_n 0, 1) := by decide +kernel
theorem dX7_init_12 : decode cX7_init 12 = .ok (.iconst 4, 1) := by decide +kernel
theorem dX7_init_13 : decode cX7_init 13 = .ok (.newarray .int, 2) := by decide +kernel
theorem dX7_init_15 : decode cX7_init 15 = .ok (.putfield 15, 3) := by decide +kernel
theorem dX7_init_18 : decode cX7_init 18 = .ok (.aload_n 0, 1) := by decide +kernel
theorem dX7_init_19 : decode cX7_init 19 = .ok (.new 18, 3) := by decide +kernel
theorem dX7_init_22 : decode cX7_init 22 = .ok (.dup, 1) := by decide +kernel
theorem dX7_init_23 : decode cX7_init 23 = .ok (.invokespecial 20, 3) := by decide +kernel
theorem dX7_init_26 : decode cX7_init 26 = .ok (.putfield 21, 3) := by decide +kernel
theorem dX7_init_29 : decode cX7_init 29 = .ok (.iconst 0, 1) := by decide +kernel
theorem dX7_init_30 : decode cX7_init 30 = .ok (.istore_n 1, 1) := by decide +kernel
theorem dX7_init_31 : decode cX7_init 31 = .ok (.iload_n 1, 1) := by decide +kernel
theorem dX7_init_32 : decode cX7_init 32 = .ok (.aload_n 0, 1) := by decide +kernel
theorem dX7_init_33 : decode cX7_init 33 = .ok (.getfield 15, 3) := by decide +kernel
theorem dX7_init_36 : decode cX7_init 36 = .ok (.arraylength, 1) := by decide +kernel
theorem dX7_init_37 : decode cX7_init 37 = .ok (.if_icmp .ge 16, 3) := by decide +kernel
theorem dX7_init_40 : decode cX7_init 40 = .ok (.aload_n 0, 1) := by decide +kernel
theorem dX7_init_41 : decode cX7_init 41 = .ok (.getfield 15, 3) := by decide +kernel
theorem dX7_init_44 : decode cX7_init 44 = .ok (.iload_n 1, 1) := by decide +kernel
theorem dX7_init_45 : decode cX7_init 45 = .ok (.iconst (-1), 1) := by decide +kernel
theorem dX7_init_46 : decode cX7_init 46 = .ok (.iastore, 1) := by decide +kernel
theorem dX7_init_47 : decode cX7_init 47 = .ok (.iinc 1 1, 3) := by decide +kernel
theorem dX7_init_50 : decode cX7_init 50 = .ok (.goto (-19), 3) := by decide +kernel
theorem dX7_init_53 : decode cX7_init 53 = .ok (.return_, 1) := by decide +kernel
theorem dX7_begin_0 : decode cX7_begin 0 = .ok (.aload_n 1, 1) := by decide +kernel
theorem dX7_begin_1 : decode cX7_begin 1 = .ok (.ifnonnull 4, 3) := by decide +kernel
theorem dX7_begin_4 : decode cX7_begin 4 = .ok (.return_, 1) := by decide +kernel
theorem dX7_begin_5 : decode cX7_begin 5 = .ok (.iconst 0, 1) := by decide +kernel
theorem dX7_begin_6 : decode cX7_begin 6 = .ok (.istore_n 2, 1) := by decide +kernel
theorem dX7_begin_7 : decode cX7_begin 7 = .ok (.iload_n 2, 1) := by decide +kernel
theorem dX7_begin_8 : decode cX7_begin 8 = .ok (.aload_n 0, 1) := by decide +kernel
theorem dX7_begin_9 : decode cX7_begin 9 = .ok (.getfield 9, 3) := by decide +kernel
theorem dX7_begin_12 : decode cX7_begin 12 = .ok (.arraylength, 1) := by decide +kernel
theorem dX7_begin_13 : decode cX7_begin 13 = .ok (.if_icmp .ge 33, 3) := by decide +kernel
theorem dX7_begin_16 : decode cX7_begin 16 = .ok (.aload_n 1, 1) := by decide +kernel
theorem dX7_begin_17 : decode cX7_begin 17 = .ok (.iload_n 2, 1) := by decide +kernel
theorem dX7_begin_18 : decode cX7_begin 18 = .ok (.invokevirtual 25, 3) := by decide +kernel
theorem dX7_begin_21 : decode cX7_begin 21 = .ok (.astore_n 3, 1) := by decide +kernel
theorem dX7_begin_22 : decode cX7_begin 22 = .ok (.aload_n 0, 1) := by decide +kernel
theorem dX7_begin_23 : decode cX7_begin 23 = .ok (.getfield 9, 3) := by decide +kernel
theorem dX7_begin_26 : decode cX7_begin 26 = .ok (.iload_n 2, 1) := by decide +kernel
theorem dX7_begin_27 : decode cX7_begin 27 = .ok (.aload_n 3, 1) := by decide +kernel
theorem dX7_begin_28 : decode cX7_begin 28 = .ok (.ifnonnull 7, 3) := by decide +kernel
theorem dX7_begin_31 : decode cX7_begin 31 = .ok (.iconst 0, 1) := by decide +kernel
theorem dX7_begin_32 : decode cX7_begin 32 = .ok (.goto 7, 3) := by decide +kernel
theorem dX7_begin_35 : decode cX7_begin 35 = .ok (.aload_n 3, 1) := by decide +kernel
theorem dX7_begin_36 : decode cX7_begin 36 = .ok (.getfield 31, 3) := by decide +kernel
theorem dX7_begin_39 : decode cX7_begin 39 = .ok (.iastore, 1) := by decide +kernel
theorem dX7_begin_40 : decode cX7_begin 40 = .ok (.iinc 2 1, 3) := by decide +kernel
theorem dX7_begin_43 : decode cX7_begin 43 = .ok (.goto (-36), 3) := by decide +kernel
theorem dX7_begin_46 : decode cX7_begin 46 = .ok (.iconst 0, 1) := by decide +kernel
theorem dX7_begin_47 : decode cX7_begin 47 = .ok (.istore_n 2, 1) := by decide +kernel
theorem dX7_begin_48 : decode cX7_begin 48 = .ok (.iload_n 2, 1) := by decide +kernel
theorem dX7_begin_49 : decode cX7_begin 49 = .ok (.aload_n 0, 1) := by decide +kernel
theorem dX7_begin_50 : decode cX7_begin 50 = .ok (.getfield 15, 3) := by decide +kernel
theorem dX7_begin_53 : decode cX7_begin 53 = .ok (.arraylength, 1) := by decide +kernel
theorem dX7_begin_54 : decode cX7_begin 54 = .ok (.if_icmp .ge 16, 3) := by decide +kernel
theorem dX7_begin_57 : decode cX7_begin 57 = .ok (.aload_n 0, 1) := by decide +kernel
theorem dX7_begin_58 : decode cX7_begin 58 = .ok (.getfield 15, 3) := by decide +kernel
theorem dX7_begin_61 : decode cX7_begin 61 = .ok (.iload_n 2, 1) := by decide +kernel
theorem dX7_begin_62 : decode cX7_begin 62 = .ok (.iconst (-1), 1) := by decide +kernel
theorem dX7_begin_63 : decode cX7_begin 63 = .ok (.iastore, 1) := by decide +kernel
theorem dX7_begin_64 : decode cX7_begin 64 = .ok (.iinc 2 1, 3) := by decide +kernel
theorem dX7_begin_67 : decode cX7_begin 67 = .ok (.goto (-19), 3) := by decide +kernel
theorem dX7_begin_70 : decode cX7_begin 70 = .ok (.aload_n 0, 1) := by decide +kernel
theorem dX7_begin_71 : decode cX7_begin 71 = .ok (.getfield 21, 3) := by decide +kernel
theorem dX7_begin_74 : decode cX7_begin 74 = .ok (.invokevirtual 37, 3) := by decide +kernel
theorem dX7_begin_77 : decode cX7_begin 77 = .ok (.aload_n 0, 1) := by decide +kernel
theorem dX7_begin_78 : decode cX7_begin 78 = .ok (.iconst 0, 1) := by decide +kernel
theorem dX7_begin_79 : decode cX7_begin 79 = .ok (.putfield 40, 3) := by decide +kernel
theorem dX7_begin_82 : decode cX7_begin 82 = .ok (.aload_n 0, 1) := by decide +kernel
theorem dX7_begin_83 : decode cX7_begin 83 = .ok (.iconst 0, 1) := by decide +kernel
theorem dX7_begin_84 : decode cX7_begin 84 = .ok (.putfield 43, 3) := by decide +kernel
theorem dX7_begin_87 : decode cX7_begin 87 = .ok (.return_, 1) := by decide +kernel
theorem dX7_copyFrom_0 : decode cX7_copyFrom 0 = .ok (.aload_n 1, 1) := by decide +kernel
theorem dX7_copyFrom_1 : decode cX7_copyFrom 1 = .ok (.ifnonnull 4, 3) := by decide +kernel
theorem dX7_copyFrom_4 : decode cX7_copyFrom 4 = .ok (.return_, 1) := by decide +kernel
theorem dX7_copyFrom_5 : decode cX7_copyFrom 5 = .ok (.iconst 0, 1) := by decide +kernel
theorem dX7_copyFrom_6 : decode cX7_copyFrom 6 = .ok (.istore_n 2, 1) := by decide +kernel
theorem dX7_copyFrom_7 : decode cX7_copyFrom 7 = .ok (.iload_n 2, 1) := by decide +kernel
theorem dX7_copyFrom_8 : decode cX7_copyFrom 8 = .ok (.aload_n 0, 1) := by decide +kernel
theorem dX7_copyFrom_9 : decode cX7_copyFrom 9 = .ok (.getfield 9, 3) := by decide +kernel
theorem dX7_copyFrom_12 : decode cX7_copyFrom 12 = .ok (.arraylength, 1) := by decide +kernel
theorem dX7_copyFrom_13 : decode cX7_copyFrom 13 = .ok (.if_icmp .ge 20, 3) := by decide +kernel
theorem dX7_copyFrom_16 : decode cX7_copyFrom 16 = .ok (.aload_n 0, 1) := by decide +kernel
theorem dX7_copyFrom_17 : decode cX7_copyFrom 17 = .ok (.getfield 9, 3) := by decide +kernel
theorem dX7_copyFrom_20 : decode cX7_copyFrom 20 = .ok (.iload_n 2, 1) := by decide +kernel
theorem dX7_copyFrom_21 : decode cX7_copyFrom 21 = .ok (.aload_n 1, 1) := by decide +kernel
theorem dX7_copyFrom_22 : decode cX7_copyFrom 22 = .ok (.iload_n 2, 1) := by decide +kernel
theorem dX7_copyFrom_23 : decode cX7_copyFrom 23 = .ok (.invokevirtual 46, 3) := by decide +kernel
theorem dX7_copyFrom_26 : decode cX7_copyFrom 26 = .ok (.iastore, 1) := by decide +kernel
theorem dX7_copyFrom_27 : decode cX7_copyFrom 27 = .ok (.iinc 2 1, 3) := by decide +kernel
theorem dX7_copyFrom_30 : decode cX7_copyFrom 30 = .ok (.goto (-23), 3) := by decide +kernel
theorem dX7_copyFrom_33 : decode cX7_copyFrom 33 = .ok (.iconst 0, 1) := by decide +kernel
theorem dX7_copyFrom_34 : decode cX7_copyFrom 34 = .ok (.istore_n 2, 1) := by decide +kernel
theorem dX7_copyFrom_35 : decode cX7_copyFrom 35 = .ok (.iload_n 2, 1) := by decide +kernel
theorem dX7_copyFrom_36 : decode cX7_copyFrom 36 = .ok (.aload_n 0, 1) := by decide +kernel
theorem dX7_copyFrom_37 : decode cX7_copyFrom 37 = .ok (.getfield 15, 3) := by decide +kernel
theorem dX7_copyFrom_40 : decode cX7_copyFrom 40 = .ok (.arraylength, 1) := by decide +kernel
theorem dX7_copyFrom_41 : decode cX7_copyFrom 41 = .ok (.if_icmp .ge 20, 3) := by decide +kernel
theorem dX7_copyFrom_44 : decode cX7_copyFrom 44 = .ok (.aload_n 0, 1) := by decide +kernel
theorem dX7_copyFrom_45 : decode cX7_copyFrom 45 = .ok (.getfield 15, 3) := by decide +kernel
theorem dX7_copyFrom_48 : decode cX7_copyFrom 48 = .ok (.iload_n 2, 1) := by decide +kernel
theorem dX7_copyFrom_49 : decode cX7_copyFrom 49 = .ok (.aload_n 1, 1) := by decide +kernel
theorem dX7_copyFrom_50 : decode cX7_copyFrom 50 = .ok (.iload_n 2, 1) := by decide +kernel
theorem dX7_copyFrom_51 : decode cX7_copyFrom 51 = .ok (.invokevirtual 50, 3) := by decide +kernel
theorem dX7_copyFrom_54 : decode cX7_copyFrom 54 = .ok (.iastore, 1) := by decide +kernel
theorem dX7_copyFrom_55 : decode cX7_copyFrom 55 = .ok (.iinc 2 1, 3) := by decide +kernel
theorem dX7_copyFrom_58 : decode cX7_copyFrom 58 = .ok (.goto (-23), 3) := by decide +kernel
theorem dX7_copyFrom_61 : decode cX7_copyFrom 61 = .ok (.aload_n 0, 1) := by decide +kernel
theorem dX7_copyFrom_62 : decode cX7_copyFrom 62 = .ok (.getfield 21, 3) := by decide +kernel
theorem dX7_copyFrom_65 : decode cX7_copyFrom 65 = .ok (.aload_n 1, 1) := by decide +kernel
theorem dX7_copyFrom_66 : decode cX7_copyFrom 66 = .ok (.getfield 21, 3) := by decide +kernel
theorem dX7_copyFrom_69 : decode cX7_copyFrom 69 = .ok (.invokevirtual 53, 3) := by decide +kernel
theorem dX7_copyFrom_72 : decode cX7_copyFrom 72 = .ok (.aload_n 0, 1) := by decide +kernel
theorem dX7_copyFrom_73 : decode cX7_copyFrom 73 = .ok (.aload_n 1, 1) := by decide +kernel
theorem dX7_copyFrom_74 : decode cX7_copyFrom 74 = .ok (.getfield 40, 3) := by decide +kernel
theorem dX7_copyFrom_77 : decode cX7_copyFrom 77 = .ok (.putfield 40, 3) := by decide +kernel
theorem dX7_copyFrom_80 : decode cX7_copyFrom 80 = .ok (.aload_n 0, 1) := by decide +kernel
theorem dX7_copyFrom_81 : decode cX7_copyFrom 81 = .ok (.aload_n 1, 1) := by decide +kernel
theorem dX7_copyFrom_82 : decode cX7_copyFrom 82 = .ok (.getfield 43, 3) := by decide +kernel
theorem dX7_copyFrom_85 : decode cX7_copyFrom 85 = .ok (.putfield 43, 3) := by decide +kernel
theorem dX7_copyFrom_88 : decode cX7_copyFrom 88 = .ok (.return_, 1) := by decide +kernel
theorem dX7_sizeOf_0 : decode cX7_sizeOf 0 = .ok (.iload_n 1, 1) := by decide +kernel
theorem dX7_sizeOf_1 : decode cX7_sizeOf 1 = .ok (.ifCond .lt 21, 3) := by decide +kernel
theorem dX7_sizeOf_4 : decode cX7_sizeOf 4 = .ok (.iload_n 1, 1) := by decide +kernel
theorem dX7_sizeOf_5 : decode cX7_sizeOf 5 = .ok (.aload_n 0, 1) := by decide +kernel
theorem dX7_sizeOf_6 : decode cX7_sizeOf 6 = .ok (.getfield 9, 3) := by decide +kernel
theorem dX7_sizeOf_9 : decode cX7_sizeOf 9 = .ok (.arraylength, 1) := by decide +kernel
theorem dX7_sizeOf_10 : decode cX7_sizeOf 10 = .ok (.if_icmp .ge 12, 3) := by decide +kernel
theorem dX7_sizeOf_13 : decode cX7_sizeOf 13 = .ok (.aload_n 0, 1) := by decide +kernel
theorem dX7_sizeOf_14 : decode cX7_sizeOf 14 = .ok (.getfield 9, 3) := by decide +kernel
theorem dX7_sizeOf_17 : decode cX7_sizeOf 17 = .ok (.iload_n 1, 1) := by decide +kernel
theorem dX7_sizeOf_18 : decode cX7_sizeOf 18 = .ok (.iaload, 1) := by decide +kernel
theorem dX7_sizeOf_19 : decode cX7_sizeOf 19 = .ok (.goto 4, 3) := by decide +kernel
theorem dX7_sizeOf_22 : decode cX7_sizeOf 22 = .ok (.iconst 0, 1) := by decide +kernel
theorem dX7_sizeOf_23 : decode cX7_sizeOf 23 = .ok (.ireturn, 1) := by decide +kernel
theorem dX7_resize_0 : decode cX7_resize 0 = .ok (.iload_n 1, 1) := by decide +kernel
theorem dX7_resize_1 : decode cX7_resize 1 = .ok (.ifCond .lt 19, 3) := by decide +kernel
theorem dX7_resize_4 : decode cX7_resize 4 = .ok (.iload_n 1, 1) := by decide +kernel
theorem dX7_resize_5 : decode cX7_resize 5 = .ok (.aload_n 0, 1) := by decide +kernel
theorem dX7_resize_6 : decode cX7_resize 6 = .ok (.getfield 9, 3) := by decide +kernel
theorem dX7_resize_9 : decode cX7_resize 9 = .ok (.arraylength, 1) := by decide +kernel
theorem dX7_resize_10 : decode cX7_resize 10 = .ok (.if_icmp .ge 10, 3) := by decide +kernel
theorem dX7_resize_13 : decode cX7_resize 13 = .ok (.aload_n 0, 1) := by decide +kernel
theorem dX7_resize_14 : decode cX7_resize 14 = .ok (.getfield 9, 3) := by decide +kernel
theorem dX7_resize_17 : decode cX7_resize 17 = .ok (.iload_n 1, 1) := by decide +kernel
theorem dX7_resize_18 : decode cX7_resize 18 = .ok (.iload_n 2, 1) := by decide +kernel
theorem dX7_resize_19 : decode cX7_resize 19 = .ok (.iastore, 1) := by decide +kernel
theorem dX7_resize_20 : decode cX7_resize 20 = .ok (.return_, 1) := by decide +kernel
theorem dX7_crimeOn_0 : decode cX7_crimeOn 0 = .ok (.iload_n 1, 1) := by decide +kernel
theorem dX7_crimeOn_1 : decode cX7_crimeOn 1 = .ok (.ifCond .lt 21, 3) := by decide +kernel
theorem dX7_crimeOn_4 : decode cX7_crimeOn 4 = .ok (.iload_n 1, 1) := by decide +kernel
theorem dX7_crimeOn_5 : decode cX7_crimeOn 5 = .ok (.aload_n 0, 1) := by decide +kernel
end
section
theorem dX7_crimeOn_6 : decode cX7_crimeOn 6 = .ok (.getfield 15, 3) := by decide +kernel
theorem dX7_crimeOn_9 : decode cX7_crimeOn 9 = .ok (.arraylength, 1) := by decide +kernel
theorem dX7_crimeOn_10 : decode cX7_crimeOn 10 = .ok (.if_icmp .ge 12, 3) := by decide +kernel
theorem dX7_crimeOn_13 : decode cX7_crimeOn 13 = .ok (.aload_n 0, 1) := by decide +kernel
theorem dX7_crimeOn_14 : decode cX7_crimeOn 14 = .ok (.getfield 15, 3) := by decide +kernel
theorem dX7_crimeOn_17 : decode cX7_crimeOn 17 = .ok (.iload_n 1, 1) := by decide +kernel
theorem dX7_crimeOn_18 : decode cX7_crimeOn 18 = .ok (.iaload, 1) := by decide +kernel
theorem dX7_crimeOn_19 : decode cX7_crimeOn 19 = .ok (.goto 4, 3) := by decide +kernel
theorem dX7_crimeOn_22 : decode cX7_crimeOn 22 = .ok (.iconst (-1), 1) := by decide +kernel
theorem dX7_crimeOn_23 : decode cX7_crimeOn 23 = .ok (.ireturn, 1) := by decide +kernel
theorem dX7_hangsOn_0 : decode cX7_hangsOn 0 = .ok (.iconst 0, 1) := by decide +kernel
theorem dX7_hangsOn_1 : decode cX7_hangsOn 1 = .ok (.istore_n 2, 1) := by decide +kernel
theorem dX7_hangsOn_2 : decode cX7_hangsOn 2 = .ok (.iload_n 2, 1) := by decide +kernel
theorem dX7_hangsOn_3 : decode cX7_hangsOn 3 = .ok (.aload_n 0, 1) := by decide +kernel
theorem dX7_hangsOn_4 : decode cX7_hangsOn 4 = .ok (.getfield 15, 3) := by decide +kernel
theorem dX7_hangsOn_7 : decode cX7_hangsOn 7 = .ok (.arraylength, 1) := by decide +kernel
theorem dX7_hangsOn_8 : decode cX7_hangsOn 8 = .ok (.if_icmp .ge 21, 3) := by decide +kernel
theorem dX7_hangsOn_11 : decode cX7_hangsOn 11 = .ok (.aload_n 0, 1) := by decide +kernel
theorem dX7_hangsOn_12 : decode cX7_hangsOn 12 = .ok (.getfield 15, 3) := by decide +kernel
theorem dX7_hangsOn_15 : decode cX7_hangsOn 15 = .ok (.iload_n 2, 1) := by decide +kernel
theorem dX7_hangsOn_16 : decode cX7_hangsOn 16 = .ok (.iaload, 1) := by decide +kernel
theorem dX7_hangsOn_17 : decode cX7_hangsOn 17 = .ok (.iload_n 1, 1) := by decide +kernel
theorem dX7_hangsOn_18 : decode cX7_hangsOn 18 = .ok (.if_icmp .ne 5, 3) := by decide +kernel
theorem dX7_hangsOn_21 : decode cX7_hangsOn 21 = .ok (.iload_n 2, 1) := by decide +kernel
theorem dX7_hangsOn_22 : decode cX7_hangsOn 22 = .ok (.ireturn, 1) := by decide +kernel
theorem dX7_hangsOn_23 : decode cX7_hangsOn 23 = .ok (.iinc 2 1, 3) := by decide +kernel
theorem dX7_hangsOn_26 : decode cX7_hangsOn 26 = .ok (.goto (-24), 3) := by decide +kernel
theorem dX7_hangsOn_29 : decode cX7_hangsOn 29 = .ok (.iconst (-1), 1) := by decide +kernel
theorem dX7_hangsOn_30 : decode cX7_hangsOn 30 = .ok (.ireturn, 1) := by decide +kernel
theorem dX7_hang_0 : decode cX7_hang 0 = .ok (.iload_n 1, 1) := by decide +kernel
theorem dX7_hang_1 : decode cX7_hang 1 = .ok (.ifCond .lt 19, 3) := by decide +kernel
theorem dX7_hang_4 : decode cX7_hang 4 = .ok (.iload_n 1, 1) := by decide +kernel
theorem dX7_hang_5 : decode cX7_hang 5 = .ok (.aload_n 0, 1) := by decide +kernel
theorem dX7_hang_6 : decode cX7_hang 6 = .ok (.getfield 15, 3) := by decide +kernel
theorem dX7_hang_9 : decode cX7_hang 9 = .ok (.arraylength, 1) := by decide +kernel
theorem dX7_hang_10 : decode cX7_hang 10 = .ok (.if_icmp .ge 10, 3) := by decide +kernel
theorem dX7_hang_13 : decode cX7_hang 13 = .ok (.aload_n 0, 1) := by decide +kernel
theorem dX7_hang_14 : decode cX7_hang 14 = .ok (.getfield 15, 3) := by decide +kernel
theorem dX7_hang_17 : decode cX7_hang 17 = .ok (.iload_n 1, 1) := by decide +kernel
theorem dX7_hang_18 : decode cX7_hang 18 = .ok (.iload_n 2, 1) := by decide +kernel
theorem dX7_hang_19 : decode cX7_hang 19 = .ok (.iastore, 1) := by decide +kernel
theorem dX7_hang_20 : decode cX7_hang 20 = .ok (.return_, 1) := by decide +kernel
theorem dX7_hanging_0 : decode cX7_hanging 0 = .ok (.iconst 0, 1) := by decide +kernel
theorem dX7_hanging_1 : decode cX7_hanging 1 = .ok (.istore_n 1, 1) := by decide +kernel
theorem dX7_hanging_2 : decode cX7_hanging 2 = .ok (.iconst 0, 1) := by decide +kernel
theorem dX7_hanging_3 : decode cX7_hanging 3 = .ok (.istore_n 2, 1) := by decide +kernel
theorem dX7_hanging_4 : decode cX7_hanging 4 = .ok (.iload_n 2, 1) := by decide +kernel
theorem dX7_hanging_5 : decode cX7_hanging 5 = .ok (.aload_n 0, 1) := by decide +kernel
theorem dX7_hanging_6 : decode cX7_hanging 6 = .ok (.getfield 15, 3) := by decide +kernel
theorem dX7_hanging_9 : decode cX7_hanging 9 = .ok (.arraylength, 1) := by decide +kernel
theorem dX7_hanging_10 : decode cX7_hanging 10 = .ok (.if_icmp .ge 22, 3) := by decide +kernel
theorem dX7_hanging_13 : decode cX7_hanging 13 = .ok (.aload_n 0, 1) := by decide +kernel
theorem dX7_hanging_14 : decode cX7_hanging 14 = .ok (.getfield 15, 3) := by decide +kernel
theorem dX7_hanging_17 : decode cX7_hanging 17 = .ok (.iload_n 2, 1) := by decide +kernel
theorem dX7_hanging_18 : decode cX7_hanging 18 = .ok (.iaload, 1) := by decide +kernel
theorem dX7_hanging_19 : decode cX7_hanging 19 = .ok (.iconst (-1), 1) := by decide +kernel
theorem dX7_hanging_20 : decode cX7_hanging 20 = .ok (.if_icmp .eq 6, 3) := by decide +kernel
theorem dX7_hanging_23 : decode cX7_hanging 23 = .ok (.iinc 1 1, 3) := by decide +kernel
theorem dX7_hanging_26 : decode cX7_hanging 26 = .ok (.iinc 2 1, 3) := by decide +kernel
theorem dX7_hanging_29 : decode cX7_hanging 29 = .ok (.goto (-25), 3) := by decide +kernel
theorem dX7_hanging_32 : decode cX7_hanging 32 = .ok (.iload_n 1, 1) := by decide +kernel
theorem dX7_hanging_33 : decode cX7_hanging 33 = .ok (.ireturn, 1) := by decide +kernel
theorem dX8_init_0 : decode cX8_init 0 = .ok (.aload_n 0, 1) := by decide +kernel
theorem dX8_init_1 : decode cX8_init 1 = .ok (.iload_n 1, 1) := by decide +kernel
theorem dX8_init_2 : decode cX8_init 2 = .ok (.iload_n 2, 1) := by decide +kernel
theorem dX8_init_3 : decode cX8_init 3 = .ok (.invokespecial 3, 3) := by decide +kernel
theorem dX8_init_6 : decode cX8_init 6 = .ok (.return_, 1) := by decide +kernel
theorem dX8_kind_0 : decode cX8_kind 0 = .ok (.iconst 1, 1) := by decide +kernel
theorem dX8_kind_1 : decode cX8_kind 1 = .ok (.ireturn, 1) := by decide +kernel
theorem dX8_bears_0 : decode cX8_bears 0 = .ok (.iconst 2, 1) := by decide +kernel
theorem dX8_bears_1 : decode cX8_bears 1 = .ok (.ireturn, 1) := by decide +kernel
theorem dX9_init_0 : decode cX9_init 0 = .ok (.aload_n 0, 1) := by decide +kernel
theorem dX9_init_1 : decode cX9_init 1 = .ok (.iload_n 1, 1) := by decide +kernel
theorem dX9_init_2 : decode cX9_init 2 = .ok (.iload_n 2, 1) := by decide +kernel
theorem dX9_init_3 : decode cX9_init 3 = .ok (.invokespecial 3, 3) := by decide +kernel
theorem dX9_init_6 : decode cX9_init 6 = .ok (.return_, 1) := by decide +kernel
theorem dX9_kind_0 : decode cX9_kind 0 = .ok (.iconst 4, 1) := by decide +kernel
theorem dX9_kind_1 : decode cX9_kind 1 = .ok (.ireturn, 1) := by decide +kernel
theorem dX9_hasHandLike_0 : decode cX9_hasHandLike 0 = .ok (.iconst 1, 1) := by decide +kernel
theorem dX9_hasHandLike_1 : decode cX9_hasHandLike 1 = .ok (.ireturn, 1) := by decide +kernel
theorem dX10_init_0 : decode cX10_init 0 = .ok (.aload_n 0, 1) := by decide +kernel
theorem dX10_init_1 : decode cX10_init 1 = .ok (.invokespecial 3, 3) := by decide +kernel
theorem dX10_init_4 : decode cX10_init 4 = .ok (.aload_n 0, 1) := by decide +kernel
theorem dX10_init_5 : decode cX10_init 5 = .ok (.bipush 6, 2) := by decide +kernel
theorem dX10_init_7 : decode cX10_init 7 = .ok (.newarray .int, 2) := by decide +kernel
theorem dX10_init_9 : decode cX10_init 9 = .ok (.putfield 9, 3) := by decide +kernel
theorem dX10_init_12 : decode cX10_init 12 = .ok (.aload_n 0, 1) := by decide +kernel
theorem dX10_init_13 : decode cX10_init 13 = .ok (.bipush 6, 2) := by decide +kernel
theorem dX10_init_15 : decode cX10_init 15 = .ok (.newarray .int, 2) := by decide +kernel
theorem dX10_init_17 : decode cX10_init 17 = .ok (.putfield 15, 3) := by decide +kernel
theorem dX10_init_20 : decode cX10_init 20 = .ok (.aload_n 0, 1) := by decide +kernel
theorem dX10_init_21 : decode cX10_init 21 = .ok (.bipush 6, 2) := by decide +kernel
theorem dX10_init_23 : decode cX10_init 23 = .ok (.newarray .int, 2) := by decide +kernel
theorem dX10_init_25 : decode cX10_init 25 = .ok (.putfield 18, 3) := by decide +kernel
theorem dX10_init_28 : decode cX10_init 28 = .ok (.aload_n 0, 1) := by decide +kernel
theorem dX10_init_29 : decode cX10_init 29 = .ok (.bipush 6, 2) := by decide +kernel
theorem dX10_init_31 : decode cX10_init 31 = .ok (.newarray .boolean, 2) := by decide +kernel
theorem dX10_init_33 : decode cX10_init 33 = .ok (.putfield 21, 3) := by decide +kernel
theorem dX10_init_36 : decode cX10_init 36 = .ok (.return_, 1) := by decide +kernel
theorem dX10_many_0 : decode cX10_many 0 = .ok (.aload_n 0, 1) := by decide +kernel
theorem dX10_many_1 : decode cX10_many 1 = .ok (.getfield 25, 3) := by decide +kernel
theorem dX10_many_4 : decode cX10_many 4 = .ok (.ireturn, 1) := by decide +kernel
theorem dX10_isFull_0 : decode cX10_isFull 0 = .ok (.aload_n 0, 1) := by decide +kernel
theorem dX10_isFull_1 : decode cX10_isFull 1 = .ok (.getfield 25, 3) := by decide +kernel
theorem dX10_isFull_4 : decode cX10_isFull 4 = .ok (.bipush 6, 2) := by decide +kernel
theorem dX10_isFull_6 : decode cX10_isFull 6 = .ok (.if_icmp .lt 7, 3) := by decide +kernel
theorem dX10_isFull_9 : decode cX10_isFull 9 = .ok (.iconst 1, 1) := by decide +kernel
theorem dX10_isFull_10 : decode cX10_isFull 10 = .ok (.goto 4, 3) := by decide +kernel
theorem dX10_isFull_13 : decode cX10_isFull 13 = .ok (.iconst 0, 1) := by decide +kernel
theorem dX10_isFull_14 : decode cX10_isFull 14 = .ok (.ireturn, 1) := by decide +kernel
theorem dX10_add_0 : decode cX10_add 0 = .ok (.aload_n 0, 1) := by decide +kernel
theorem dX10_add_1 : decode cX10_add 1 = .ok (.getfield 25, 3) := by decide +kernel
theorem dX10_add_4 : decode cX10_add 4 = .ok (.ifCond .lt 12, 3) := by decide +kernel
theorem dX10_add_7 : decode cX10_add 7 = .ok (.aload_n 0, 1) := by decide +kernel
theorem dX10_add_8 : decode cX10_add 8 = .ok (.getfield 25, 3) := by decide +kernel
theorem dX10_add_11 : decode cX10_add 11 = .ok (.bipush 6, 2) := by decide +kernel
theorem dX10_add_13 : decode cX10_add 13 = .ok (.if_icmp .lt 4, 3) := by decide +kernel
theorem dX10_add_16 : decode cX10_add 16 = .ok (.return_, 1) := by decide +kernel
theorem dX10_add_17 : decode cX10_add 17 = .ok (.aload_n 0, 1) := by decide +kernel
theorem dX10_add_18 : decode cX10_add 18 = .ok (.getfield 9, 3) := by decide +kernel
theorem dX10_add_21 : decode cX10_add 21 = .ok (.aload_n 0, 1) := by decide +kernel
theorem dX10_add_22 : decode cX10_add 22 = .ok (.getfield 25, 3) := by decide +kernel
theorem dX10_add_25 : decode cX10_add 25 = .ok (.iload_n 1, 1) := by decide +kernel
theorem dX10_add_26 : decode cX10_add 26 = .ok (.iastore, 1) := by decide +kernel
theorem dX10_add_27 : decode cX10_add 27 = .ok (.aload_n 0, 1) := by decide +kernel
theorem dX10_add_28 : decode cX10_add 28 = .ok (.getfield 15, 3) := by decide +kernel
theorem dX10_add_31 : decode cX10_add 31 = .ok (.aload_n 0, 1) := by decide +kernel
theorem dX10_add_32 : decode cX10_add 32 = .ok (.getfield 25, 3) := by decide +kernel
theorem dX10_add_35 : decode cX10_add 35 = .ok (.iload_n 2, 1) := by decide +kernel
theorem dX10_add_36 : decode cX10_add 36 = .ok (.iastore, 1) := by decide +kernel
theorem dX10_add_37 : decode cX10_add 37 = .ok (.aload_n 0, 1) := by decide +kernel
theorem dX10_add_38 : decode cX10_add 38 = .ok (.getfield 18, 3) := by decide +kernel
theorem dX10_add_41 : decode cX10_add 41 = .ok (.aload_n 0, 1) := by decide +kernel
theorem dX10_add_42 : decode cX10_add 42 = .ok (.getfield 25, 3) := by decide +kernel
theorem dX10_add_45 : decode cX10_add 45 = .ok (.iload_n 3, 1) := by decide +kernel
theorem dX10_add_46 : decode cX10_add 46 = .ok (.iastore, 1) := by decide +kernel
theorem dX10_add_47 : decode cX10_add 47 = .ok (.aload_n 0, 1) := by decide +kernel
theorem dX10_add_48 : decode cX10_add 48 = .ok (.getfield 21, 3) := by decide +kernel
theorem dX10_add_51 : decode cX10_add 51 = .ok (.aload_n 0, 1) := by decide +kernel
theorem dX10_add_52 : decode cX10_add 52 = .ok (.getfield 25, 3) := by decide +kernel
theorem dX10_add_55 : decode cX10_add 55 = .ok (.iload 4, 2) := by decide +kernel
theorem dX10_add_57 : decode cX10_add 57 = .ok (.bastore, 1) := by decide +kernel
theorem dX10_add_58 : decode cX10_add 58 = .ok (.aload_n 0, 1) := by decide +kernel
theorem dX10_add_59 : decode cX10_add 59 = .ok (.dup, 1) := by decide +kernel
theorem dX10_add_60 : decode cX10_add 60 = .ok (.getfield 25, 3) := by decide +kernel
theorem dX10_add_63 : decode cX10_add 63 = .ok (.iconst 1, 1) := by decide +kernel
theorem dX10_add_64 : decode cX10_add 64 = .ok (.iadd, 1) := by decide +kernel
theorem dX10_add_65 : decode cX10_add 65 = .ok (.putfield 25, 3) := by decide +kernel
theorem dX10_add_68 : decode cX10_add 68 = .ok (.return_, 1) := by decide +kernel
theorem dX10_clear_0 : decode cX10_clear 0 = .ok (.aload_n 0, 1) := by decide +kernel
theorem dX10_clear_1 : decode cX10_clear 1 = .ok (.iconst 0, 1) := by decide +kernel
theorem dX10_clear_2 : decode cX10_clear 2 = .ok (.putfield 25, 3) := by decide +kernel
theorem dX10_clear_5 : decode cX10_clear 5 = .ok (.return_, 1) := by decide +kernel
theorem dX10_copyFrom_0 : decode cX10_copyFrom 0 = .ok (.aload_n 1, 1) := by decide +kernel
theorem dX10_copyFrom_1 : decode cX10_copyFrom 1 = .ok (.ifnonnull 4, 3) := by decide +kernel
theorem dX10_copyFrom_4 : decode cX10_copyFrom 4 = .ok (.return_, 1) := by decide +kernel
theorem dX10_copyFrom_5 : decode cX10_copyFrom 5 = .ok (.aload_n 0, 1) := by decide +kernel
theorem dX10_copyFrom_6 : decode cX10_copyFrom 6 = .ok (.invokevirtual 29, 3) := by decide +kernel
theorem dX10_copyFrom_9 : decode cX10_copyFrom 9 = .ok (.iconst 0, 1) := by decide +kernel
theorem dX10_copyFrom_10 : decode cX10_copyFrom 10 = .ok (.istore_n 2, 1) := by decide +kernel
theorem dX10_copyFrom_11 : decode cX10_copyFrom 11 = .ok (.iload_n 2, 1) := by decide +kernel
theorem dX10_copyFrom_12 : decode cX10_copyFrom 12 = .ok (.aload_n 1, 1) := by decide +kernel
theorem dX10_copyFrom_13 : decode cX10_copyFrom 13 = .ok (.getfield 25, 3) := by decide +kernel
theorem dX10_copyFrom_16 : decode cX10_copyFrom 16 = .ok (.if_icmp .ge 43, 3) := by decide +kernel
theorem dX10_copyFrom_19 : decode cX10_copyFrom 19 = .ok (.iload_n 2, 1) := by decide +kernel
theorem dX10_copyFrom_20 : decode cX10_copyFrom 20 = .ok (.bipush 6, 2) := by decide +kernel
theorem dX10_copyFrom_22 : decode cX10_copyFrom 22 = .ok (.if_icmp .ge 37, 3) := by decide +kernel
theorem dX10_copyFrom_25 : decode cX10_copyFrom 25 = .ok (.aload_n 0, 1) := by decide +kernel
theorem dX10_copyFrom_26 : decode cX10_copyFrom 26 = .ok (.aload_n 1, 1) := by decide +kernel
theorem dX10_copyFrom_27 : decode cX10_copyFrom 27 = .ok (.getfield 9, 3) := by decide +kernel
theorem dX10_copyFrom_30 : decode cX10_copyFrom 30 = .ok (.iload_n 2, 1) := by decide +kernel
theorem dX10_copyFrom_31 : decode cX10_copyFrom 31 = .ok (.iaload, 1) := by decide +kernel
theorem dX10_copyFrom_32 : decode cX10_copyFrom 32 = .ok (.aload_n 1, 1) := by decide +kernel
theorem dX10_copyFrom_33 : decode cX10_copyFrom 33 = .ok (.getfield 15, 3) := by decide +kernel
theorem dX10_copyFrom_36 : decode cX10_copyFrom 36 = .ok (.iload_n 2, 1) := by decide +kernel
theorem dX10_copyFrom_37 : decode cX10_copyFrom 37 = .ok (.iaload, 1) := by decide +kernel
theorem dX10_copyFrom_38 : decode cX10_copyFrom 38 = .ok (.aload_n 1, 1) := by decide +kernel
theorem dX10_copyFrom_39 : decode cX10_copyFrom 39 = .ok (.getfield 18, 3) := by decide +kernel
theorem dX10_copyFrom_42 : decode cX10_copyFrom 42 = .ok (.iload_n 2, 1) := by decide +kernel
theorem dX10_copyFrom_43 : decode cX10_copyFrom 43 = .ok (.iaload, 1) := by decide +kernel
theorem dX10_copyFrom_44 : decode cX10_copyFrom 44 = .ok (.aload_n 1, 1) := by decide +kernel
theorem dX10_copyFrom_45 : decode cX10_copyFrom 45 = .ok (.getfield 21, 3) := by decide +kernel
theorem dX10_copyFrom_48 : decode cX10_copyFrom 48 = .ok (.iload_n 2, 1) := by decide +kernel
theorem dX10_copyFrom_49 : decode cX10_copyFrom 49 = .ok (.baload, 1) := by decide +kernel
theorem dX10_copyFrom_50 : decode cX10_copyFrom 50 = .ok (.invokevirtual 32, 3) := by decide +kernel
theorem dX10_copyFrom_53 : decode cX10_copyFrom 53 = .ok (.iinc 2 1, 3) := by decide +kernel
theorem dX10_copyFrom_56 : decode cX10_copyFrom 56 = .ok (.goto (-45), 3) := by decide +kernel
theorem dX10_copyFrom_59 : decode cX10_copyFrom 59 = .ok (.return_, 1) := by decide +kernel
theorem dX10_allow_0 : decode cX10_allow 0 = .ok (.aload_n 2, 1) := by decide +kernel
theorem dX10_allow_1 : decode cX10_allow 1 = .ok (.ifnonnull 5, 3) := by decide +kernel
theorem dX10_allow_4 : decode cX10_allow 4 = .ok (.iconst 0, 1) := by decide +kernel
theorem dX10_allow_5 : decode cX10_allow 5 = .ok (.ireturn, 1) := by decide +kernel
theorem dX10_allow_6 : decode cX10_allow 6 = .ok (.iconst 0, 1) := by decide +kernel
theorem dX10_allow_7 : decode cX10_allow 7 = .ok (.istore 4, 2) := by decide +kernel
theorem dX10_allow_9 : decode cX10_allow 9 = .ok (.iload 4, 2) := by decide +kernel
theorem dX10_allow_11 : decode cX10_allow 11 = .ok (.aload_n 0, 1) := by decide +kernel
theorem dX10_allow_12 : decode cX10_allow 12 = .ok (.getfield 25, 3) := by decide +kernel
theorem dX10_allow_15 : decode cX10_allow 15 = .ok (.if_icmp .ge 70, 3) := by decide +kernel
theorem dX10_allow_18 : decode cX10_allow 18 = .ok (.iload 4, 2) := by decide +kernel
theorem dX10_allow_20 : decode cX10_allow 20 = .ok (.bipush 6, 2) := by decide +kernel
theorem dX10_allow_22 : decode cX10_allow 22 = .ok (.if_icmp .ge 63, 3) := by decide +kernel
theorem dX10_allow_25 : decode cX10_allow 25 = .ok (.aload_n 0, 1) := by decide +kernel
theorem dX10_allow_26 : decode cX10_allow 26 = .ok (.getfield 9, 3) := by decide +kernel
theorem dX10_allow_29 : decode cX10_allow 29 = .ok (.iload 4, 2) := by decide +kernel
theorem dX10_allow_31 : decode cX10_allow 31 = .ok (.iaload, 1) := by decide +kernel
theorem dX10_allow_32 : decode cX10_allow 32 = .ok (.iload_n 1, 1) := by decide +kernel
theorem dX10_allow_33 : decode cX10_allow 33 = .ok (.if_icmp .ne 7, 3) := by decide +kernel
theorem dX10_allow_36 : decode cX10_allow 36 = .ok (.iconst 1, 1) := by decide +kernel
theorem dX10_allow_37 : decode cX10_allow 37 = .ok (.goto 4, 3) := by decide +kernel
theorem dX10_allow_40 : decode cX10_allow 40 = .ok (.iconst 0, 1) := by decide +kernel
theorem dX10_allow_41 : decode cX10_allow 41 = .ok (.istore 5, 2) := by decide +kernel
theorem dX10_allow_43 : decode cX10_allow 43 = .ok (.iload 5, 2) := by decide +kernel
theorem dX10_allow_45 : decode cX10_allow 45 = .ok (.ifCond .eq 34, 3) := by decide +kernel
theorem dX10_allow_48 : decode cX10_allow 48 = .ok (.aload_n 2, 1) := by decide +kernel
theorem dX10_allow_49 : decode cX10_allow 49 = .ok (.iload_n 3, 1) := by decide +kernel
theorem dX10_allow_50 : decode cX10_allow 50 = .ok (.aload_n 0, 1) := by decide +kernel
theorem dX10_allow_51 : decode cX10_allow 51 = .ok (.getfield 15, 3) := by decide +kernel
theorem dX10_allow_54 : decode cX10_allow 54 = .ok (.iload 4, 2) := by decide +kernel
theorem dX10_allow_56 : decode cX10_allow 56 = .ok (.iaload, 1) := by decide +kernel
theorem dX10_allow_57 : decode cX10_allow 57 = .ok (.aload_n 0, 1) := by decide +kernel
theorem dX10_allow_58 : decode cX10_allow 58 = .ok (.getfield 18, 3) := by decide +kernel
theorem dX10_allow_61 : decode cX10_allow 61 = .ok (.iload 4, 2) := by decide +kernel
theorem dX10_allow_63 : decode cX10_allow 63 = .ok (.iaload, 1) := by decide +kernel
theorem dX10_allow_64 : decode cX10_allow 64 = .ok (.invokevirtual 36, 3) := by decide +kernel
theorem dX10_allow_67 : decode cX10_allow 67 = .ok (.aload_n 0, 1) := by decide +kernel
theorem dX10_allow_68 : decode cX10_allow 68 = .ok (.getfield 21, 3) := by decide +kernel
theorem dX10_allow_71 : decode cX10_allow 71 = .ok (.iload 4, 2) := by decide +kernel
theorem dX10_allow_73 : decode cX10_allow 73 = .ok (.baload, 1) := by decide +kernel
theorem dX10_allow_74 : decode cX10_allow 74 = .ok (.if_icmp .eq 5, 3) := by decide +kernel
theorem dX10_allow_77 : decode cX10_allow 77 = .ok (.iconst 0, 1) := by decide +kernel
theorem dX10_allow_78 : decode cX10_allow 78 = .ok (.ireturn, 1) := by decide +kernel
theorem dX10_allow_79 : decode cX10_allow 79 = .ok (.iinc 4 1, 3) := by decide +kernel
theorem dX10_allow_82 : decode cX10_allow 82 = .ok (.goto (-73), 3) := by decide +kernel
theorem dX10_allow_85 : decode cX10_allow 85 = .ok (.iconst 1, 1) := by decide +kernel
theorem dX10_allow_86 : decode cX10_allow 86 = .ok (.ireturn, 1) := by decide +kernel
theorem dX11_init_0 : decode cX11_init 0 = .ok (.aload_n 0, 1) := by decide +kernel
theorem dX11_init_1 : decode cX11_init 1 = .ok (.invokespecial 1, 3) := by decide +kernel
theorem dX11_init_4 : decode cX11_init 4 = .ok (.aload_n 0, 1) := by decide +kernel
theorem dX11_init_5 : decode cX11_init 5 = .ok (.new 7, 3) := by decide +kernel
theorem dX11_init_8 : decode cX11_init 8 = .ok (.dup, 1) := by decide +kernel
theorem dX11_init_9 : decode cX11_init 9 = .ok (.invokespecial 9, 3) := by decide +kernel
theorem dX11_init_12 : decode cX11_init 12 = .ok (.putfield 10, 3) := by decide +kernel
theorem dX11_init_15 : decode cX11_init 15 = .ok (.aload_n 0, 1) := by decide +kernel
theorem dX11_init_16 : decode cX11_init 16 = .ok (.new 16, 3) := by decide +kernel
theorem dX11_init_19 : decode cX11_init 19 = .ok (.dup, 1) := by decide +kernel
theorem dX11_init_20 : decode cX11_init 20 = .ok (.invokespecial 18, 3) := by decide +kernel
theorem dX11_init_23 : decode cX11_init 23 = .ok (.putfield 19, 3) := by decide +kernel
theorem dX11_init_26 : decode cX11_init 26 = .ok (.aload_n 0, 1) := by decide +kernel
theorem dX11_init_27 : decode cX11_init 27 = .ok (.new 23, 3) := by decide +kernel
theorem dX11_init_30 : decode cX11_init 30 = .ok (.dup, 1) := by decide +kernel
theorem dX11_init_31 : decode cX11_init 31 = .ok (.invokespecial 25, 3) := by decide +kernel
theorem dX11_init_34 : decode cX11_init 34 = .ok (.putfield 26, 3) := by decide +kernel
theorem dX11_init_37 : decode cX11_init 37 = .ok (.aload_n 0, 1) := by decide +kernel
theorem dX11_init_38 : decode cX11_init 38 = .ok (.new 23, 3) := by decide +kernel
theorem dX11_init_41 : decode cX11_init 41 = .ok (.dup, 1) := by decide +kernel
theorem dX11_init_42 : decode cX11_init 42 = .ok (.invokespecial 25, 3) := by decide +kernel
theorem dX11_init_45 : decode cX11_init 45 = .ok (.putfield 30, 3) := by decide +kernel
theorem dX11_init_48 : decode cX11_init 48 = .ok (.aload_n 0, 1) := by decide +kernel
theorem dX11_init_49 : decode cX11_init 49 = .ok (.new 23, 3) := by decide +kernel
theorem dX11_init_52 : decode cX11_init 52 = .ok (.dup, 1) := by decide +kernel
theorem dX11_init_53 : decode cX11_init 53 = .ok (.invokespecial 25, 3) := by decide +kernel
theorem dX11_init_56 : decode cX11_init 56 = .ok (.putfield 33, 3) := by decide +kernel
theorem dX11_init_59 : decode cX11_init 59 = .ok (.aload_n 0, 1) := by decide +kernel
theorem dX11_init_60 : decode cX11_init 60 = .ok (.new 36, 3) := by decide +kernel
theorem dX11_init_63 : decode cX11_init 63 = .ok (.dup, 1) := by decide +kernel
theorem dX11_init_64 : decode cX11_init 64 = .ok (.invokespecial 38, 3) := by decide +kernel
theorem dX11_init_67 : decode cX11_init 67 = .ok (.putfield 39, 3) := by decide +kernel
theorem dX11_init_70 : decode cX11_init 70 = .ok (.return_, 1) := by decide +kernel
theorem dX11_letter_0 : decode cX11_letter 0 = .ok (.iload_n 1, 1) := by decide +kernel
theorem dX11_letter_1 : decode cX11_letter 1 = .ok (.bipush 32, 2) := by decide +kernel
theorem dX11_letter_3 : decode cX11_letter 3 = .ok (.if_icmp .lt 9, 3) := by decide +kernel
theorem dX11_letter_6 : decode cX11_letter 6 = .ok (.iload_n 1, 1) := by decide +kernel
theorem dX11_letter_7 : decode cX11_letter 7 = .ok (.bipush 126, 2) := by decide +kernel
theorem dX11_letter_9 : decode cX11_letter 9 = .ok (.if_icmp .le 6, 3) := by decide +kernel
theorem dX11_letter_12 : decode cX11_letter 12 = .ok (.bipush (-102), 2) := by decide +kernel
theorem dX11_letter_14 : decode cX11_letter 14 = .ok (.ireturn, 1) := by decide +kernel
theorem dX11_letter_15 : decode cX11_letter 15 = .ok (.aload_n 0, 1) := by decide +kernel
theorem dX11_letter_16 : decode cX11_letter 16 = .ok (.getfield 10, 3) := by decide +kernel
theorem dX11_letter_19 : decode cX11_letter 19 = .ok (.invokevirtual 43, 3) := by decide +kernel
theorem dX11_letter_22 : decode cX11_letter 22 = .ok (.ifCond .eq 6, 3) := by decide +kernel
theorem dX11_letter_25 : decode cX11_letter 25 = .ok (.bipush (-104), 2) := by decide +kernel
theorem dX11_letter_27 : decode cX11_letter 27 = .ok (.ireturn, 1) := by decide +kernel
theorem dX11_letter_28 : decode cX11_letter 28 = .ok (.aload_n 0, 1) := by decide +kernel
theorem dX11_letter_29 : decode cX11_letter 29 = .ok (.getfield 10, 3) := by decide +kernel
theorem dX11_letter_32 : decode cX11_letter 32 = .ok (.iload_n 1, 1) := by decide +kernel
theorem dX11_letter_33 : decode cX11_letter 33 = .ok (.invokevirtual 47, 3) := by decide +kernel
theorem dX11_letter_36 : decode cX11_letter 36 = .ok (.aload_n 0, 1) := by decide +kernel
theorem dX11_letter_37 : decode cX11_letter 37 = .ok (.getfield 10, 3) := by decide +kernel
theorem dX11_letter_40 : decode cX11_letter 40 = .ok (.invokevirtual 51, 3) := by decide +kernel
theorem dX11_letter_43 : decode cX11_letter 43 = .ok (.ireturn, 1) := by decide +kernel
theorem dX11_blank_0 : decode cX11_blank 0 = .ok (.aload_n 0, 1) := by decide +kernel
theorem dX11_blank_1 : decode cX11_blank 1 = .ok (.getfield 10, 3) := by decide +kernel
theorem dX11_blank_4 : decode cX11_blank 4 = .ok (.invokevirtual 51, 3) := by decide +kernel
theorem dX11_blank_7 : decode cX11_blank 7 = .ok (.istore_n 1, 1) := by decide +kernel
theorem dX11_blank_8 : decode cX11_blank 8 = .ok (.aload_n 0, 1) := by decide +kernel
theorem dX11_blank_9 : decode cX11_blank 9 = .ok (.getfield 10, 3) := by decide +kernel
theorem dX11_blank_12 : decode cX11_blank 12 = .ok (.invokevirtual 55, 3) := by decide +kernel
theorem dX11_blank_15 : decode cX11_blank 15 = .ok (.iload_n 1, 1) := by decide +kernel
theorem dX11_blank_16 : decode cX11_blank 16 = .ok (.ireturn, 1) := by decide +kernel
theorem dX11_fault_0 : decode cX11_fault 0 = .ok (.aload_n 0, 1) := by decide +kernel
theorem dX11_fault_1 : decode cX11_fault 1 = .ok (.getfield 10, 3) := by decide +kernel
theorem dX11_fault_4 : decode cX11_fault 4 = .ok (.invokevirtual 58, 3) := by decide +kernel
theorem dX11_fault_7 : decode cX11_fault 7 = .ok (.ireturn, 1) := by decide +kernel
theorem dX11_station_0 : decode cX11_station 0 = .ok (.aload_n 0, 1) := by decide +kernel
theorem dX11_station_1 : decode cX11_station 1 = .ok (.getfield 10, 3) := by decide +kernel
theorem dX11_station_4 : decode cX11_station 4 = .ok (.invokevirtual 61, 3) := by decide +kernel
theorem dX11_station_7 : decode cX11_station 7 = .ok (.ifCond .ne 6, 3) := by decide +kernel
theorem dX11_station_10 : decode cX11_station 10 = .ok (.bipush (-103), 2) := by decide +kernel
theorem dX11_station_12 : decode cX11_station 12 = .ok (.ireturn, 1) := by decide +kernel
theorem dX11_station_13 : decode cX11_station 13 = .ok (.aload_n 0, 1) := by decide +kernel
theorem dX11_station_14 : decode cX11_station 14 = .ok (.getfield 19, 3) := by decide +kernel
theorem dX11_station_17 : decode cX11_station 17 = .ok (.aload_n 0, 1) := by decide +kernel
theorem dX11_station_18 : decode cX11_station 18 = .ok (.getfield 10, 3) := by decide +kernel
theorem dX11_station_21 : decode cX11_station 21 = .ok (.invokevirtual 64, 3) := by decide +kernel
theorem dX11_station_24 : decode cX11_station 24 = .ok (.aload_n 0, 1) := by decide +kernel
theorem dX11_station_25 : decode cX11_station 25 = .ok (.getfield 26, 3) := by decide +kernel
theorem dX11_station_28 : decode cX11_station 28 = .ok (.aload_n 0, 1) := by decide +kernel
theorem dX11_station_29 : decode cX11_station 29 = .ok (.getfield 19, 3) := by decide +kernel
theorem dX11_station_32 : decode cX11_station 32 = .ok (.invokevirtual 68, 3) := by decide +kernel
theorem dX11_station_35 : decode cX11_station 35 = .ok (.aload_n 0, 1) := by decide +kernel
theorem dX11_station_36 : decode cX11_station 36 = .ok (.iconst 0, 1) := by decide +kernel
theorem dX11_station_37 : decode cX11_station 37 = .ok (.putfield 72, 3) := by decide +kernel
theorem dX11_station_40 : decode cX11_station 40 = .ok (.aload_n 0, 1) := by decide +kernel
theorem dX11_station_41 : decode cX11_station 41 = .ok (.getfield 10, 3) := by decide +kernel
theorem dX11_station_44 : decode cX11_station 44 = .ok (.invokevirtual 55, 3) := by decide +kernel
theorem dX11_station_47 : decode cX11_station 47 = .ok (.aload_n 0, 1) := by decide +kernel
theorem dX11_station_48 : decode cX11_station 48 = .ok (.dup, 1) := by decide +kernel
theorem dX11_station_49 : decode cX11_station 49 = .ok (.getfield 76, 3) := by decide +kernel
theorem dX11_station_52 : decode cX11_station 52 = .ok (.iconst 1, 1) := by decide +kernel
theorem dX11_station_53 : decode cX11_station 53 = .ok (.iadd, 1) := by decide +kernel
theorem dX11_station_54 : decode cX11_station 54 = .ok (.putfield 76, 3) := by decide +kernel
theorem dX11_station_57 : decode cX11_station 57 = .ok (.aload_n 0, 1) := by decide +kernel
theorem dX11_station_58 : decode cX11_station 58 = .ok (.getfield 19, 3) := by decide +kernel
theorem dX11_station_61 : decode cX11_station 61 = .ok (.invokevirtual 80, 3) := by decide +kernel
theorem dX11_station_64 : decode cX11_station 64 = .ok (.ireturn, 1) := by decide +kernel
theorem dX11_about_0 : decode cX11_about 0 = .ok (.aload_n 0, 1) := by decide +kernel
theorem dX11_about_1 : decode cX11_about 1 = .ok (.getfield 19, 3) := by decide +kernel
theorem dX11_about_4 : decode cX11_about 4 = .ok (.iload_n 1, 1) := by decide +kernel
theorem dX11_about_5 : decode cX11_about 5 = .ok (.invokevirtual 83, 3) := by decide +kernel
theorem dX11_about_8 : decode cX11_about 8 = .ok (.astore_n 3, 1) := by decide +kernel
theorem dX11_about_9 : decode cX11_about 9 = .ok (.aload_n 3, 1) := by decide +kernel
theorem dX11_about_10 : decode cX11_about 10 = .ok (.ifnonnull 6, 3) := by decide +kernel
theorem dX11_about_13 : decode cX11_about 13 = .ok (.bipush (-101), 2) := by decide +kernel
theorem dX11_about_15 : decode cX11_about 15 = .ok (.ireturn, 1) := by decide +kernel
theorem dX11_about_16 : decode cX11_about 16 = .ok (.iload_n 2, 1) := by decide +kernel
theorem dX11_about_17 : decode cX11_about 17 = .ok (.ifCond .lt 9, 3) := by decide +kernel
theorem dX11_about_20 : decode cX11_about 20 = .ok (.iload_n 2, 1) := by decide +kernel
theorem dX11_about_21 : decode cX11_about 21 = .ok (.bipush 8, 2) := by decide +kernel
theorem dX11_about_23 : decode cX11_about 23 = .ok (.if_icmp .le 6, 3) := by decide +kernel
theorem dX11_about_26 : decode cX11_about 26 = .ok (.bipush (-102), 2) := by decide +kernel
theorem dX11_about_28 : decode cX11_about 28 = .ok (.ireturn, 1) := by decide +kernel
theorem dX11_about_29 : decode cX11_about 29 = .ok (.iload_n 2, 1) := by decide +kernel
theorem dX11_about_30 : decode cX11_about 30 = .ok (.tableswitch 97 0 7 #[46, 51, 56, 61, 66, 75, 85, 91], 46) := by decide +kernel
theorem dX11_about_76 : decode cX11_about 76 = .ok (.aload_n 3, 1) := by decide +kernel
theorem dX11_about_77 : decode cX11_about 77 = .ok (.invokevirtual 87, 3) := by decide +kernel
theorem dX11_about_80 : decode cX11_about 80 = .ok (.ireturn, 1) := by decide +kernel
theorem dX11_about_81 : decode cX11_about 81 = .ok (.aload_n 3, 1) := by decide +kernel
theorem dX11_about_82 : decode cX11_about 82 = .ok (.getfield 92, 3) := by decide +kernel
theorem dX11_about_85 : decode cX11_about 85 = .ok (.ireturn, 1) := by decide +kernel
theorem dX11_about_86 : decode cX11_about 86 = .ok (.aload_n 3, 1) := by decide +kernel
theorem dX11_about_87 : decode cX11_about 87 = .ok (.getfield 95, 3) := by decide +kernel
theorem dX11_about_90 : decode cX11_about 90 = .ok (.ireturn, 1) := by decide +kernel
theorem dX11_about_91 : decode cX11_about 91 = .ok (.aload_n 3, 1) := by decide +kernel
theorem dX11_about_92 : decode cX11_about 92 = .ok (.invokevirtual 98, 3) := by decide +kernel
theorem dX11_about_95 : decode cX11_about 95 = .ok (.ireturn, 1) := by decide +kernel
theorem dX11_about_96 : decode cX11_about 96 = .ok (.aload_n 0, 1) := by decide +kernel
theorem dX11_about_97 : decode cX11_about 97 = .ok (.getfield 26, 3) := by decide +kernel
theorem dX11_about_100 : decode cX11_about 100 = .ok (.iload_n 1, 1) := by decide +kernel
theorem dX11_about_101 : decode cX11_about 101 = .ok (.invokevirtual 101, 3) := by decide +kernel
theorem dX11_about_104 : decode cX11_about 104 = .ok (.ireturn, 1) := by decide +kernel
theorem dX11_about_105 : decode cX11_about 105 = .ok (.aload_n 0, 1) := by decide +kernel
theorem dX11_about_106 : decode cX11_about 106 = .ok (.aload_n 0, 1) := by decide +kernel
theorem dX11_about_107 : decode cX11_about 107 = .ok (.getfield 26, 3) := by decide +kernel
theorem dX11_about_110 : decode cX11_about 110 = .ok (.iload_n 1, 1) := by decide +kernel
theorem dX11_about_111 : decode cX11_about 111 = .ok (.invokevirtual 105, 3) := by decide +kernel
theorem dX11_about_114 : decode cX11_about 114 = .ok (.ireturn, 1) := by decide +kernel
theorem dX11_about_115 : decode cX11_about 115 = .ok (.aload_n 0, 1) := by decide +kernel
theorem dX11_about_116 : decode cX11_about 116 = .ok (.iload_n 1, 1) := by decide +kernel
theorem dX11_about_117 : decode cX11_about 117 = .ok (.invokevirtual 109, 3) := by decide +kernel
theorem dX11_about_120 : decode cX11_about 120 = .ok (.ireturn, 1) := by decide +kernel
theorem dX11_about_121 : decode cX11_about 121 = .ok (.aload_n 0, 1) := by decide +kernel
theorem dX11_about_122 : decode cX11_about 122 = .ok (.iload_n 1, 1) := by decide +kernel
theorem dX11_about_123 : decode cX11_about 123 = .ok (.invokevirtual 112, 3) := by decide +kernel
theorem dX11_about_126 : decode cX11_about 126 = .ok (.ireturn, 1) := by decide +kernel
theorem dX11_about_127 : decode cX11_about 127 = .ok (.aload_n 0, 1) := by decide +kernel
theorem dX11_about_128 : decode cX11_about 128 = .ok (.iload_n 1, 1) := by decide +kernel
theorem dX11_about_129 : decode cX11_about 129 = .ok (.invokevirtual 115, 3) := by decide +kernel
theorem dX11_about_132 : decode cX11_about 132 = .ok (.ireturn, 1) := by decide +kernel
theorem dX11_as_0 : decode cX11_as 0 = .ok (.aload_n 0, 1) := by decide +kernel
theorem dX11_as_1 : decode cX11_as 1 = .ok (.getfield 19, 3) := by decide +kernel
theorem dX11_as_4 : decode cX11_as 4 = .ok (.iload_n 1, 1) := by decide +kernel
theorem dX11_as_5 : decode cX11_as 5 = .ok (.invokevirtual 83, 3) := by decide +kernel
theorem dX11_as_8 : decode cX11_as 8 = .ok (.astore_n 3, 1) := by decide +kernel
theorem dX11_as_9 : decode cX11_as 9 = .ok (.aload_n 3, 1) := by decide +kernel
theorem dX11_as_10 : decode cX11_as 10 = .ok (.ifnonnull 6, 3) := by decide +kernel
theorem dX11_as_13 : decode cX11_as 13 = .ok (.bipush (-101), 2) := by decide +kernel
theorem dX11_as_15 : decode cX11_as 15 = .ok (.ireturn, 1) := by decide +kernel
theorem dX11_as_16 : decode cX11_as 16 = .ok (.iload_n 2, 1) := by decide +kernel
theorem dX11_as_17 : decode cX11_as 17 = .ok (.ifCond .lt 8, 3) := by decide +kernel
theorem dX11_as_20 : decode cX11_as 20 = .ok (.iload_n 2, 1) := by decide +kernel
theorem dX11_as_21 : decode cX11_as 21 = .ok (.iconst 4, 1) := by decide +kernel
theorem dX11_as_22 : decode cX11_as 22 = .ok (.if_icmp .le 6, 3) := by decide +kernel
theorem dX11_as_25 : decode cX11_as 25 = .ok (.bipush (-102), 2) := by decide +kernel
theorem dX11_as_27 : decode cX11_as 27 = .ok (.ireturn, 1) := by decide +kernel
theorem dX11_as_28 : decode cX11_as 28 = .ok (.aload_n 3, 1) := by decide +kernel
theorem dX11_as_29 : decode cX11_as 29 = .ok (.iload_n 2, 1) := by decide +kernel
theorem dX11_as_30 : decode cX11_as 30 = .ok (.invokestatic 118, 3) := by decide +kernel
theorem dX11_as_33 : decode cX11_as 33 = .ok (.ifCond .eq 7, 3) := by decide +kernel
theorem dX11_as_36 : decode cX11_as 36 = .ok (.iload_n 1, 1) := by decide +kernel
theorem dX11_as_37 : decode cX11_as 37 = .ok (.goto 4, 3) := by decide +kernel
theorem dX11_as_40 : decode cX11_as 40 = .ok (.iconst (-1), 1) := by decide +kernel
theorem dX11_as_41 : decode cX11_as 41 = .ok (.ireturn, 1) := by decide +kernel
theorem dX11_crime_0 : decode cX11_crime 0 = .ok (.aload_n 0, 1) := by decide +kernel
theorem dX11_crime_1 : decode cX11_crime 1 = .ok (.getfield 19, 3) := by decide +kernel
theorem dX11_crime_4 : decode cX11_crime 4 = .ok (.iload_n 1, 1) := by decide +kernel
theorem dX11_crime_5 : decode cX11_crime 5 = .ok (.invokevirtual 122, 3) := by decide +kernel
theorem dX11_crime_8 : decode cX11_crime 8 = .ok (.astore_n 3, 1) := by decide +kernel
theorem dX11_crime_9 : decode cX11_crime 9 = .ok (.aload_n 3, 1) := by decide +kernel
theorem dX11_crime_10 : decode cX11_crime 10 = .ok (.ifnonnull 6, 3) := by decide +kernel
theorem dX11_crime_13 : decode cX11_crime 13 = .ok (.bipush (-101), 2) := by decide +kernel
theorem dX11_crime_15 : decode cX11_crime 15 = .ok (.ireturn, 1) := by decide +kernel
theorem dX11_crime_16 : decode cX11_crime 16 = .ok (.iload_n 2, 1) := by decide +kernel
theorem dX11_crime_17 : decode cX11_crime 17 = .ok (.ifCond .lt 8, 3) := by decide +kernel
theorem dX11_crime_20 : decode cX11_crime 20 = .ok (.iload_n 2, 1) := by decide +kernel
theorem dX11_crime_21 : decode cX11_crime 21 = .ok (.iconst 5, 1) := by decide +kernel
theorem dX11_crime_22 : decode cX11_crime 22 = .ok (.if_icmp .le 6, 3) := by decide +kernel
theorem dX11_crime_25 : decode cX11_crime 25 = .ok (.bipush (-102), 2) := by decide +kernel
theorem dX11_crime_27 : decode cX11_crime 27 = .ok (.ireturn, 1) := by decide +kernel
theorem dX11_crime_28 : decode cX11_crime 28 = .ok (.iload_n 2, 1) := by decide +kernel
theorem dX11_crime_29 : decode cX11_crime 29 = .ok (.tableswitch 69 0 4 #[35, 44, 49, 54, 63], 35) := by decide +kernel
theorem dX11_crime_64 : decode cX11_crime 64 = .ok (.aload_n 0, 1) := by decide +kernel
theorem dX11_crime_65 : decode cX11_crime 65 = .ok (.getfield 26, 3) := by decide +kernel
theorem dX11_crime_68 : decode cX11_crime 68 = .ok (.iload_n 1, 1) := by decide +kernel
theorem dX11_crime_69 : decode cX11_crime 69 = .ok (.invokevirtual 126, 3) := by decide +kernel
theorem dX11_crime_72 : decode cX11_crime 72 = .ok (.ireturn, 1) := by decide +kernel
theorem dX11_crime_73 : decode cX11_crime 73 = .ok (.aload_n 3, 1) := by decide +kernel
theorem dX11_crime_74 : decode cX11_crime 74 = .ok (.getfield 129, 3) := by decide +kernel
theorem dX11_crime_77 : decode cX11_crime 77 = .ok (.ireturn, 1) := by decide +kernel
theorem dX11_crime_78 : decode cX11_crime 78 = .ok (.aload_n 3, 1) := by decide +kernel
theorem dX11_crime_79 : decode cX11_crime 79 = .ok (.getfield 132, 3) := by decide +kernel
theorem dX11_crime_82 : decode cX11_crime 82 = .ok (.ireturn, 1) := by decide +kernel
theorem dX11_crime_83 : decode cX11_crime 83 = .ok (.aload_n 0, 1) := by decide +kernel
theorem dX11_crime_84 : decode cX11_crime 84 = .ok (.getfield 26, 3) := by decide +kernel
theorem dX11_crime_87 : decode cX11_crime 87 = .ok (.iload_n 1, 1) := by decide +kernel
theorem dX11_crime_88 : decode cX11_crime 88 = .ok (.invokevirtual 135, 3) := by decide +kernel
theorem dX11_crime_91 : decode cX11_crime 91 = .ok (.ireturn, 1) := by decide +kernel
theorem dX11_crime_92 : decode cX11_crime 92 = .ok (.aload_n 0, 1) := by decide +kernel
theorem dX11_crime_93 : decode cX11_crime 93 = .ok (.iload_n 1, 1) := by decide +kernel
theorem dX11_crime_94 : decode cX11_crime 94 = .ok (.invokevirtual 138, 3) := by decide +kernel
theorem dX11_crime_97 : decode cX11_crime 97 = .ok (.ireturn, 1) := by decide +kernel
theorem dX11_crime_98 : decode cX11_crime 98 = .ok (.aload_n 0, 1) := by decide +kernel
theorem dX11_crime_99 : decode cX11_crime 99 = .ok (.iload_n 1, 1) := by decide +kernel
theorem dX11_crime_100 : decode cX11_crime 100 = .ok (.invokevirtual 141, 3) := by decide +kernel
theorem dX11_crime_103 : decode cX11_crime 103 = .ok (.ireturn, 1) := by decide +kernel
theorem dX11_confess_0 : decode cX11_confess 0 = .ok (.aload_n 0, 1) := by decide +kernel
theorem dX11_confess_1 : decode cX11_confess 1 = .ok (.getfield 19, 3) := by decide +kernel
theorem dX11_confess_4 : decode cX11_confess 4 = .ok (.iload_n 1, 1) := by decide +kernel
theorem dX11_confess_5 : decode cX11_confess 5 = .ok (.invokevirtual 83, 3) := by decide +kernel
theorem dX11_confess_8 : decode cX11_confess 8 = .ok (.ifnull 14, 3) := by decide +kernel
theorem dX11_confess_11 : decode cX11_confess 11 = .ok (.aload_n 0, 1) := by decide +kernel
theorem dX11_confess_12 : decode cX11_confess 12 = .ok (.getfield 19, 3) := by decide +kernel
theorem dX11_confess_15 : decode cX11_confess 15 = .ok (.iload_n 2, 1) := by decide +kernel
theorem dX11_confess_16 : decode cX11_confess 16 = .ok (.invokevirtual 122, 3) := by decide +kernel
theorem dX11_confess_19 : decode cX11_confess 19 = .ok (.ifnonnull 6, 3) := by decide +kernel
theorem dX11_confess_22 : decode cX11_confess 22 = .ok (.bipush (-101), 2) := by decide +kernel
theorem dX11_confess_24 : decode cX11_confess 24 = .ok (.ireturn, 1) := by decide +kernel
theorem dX11_confess_25 : decode cX11_confess 25 = .ok (.aload_n 0, 1) := by decide +kernel
theorem dX11_confess_26 : decode cX11_confess 26 = .ok (.aload_n 0, 1) := by decide +kernel
theorem dX11_confess_27 : decode cX11_confess 27 = .ok (.getfield 26, 3) := by decide +kernel
theorem dX11_confess_30 : decode cX11_confess 30 = .ok (.iload_n 1, 1) := by decide +kernel
theorem dX11_confess_31 : decode cX11_confess 31 = .ok (.iload_n 2, 1) := by decide +kernel
theorem dX11_confess_32 : decode cX11_confess 32 = .ok (.invokevirtual 144, 3) := by decide +kernel
theorem dX11_confess_35 : decode cX11_confess 35 = .ok (.ifCond .ne 6, 3) := by decide +kernel
theorem dX11_confess_38 : decode cX11_confess 38 = .ok (.bipush (-103), 2) := by decide +kernel
theorem dX11_confess_40 : decode cX11_confess 40 = .ok (.ireturn, 1) := by decide +kernel
theorem dX11_confess_41 : decode cX11_confess 41 = .ok (.aload_n 0, 1) := by decide +kernel
theorem dX11_confess_42 : decode cX11_confess 42 = .ok (.getfield 26, 3) := by decide +kernel
theorem dX11_confess_45 : decode cX11_confess 45 = .ok (.iload_n 1, 1) := by decide +kernel
theorem dX11_confess_46 : decode cX11_confess 46 = .ok (.iload_n 2, 1) := by decide +kernel
theorem dX11_confess_47 : decode cX11_confess 47 = .ok (.invokevirtual 148, 3) := by decide +kernel
theorem dX11_confess_50 : decode cX11_confess 50 = .ok (.aload_n 0, 1) := by decide +kernel
theorem dX11_confess_51 : decode cX11_confess 51 = .ok (.getfield 26, 3) := by decide +kernel
theorem dX11_confess_54 : decode cX11_confess 54 = .ok (.dup, 1) := by decide +kernel
theorem dX11_confess_55 : decode cX11_confess 55 = .ok (.getfield 152, 3) := by decide +kernel
theorem dX11_confess_58 : decode cX11_confess 58 = .ok (.iconst 1, 1) := by decide +kernel
theorem dX11_confess_59 : decode cX11_confess 59 = .ok (.iadd, 1) := by decide +kernel
theorem dX11_confess_60 : decode cX11_confess 60 = .ok (.putfield 152, 3) := by decide +kernel
theorem dX11_confess_63 : decode cX11_confess 63 = .ok (.aload_n 0, 1) := by decide +kernel
theorem dX11_confess_64 : decode cX11_confess 64 = .ok (.aload_n 0, 1) := by decide +kernel
theorem dX11_confess_65 : decode cX11_confess 65 = .ok (.getfield 26, 3) := by decide +kernel
theorem dX11_confess_68 : decode cX11_confess 68 = .ok (.iload_n 1, 1) := by decide +kernel
theorem dX11_confess_69 : decode cX11_confess 69 = .ok (.invokevirtual 105, 3) := by decide +kernel
theorem dX11_confess_72 : decode cX11_confess 72 = .ok (.ireturn, 1) := by decide +kernel
theorem dX11_recant_0 : decode cX11_recant 0 = .ok (.aload_n 0, 1) := by decide +kernel
theorem dX11_recant_1 : decode cX11_recant 1 = .ok (.getfield 19, 3) := by decide +kernel
theorem dX11_recant_4 : decode cX11_recant 4 = .ok (.iload_n 1, 1) := by decide +kernel
theorem dX11_recant_5 : decode cX11_recant 5 = .ok (.invokevirtual 83, 3) := by decide +kernel
theorem dX11_recant_8 : decode cX11_recant 8 = .ok (.ifnonnull 6, 3) := by decide +kernel
theorem dX11_recant_11 : decode cX11_recant 11 = .ok (.bipush (-101), 2) := by decide +kernel
theorem dX11_recant_13 : decode cX11_recant 13 = .ok (.ireturn, 1) := by decide +kernel
theorem dX11_recant_14 : decode cX11_recant 14 = .ok (.aload_n 0, 1) := by decide +kernel
theorem dX11_recant_15 : decode cX11_recant 15 = .ok (.getfield 26, 3) := by decide +kernel
theorem dX11_recant_18 : decode cX11_recant 18 = .ok (.iload_n 1, 1) := by decide +kernel
theorem dX11_recant_19 : decode cX11_recant 19 = .ok (.invokevirtual 101, 3) := by decide +kernel
theorem dX11_recant_22 : decode cX11_recant 22 = .ok (.istore_n 2, 1) := by decide +kernel
theorem dX11_recant_23 : decode cX11_recant 23 = .ok (.iload_n 2, 1) := by decide +kernel
theorem dX11_recant_24 : decode cX11_recant 24 = .ok (.iconst (-1), 1) := by decide +kernel
theorem dX11_recant_25 : decode cX11_recant 25 = .ok (.if_icmp .ne 6, 3) := by decide +kernel
theorem dX11_recant_28 : decode cX11_recant 28 = .ok (.bipush (-103), 2) := by decide +kernel
theorem dX11_recant_30 : decode cX11_recant 30 = .ok (.ireturn, 1) := by decide +kernel
theorem dX11_recant_31 : decode cX11_recant 31 = .ok (.aload_n 0, 1) := by decide +kernel
theorem dX11_recant_32 : decode cX11_recant 32 = .ok (.getfield 26, 3) := by decide +kernel
theorem dX11_recant_35 : decode cX11_recant 35 = .ok (.iload_n 1, 1) := by decide +kernel
theorem dX11_recant_36 : decode cX11_recant 36 = .ok (.iconst (-1), 1) := by decide +kernel
theorem dX11_recant_37 : decode cX11_recant 37 = .ok (.invokevirtual 148, 3) := by decide +kernel
theorem dX11_recant_40 : decode cX11_recant 40 = .ok (.iload_n 2, 1) := by decide +kernel
theorem dX11_recant_41 : decode cX11_recant 41 = .ok (.ireturn, 1) := by decide +kernel
theorem dX11_alter_0 : decode cX11_alter 0 = .ok (.aload_n 0, 1) := by decide +kernel
theorem dX11_alter_1 : decode cX11_alter 1 = .ok (.getfield 19, 3) := by decide +kernel
theorem dX11_alter_4 : decode cX11_alter 4 = .ok (.iload_n 1, 1) := by decide +kernel
theorem dX11_alter_5 : decode cX11_alter 5 = .ok (.invokevirtual 122, 3) := by decide +kernel
theorem dX11_alter_8 : decode cX11_alter 8 = .ok (.ifnonnull 6, 3) := by decide +kernel
theorem dX11_alter_11 : decode cX11_alter 11 = .ok (.bipush (-101), 2) := by decide +kernel
theorem dX11_alter_13 : decode cX11_alter 13 = .ok (.ireturn, 1) := by decide +kernel
theorem dX11_alter_14 : decode cX11_alter 14 = .ok (.aload_n 0, 1) := by decide +kernel
theorem dX11_alter_15 : decode cX11_alter 15 = .ok (.getfield 26, 3) := by decide +kernel
theorem dX11_alter_18 : decode cX11_alter 18 = .ok (.iload_n 1, 1) := by decide +kernel
theorem dX11_alter_19 : decode cX11_alter 19 = .ok (.invokevirtual 126, 3) := by decide +kernel
theorem dX11_alter_22 : decode cX11_alter 22 = .ok (.iload_n 2, 1) := by decide +kernel
theorem dX11_alter_23 : decode cX11_alter 23 = .ok (.ifCond .eq 7, 3) := by decide +kernel
theorem dX11_alter_26 : decode cX11_alter 26 = .ok (.iconst 1, 1) := by decide +kernel
theorem dX11_alter_27 : decode cX11_alter 27 = .ok (.goto 4, 3) := by decide +kernel
theorem dX11_alter_30 : decode cX11_alter 30 = .ok (.iconst (-1), 1) := by decide +kernel
theorem dX11_alter_31 : decode cX11_alter 31 = .ok (.iadd, 1) := by decide +kernel
theorem dX11_alter_32 : decode cX11_alter 32 = .ok (.istore_n 3, 1) := by decide +kernel
theorem dX11_alter_33 : decode cX11_alter 33 = .ok (.aload_n 0, 1) := by decide +kernel
theorem dX11_alter_34 : decode cX11_alter 34 = .ok (.getfield 26, 3) := by decide +kernel
theorem dX11_alter_37 : decode cX11_alter 37 = .ok (.iload_n 1, 1) := by decide +kernel
theorem dX11_alter_38 : decode cX11_alter 38 = .ok (.invokevirtual 135, 3) := by decide +kernel
theorem dX11_alter_41 : decode cX11_alter 41 = .ok (.iconst (-1), 1) := by decide +kernel
theorem dX11_alter_42 : decode cX11_alter 42 = .ok (.if_icmp .ne 10, 3) := by decide +kernel
theorem dX11_alter_45 : decode cX11_alter 45 = .ok (.iload_n 3, 1) := by decide +kernel
theorem dX11_alter_46 : decode cX11_alter 46 = .ok (.invokestatic 155, 3) := by decide +kernel
theorem dX11_alter_49 : decode cX11_alter 49 = .ok (.ifCond .ne 6, 3) := by decide +kernel
theorem dX11_alter_52 : decode cX11_alter 52 = .ok (.bipush (-103), 2) := by decide +kernel
theorem dX11_alter_54 : decode cX11_alter 54 = .ok (.ireturn, 1) := by decide +kernel
theorem dX11_alter_55 : decode cX11_alter 55 = .ok (.aload_n 0, 1) := by decide +kernel
theorem dX11_alter_56 : decode cX11_alter 56 = .ok (.getfield 26, 3) := by decide +kernel
theorem dX11_alter_59 : decode cX11_alter 59 = .ok (.iload_n 1, 1) := by decide +kernel
theorem dX11_alter_60 : decode cX11_alter 60 = .ok (.iload_n 3, 1) := by decide +kernel
theorem dX11_alter_61 : decode cX11_alter 61 = .ok (.invokevirtual 159, 3) := by decide +kernel
theorem dX11_alter_64 : decode cX11_alter 64 = .ok (.aload_n 0, 1) := by decide +kernel
theorem dX11_alter_65 : decode cX11_alter 65 = .ok (.getfield 26, 3) := by decide +kernel
theorem dX11_alter_68 : decode cX11_alter 68 = .ok (.dup, 1) := by decide +kernel
theorem dX11_alter_69 : decode cX11_alter 69 = .ok (.getfield 162, 3) := by decide +kernel
theorem dX11_alter_72 : decode cX11_alter 72 = .ok (.iconst 1, 1) := by decide +kernel
theorem dX11_alter_73 : decode cX11_alter 73 = .ok (.iadd, 1) := by decide +kernel
theorem dX11_alter_74 : decode cX11_alter 74 = .ok (.putfield 162, 3) := by decide +kernel
theorem dX11_alter_77 : decode cX11_alter 77 = .ok (.iload_n 3, 1) := by decide +kernel
theorem dX11_alter_78 : decode cX11_alter 78 = .ok (.ireturn, 1) := by decide +kernel
theorem dX11_match_0 : decode cX11_match 0 = .ok (.iload_n 1, 1) := by decide +kernel
theorem dX11_match_1 : decode cX11_match 1 = .ok (.invokestatic 165, 3) := by decide +kernel
theorem dX11_match_4 : decode cX11_match 4 = .ok (.ifCond .ne 6, 3) := by decide +kernel
theorem dX11_match_7 : decode cX11_match 7 = .ok (.bipush (-102), 2) := by decide +kernel
theorem dX11_match_9 : decode cX11_match 9 = .ok (.ireturn, 1) := by decide +kernel
theorem dX11_match_10 : decode cX11_match 10 = .ok (.aload_n 0, 1) := by decide +kernel
theorem dX11_match_11 : decode cX11_match 11 = .ok (.invokevirtual 168, 3) := by decide +kernel
theorem dX11_match_14 : decode cX11_match 14 = .ok (.ifCond .ne 6, 3) := by decide +kernel
theorem dX11_match_17 : decode cX11_match 17 = .ok (.bipush (-103), 2) := by decide +kernel
theorem dX11_match_19 : decode cX11_match 19 = .ok (.ireturn, 1) := by decide +kernel
theorem dX11_match_20 : decode cX11_match 20 = .ok (.aload_n 0, 1) := by decide +kernel
theorem dX11_match_21 : decode cX11_match 21 = .ok (.invokevirtual 171, 3) := by decide +kernel
theorem dX11_match_24 : decode cX11_match 24 = .ok (.aload_n 0, 1) := by decide +kernel
theorem dX11_match_25 : decode cX11_match 25 = .ok (.iload_n 1, 1) := by decide +kernel
theorem dX11_match_26 : decode cX11_match 26 = .ok (.invokevirtual 174, 3) := by decide +kernel
theorem dX11_match_29 : decode cX11_match 29 = .ok (.ireturn, 1) := by decide +kernel
theorem dX11_stitches_0 : decode cX11_stitches 0 = .ok (.aload_n 0, 1) := by decide +kernel
theorem dX11_stitches_1 : decode cX11_stitches 1 = .ok (.invokevirtual 168, 3) := by decide +kernel
theorem dX11_stitches_4 : decode cX11_stitches 4 = .ok (.ifCond .eq 12, 3) := by decide +kernel
theorem dX11_stitches_7 : decode cX11_stitches 7 = .ok (.aload_n 0, 1) := by decide +kernel
theorem dX11_stitches_8 : decode cX11_stitches 8 = .ok (.getfield 177, 3) := by decide +kernel
theorem dX11_stitches_11 : decode cX11_stitches 11 = .ok (.bipush 12, 2) := by decide +kernel
theorem dX11_stitches_13 : decode cX11_stitches 13 = .ok (.if_icmp .lt 6, 3) := by decide +kernel
theorem dX11_stitches_16 : decode cX11_stitches 16 = .ok (.bipush (-103), 2) := by decide +kernel
theorem dX11_stitches_18 : decode cX11_stitches 18 = .ok (.ireturn, 1) := by decide +kernel
theorem dX11_stitches_19 : decode cX11_stitches 19 = .ok (.aload_n 0, 1) := by decide +kernel
theorem dX11_stitches_20 : decode cX11_stitches 20 = .ok (.dup, 1) := by decide +kernel
theorem dX11_stitches_21 : decode cX11_stitches 21 = .ok (.getfield 177, 3) := by decide +kernel
theorem dX11_stitches_24 : decode cX11_stitches 24 = .ok (.iconst 1, 1) := by decide +kernel
theorem dX11_stitches_25 : decode cX11_stitches 25 = .ok (.iadd, 1) := by decide +kernel
theorem dX11_stitches_26 : decode cX11_stitches 26 = .ok (.putfield 177, 3) := by decide +kernel
theorem dX11_stitches_29 : decode cX11_stitches 29 = .ok (.aload_n 0, 1) := by decide +kernel
theorem dX11_stitches_30 : decode cX11_stitches 30 = .ok (.iconst 0, 1) := by decide +kernel
theorem dX11_stitches_31 : decode cX11_stitches 31 = .ok (.iconst 0, 1) := by decide +kernel
theorem dX11_stitches_32 : decode cX11_stitches 32 = .ok (.invokestatic 180, 3) := by decide +kernel
theorem dX11_stitches_35 : decode cX11_stitches 35 = .ok (.ireturn, 1) := by decide +kernel
theorem dX11_tried_0 : decode cX11_tried 0 = .ok (.aload_n 0, 1) := by decide +kernel
theorem dX11_tried_1 : decode cX11_tried 1 = .ok (.getfield 19, 3) := by decide +kernel
theorem dX11_tried_4 : decode cX11_tried 4 = .ok (.iload_n 2, 1) := by decide +kernel
theorem dX11_tried_5 : decode cX11_tried 5 = .ok (.invokevirtual 122, 3) := by decide +kernel
theorem dX11_tried_8 : decode cX11_tried 8 = .ok (.astore 4, 2) := by decide +kernel
theorem dX11_tried_10 : decode cX11_tried 10 = .ok (.aload_n 0, 1) := by decide +kernel
theorem dX11_tried_11 : decode cX11_tried 11 = .ok (.getfield 19, 3) := by decide +kernel
theorem dX11_tried_14 : decode cX11_tried 14 = .ok (.iload_n 1, 1) := by decide +kernel
theorem dX11_tried_15 : decode cX11_tried 15 = .ok (.invokevirtual 83, 3) := by decide +kernel
theorem dX11_tried_18 : decode cX11_tried 18 = .ok (.ifnull 8, 3) := by decide +kernel
theorem dX11_tried_21 : decode cX11_tried 21 = .ok (.aload 4, 2) := by decide +kernel
theorem dX11_tried_23 : decode cX11_tried 23 = .ok (.ifnonnull 6, 3) := by decide +kernel
theorem dX11_tried_26 : decode cX11_tried 26 = .ok (.bipush (-101), 2) := by decide +kernel
theorem dX11_tried_28 : decode cX11_tried 28 = .ok (.ireturn, 1) := by decide +kernel
theorem dX11_tried_29 : decode cX11_tried 29 = .ok (.aload_n 0, 1) := by decide +kernel
theorem dX11_tried_30 : decode cX11_tried 30 = .ok (.getfield 26, 3) := by decide +kernel
theorem dX11_tried_33 : decode cX11_tried 33 = .ok (.getfield 184, 3) := by decide +kernel
theorem dX11_tried_36 : decode cX11_tried 36 = .ok (.invokevirtual 188, 3) := by decide +kernel
theorem dX11_tried_39 : decode cX11_tried 39 = .ok (.ifCond .eq 6, 3) := by decide +kernel
theorem dX11_tried_42 : decode cX11_tried 42 = .ok (.bipush (-104), 2) := by decide +kernel
theorem dX11_tried_44 : decode cX11_tried 44 = .ok (.ireturn, 1) := by decide +kernel
theorem dX11_tried_45 : decode cX11_tried 45 = .ok (.aload_n 0, 1) := by decide +kernel
theorem dX11_tried_46 : decode cX11_tried 46 = .ok (.getfield 26, 3) := by decide +kernel
theorem dX11_tried_49 : decode cX11_tried 49 = .ok (.getfield 184, 3) := by decide +kernel
theorem dX11_tried_52 : decode cX11_tried 52 = .ok (.iload_n 1, 1) := by decide +kernel
theorem dX11_tried_53 : decode cX11_tried 53 = .ok (.aload_n 0, 1) := by decide +kernel
theorem dX11_tried_54 : decode cX11_tried 54 = .ok (.getfield 26, 3) := by decide +kernel
theorem dX11_tried_57 : decode cX11_tried 57 = .ok (.iload_n 2, 1) := by decide +kernel
theorem dX11_tried_58 : decode cX11_tried 58 = .ok (.invokevirtual 126, 3) := by decide +kernel
theorem dX11_tried_61 : decode cX11_tried 61 = .ok (.aload 4, 2) := by decide +kernel
theorem dX11_tried_63 : decode cX11_tried 63 = .ok (.getfield 129, 3) := by decide +kernel
theorem dX11_tried_66 : decode cX11_tried 66 = .ok (.iload_n 3, 1) := by decide +kernel
theorem dX11_tried_67 : decode cX11_tried 67 = .ok (.invokevirtual 191, 3) := by decide +kernel
theorem dX11_tried_70 : decode cX11_tried 70 = .ok (.aload_n 0, 1) := by decide +kernel
theorem dX11_tried_71 : decode cX11_tried 71 = .ok (.getfield 26, 3) := by decide +kernel
theorem dX11_tried_74 : decode cX11_tried 74 = .ok (.getfield 184, 3) := by decide +kernel
theorem dX11_tried_77 : decode cX11_tried 77 = .ok (.invokevirtual 194, 3) := by decide +kernel
theorem dX11_tried_80 : decode cX11_tried 80 = .ok (.ireturn, 1) := by decide +kernel
theorem dX11_forget_0 : decode cX11_forget 0 = .ok (.aload_n 0, 1) := by decide +kernel
theorem dX11_forget_1 : decode cX11_forget 1 = .ok (.getfield 26, 3) := by decide +kernel
theorem dX11_forget_4 : decode cX11_forget 4 = .ok (.getfield 184, 3) := by decide +kernel
theorem dX11_forget_7 : decode cX11_forget 7 = .ok (.invokevirtual 194, 3) := by decide +kernel
theorem dX11_forget_10 : decode cX11_forget 10 = .ok (.istore_n 1, 1) := by decide +kernel
theorem dX11_forget_11 : decode cX11_forget 11 = .ok (.aload_n 0, 1) := by decide +kernel
theorem dX11_forget_12 : decode cX11_forget 12 = .ok (.getfield 26, 3) := by decide +kernel
theorem dX11_forget_15 : decode cX11_forget 15 = .ok (.getfield 184, 3) := by decide +kernel
theorem dX11_forget_18 : decode cX11_forget 18 = .ok (.invokevirtual 197, 3) := by decide +kernel
theorem dX11_forget_21 : decode cX11_forget 21 = .ok (.iload_n 1, 1) := by decide +kernel
theorem dX11_forget_22 : decode cX11_forget 22 = .ok (.ireturn, 1) := by decide +kernel
theorem dX11_weeks_0 : decode cX11_weeks 0 = .ok (.iload_n 1, 1) := by decide +kernel
theorem dX11_weeks_1 : decode cX11_weeks 1 = .ok (.iconst 1, 1) := by decide +kernel
theorem dX11_weeks_2 : decode cX11_weeks 2 = .ok (.if_icmp .lt 22, 3) := by decide +kernel
theorem dX11_weeks_5 : decode cX11_weeks 5 = .ok (.iload_n 1, 1) := by decide +kernel
theorem dX11_weeks_6 : decode cX11_weeks 6 = .ok (.bipush 60, 2) := by decide +kernel
theorem dX11_weeks_8 : decode cX11_weeks 8 = .ok (.if_icmp .gt 16, 3) := by decide +kernel
theorem dX11_weeks_11 : decode cX11_weeks 11 = .ok (.iload_n 2, 1) := by decide +kernel
theorem dX11_weeks_12 : decode cX11_weeks 12 = .ok (.ifCond .lt 12, 3) := by decide +kernel
theorem dX11_weeks_15 : decode cX11_weeks 15 = .ok (.iload_n 3, 1) := by decide +kernel
theorem dX11_weeks_16 : decode cX11_weeks 16 = .ok (.ifCond .lt 8, 3) := by decide +kernel
theorem dX11_weeks_19 : decode cX11_weeks 19 = .ok (.iload_n 3, 1) := by decide +kernel
theorem dX11_weeks_20 : decode cX11_weeks 20 = .ok (.iconst 2, 1) := by decide +kernel
theorem dX11_weeks_21 : decode cX11_weeks 21 = .ok (.if_icmp .le 6, 3) := by decide +kernel
theorem dX11_weeks_24 : decode cX11_weeks 24 = .ok (.bipush (-102), 2) := by decide +kernel
theorem dX11_weeks_26 : decode cX11_weeks 26 = .ok (.ireturn, 1) := by decide +kernel
theorem dX11_weeks_27 : decode cX11_weeks 27 = .ok (.aload_n 0, 1) := by decide +kernel
theorem dX11_weeks_28 : decode cX11_weeks 28 = .ok (.invokevirtual 168, 3) := by decide +kernel
theorem dX11_weeks_31 : decode cX11_weeks 31 = .ok (.ifCond .ne 6, 3) := by decide +kernel
theorem dX11_weeks_34 : decode cX11_weeks 34 = .ok (.bipush (-103), 2) := by decide +kernel
theorem dX11_weeks_36 : decode cX11_weeks 36 = .ok (.ireturn, 1) := by decide +kernel
theorem dX11_weeks_37 : decode cX11_weeks 37 = .ok (.aload_n 0, 1) := by decide +kernel
theorem dX11_weeks_38 : decode cX11_weeks 38 = .ok (.getfield 33, 3) := by decide +kernel
theorem dX11_weeks_41 : decode cX11_weeks 41 = .ok (.aload_n 0, 1) := by decide +kernel
theorem dX11_weeks_42 : decode cX11_weeks 42 = .ok (.getfield 26, 3) := by decide +kernel
theorem dX11_weeks_45 : decode cX11_weeks 45 = .ok (.invokevirtual 198, 3) := by decide +kernel
theorem dX11_weeks_48 : decode cX11_weeks 48 = .ok (.iload_n 2, 1) := by decide +kernel
theorem dX11_weeks_49 : decode cX11_weeks 49 = .ok (.istore 4, 2) := by decide +kernel
theorem dX11_weeks_51 : decode cX11_weeks 51 = .ok (.iconst 0, 1) := by decide +kernel
theorem dX11_weeks_52 : decode cX11_weeks 52 = .ok (.istore 5, 2) := by decide +kernel
theorem dX11_weeks_54 : decode cX11_weeks 54 = .ok (.iload 5, 2) := by decide +kernel
theorem dX11_weeks_56 : decode cX11_weeks 56 = .ok (.iload_n 1, 1) := by decide +kernel
theorem dX11_weeks_57 : decode cX11_weeks 57 = .ok (.if_icmp .ge 51, 3) := by decide +kernel
theorem dX11_weeks_60 : decode cX11_weeks 60 = .ok (.iload 4, 2) := by decide +kernel
theorem dX11_weeks_62 : decode cX11_weeks 62 = .ok (.invokestatic 202, 3) := by decide +kernel
theorem dX11_weeks_65 : decode cX11_weeks 65 = .ok (.istore 6, 2) := by decide +kernel
theorem dX11_weeks_67 : decode cX11_weeks 67 = .ok (.iload 6, 2) := by decide +kernel
theorem dX11_weeks_69 : decode cX11_weeks 69 = .ok (.invokestatic 202, 3) := by decide +kernel
theorem dX11_weeks_72 : decode cX11_weeks 72 = .ok (.istore 4, 2) := by decide +kernel
theorem dX11_weeks_74 : decode cX11_weeks 74 = .ok (.aload_n 0, 1) := by decide +kernel
theorem dX11_weeks_75 : decode cX11_weeks 75 = .ok (.iload 6, 2) := by decide +kernel
theorem dX11_weeks_77 : decode cX11_weeks 77 = .ok (.aload_n 0, 1) := by decide +kernel
theorem dX11_weeks_78 : decode cX11_weeks 78 = .ok (.getfield 19, 3) := by decide +kernel
theorem dX11_weeks_81 : decode cX11_weeks 81 = .ok (.invokevirtual 205, 3) := by decide +kernel
theorem dX11_weeks_84 : decode cX11_weeks 84 = .ok (.invokestatic 208, 3) := by decide +kernel
theorem dX11_weeks_87 : decode cX11_weeks 87 = .ok (.iload 4, 2) := by decide +kernel
theorem dX11_weeks_89 : decode cX11_weeks 89 = .ok (.aload_n 0, 1) := by decide +kernel
theorem dX11_weeks_90 : decode cX11_weeks 90 = .ok (.getfield 19, 3) := by decide +kernel
theorem dX11_weeks_93 : decode cX11_weeks 93 = .ok (.invokevirtual 80, 3) := by decide +kernel
theorem dX11_weeks_96 : decode cX11_weeks 96 = .ok (.invokestatic 208, 3) := by decide +kernel
theorem dX11_weeks_99 : decode cX11_weeks 99 = .ok (.invokevirtual 212, 3) := by decide +kernel
theorem dX11_weeks_102 : decode cX11_weeks 102 = .ok (.iinc 5 1, 3) := by decide +kernel
theorem dX11_weeks_105 : decode cX11_weeks 105 = .ok (.goto (-51), 3) := by decide +kernel
theorem dX11_weeks_108 : decode cX11_weeks 108 = .ok (.iload_n 3, 1) := by decide +kernel
theorem dX11_weeks_109 : decode cX11_weeks 109 = .ok (.lookupswitch 44 #[(0, 27), (1, 35)], 27) := by decide +kernel
theorem dX11_weeks_136 : decode cX11_weeks 136 = .ok (.aload_n 0, 1) := by decide +kernel
theorem dX11_weeks_137 : decode cX11_weeks 137 = .ok (.getfield 33, 3) := by decide +kernel
theorem dX11_weeks_140 : decode cX11_weeks 140 = .ok (.invokevirtual 215, 3) := by decide +kernel
theorem dX11_weeks_143 : decode cX11_weeks 143 = .ok (.ireturn, 1) := by decide +kernel
theorem dX11_weeks_144 : decode cX11_weeks 144 = .ok (.aload_n 0, 1) := by decide +kernel
theorem dX11_weeks_145 : decode cX11_weeks 145 = .ok (.aload_n 0, 1) := by decide +kernel
theorem dX11_weeks_146 : decode cX11_weeks 146 = .ok (.getfield 33, 3) := by decide +kernel
theorem dX11_weeks_149 : decode cX11_weeks 149 = .ok (.invokevirtual 218, 3) := by decide +kernel
theorem dX11_weeks_152 : decode cX11_weeks 152 = .ok (.ireturn, 1) := by decide +kernel
theorem dX11_weeks_153 : decode cX11_weeks 153 = .ok (.iload 4, 2) := by decide +kernel
theorem dX11_weeks_155 : decode cX11_weeks 155 = .ok (.ireturn, 1) := by decide +kernel
theorem dX11_image_0 : decode cX11_image 0 = .ok (.aload_n 0, 1) := by decide +kernel
theorem dX11_image_1 : decode cX11_image 1 = .ok (.invokevirtual 168, 3) := by decide +kernel
theorem dX11_image_4 : decode cX11_image 4 = .ok (.ifCond .ne 6, 3) := by decide +kernel
theorem dX11_image_7 : decode cX11_image 7 = .ok (.bipush (-103), 2) := by decide +kernel
theorem dX11_image_9 : decode cX11_image 9 = .ok (.ireturn, 1) := by decide +kernel
theorem dX11_image_10 : decode cX11_image 10 = .ok (.aload_n 0, 1) := by decide +kernel
theorem dX11_image_11 : decode cX11_image 11 = .ok (.getfield 30, 3) := by decide +kernel
theorem dX11_image_14 : decode cX11_image 14 = .ok (.aload_n 0, 1) := by decide +kernel
theorem dX11_image_15 : decode cX11_image 15 = .ok (.getfield 26, 3) := by decide +kernel
theorem dX11_image_18 : decode cX11_image 18 = .ok (.invokevirtual 198, 3) := by decide +kernel
theorem dX11_image_21 : decode cX11_image 21 = .ok (.aload_n 0, 1) := by decide +kernel
theorem dX11_image_22 : decode cX11_image 22 = .ok (.iconst 1, 1) := by decide +kernel
theorem dX11_image_23 : decode cX11_image 23 = .ok (.putfield 72, 3) := by decide +kernel
theorem dX11_image_26 : decode cX11_image 26 = .ok (.aload_n 0, 1) := by decide +kernel
theorem dX11_image_27 : decode cX11_image 27 = .ok (.getfield 30, 3) := by decide +kernel
theorem dX11_image_30 : decode cX11_image 30 = .ok (.getfield 152, 3) := by decide +kernel
theorem dX11_image_33 : decode cX11_image 33 = .ok (.ireturn, 1) := by decide +kernel
theorem dX11_restore_0 : decode cX11_restore 0 = .ok (.aload_n 0, 1) := by decide +kernel
theorem dX11_restore_1 : decode cX11_restore 1 = .ok (.getfield 72, 3) := by decide +kernel
theorem dX11_restore_4 : decode cX11_restore 4 = .ok (.ifCond .ne 6, 3) := by decide +kernel
theorem dX11_restore_7 : decode cX11_restore 7 = .ok (.bipush (-103), 2) := by decide +kernel
theorem dX11_restore_9 : decode cX11_restore 9 = .ok (.ireturn, 1) := by decide +kernel
theorem dX11_restore_10 : decode cX11_restore 10 = .ok (.aload_n 0, 1) := by decide +kernel
theorem dX11_restore_11 : decode cX11_restore 11 = .ok (.getfield 26, 3) := by decide +kernel
theorem dX11_restore_14 : decode cX11_restore 14 = .ok (.aload_n 0, 1) := by decide +kernel
theorem dX11_restore_15 : decode cX11_restore 15 = .ok (.getfield 30, 3) := by decide +kernel
theorem dX11_restore_18 : decode cX11_restore 18 = .ok (.invokevirtual 198, 3) := by decide +kernel
theorem dX11_restore_21 : decode cX11_restore 21 = .ok (.aload_n 0, 1) := by decide +kernel
theorem dX11_restore_22 : decode cX11_restore 22 = .ok (.getfield 26, 3) := by decide +kernel
theorem dX11_restore_25 : decode cX11_restore 25 = .ok (.getfield 152, 3) := by decide +kernel
theorem dX11_restore_28 : decode cX11_restore 28 = .ok (.ireturn, 1) := by decide +kernel
theorem dX11_count_0 : decode cX11_count 0 = .ok (.iload_n 1, 1) := by decide +kernel
theorem dX11_count_1 : decode cX11_count 1 = .ok (.ifCond .lt 9, 3) := by decide +kernel
theorem dX11_count_4 : decode cX11_count 4 = .ok (.iload_n 1, 1) := by decide +kernel
theorem dX11_count_5 : decode cX11_count 5 = .ok (.bipush 9, 2) := by decide +kernel
theorem dX11_count_7 : decode cX11_count 7 = .ok (.if_icmp .le 6, 3) := by decide +kernel
theorem dX11_count_10 : decode cX11_count 10 = .ok (.bipush (-102), 2) := by decide +kernel
theorem dX11_count_12 : decode cX11_count 12 = .ok (.ireturn, 1) := by decide +kernel
theorem dX11_count_13 : decode cX11_count 13 = .ok (.iload_n 1, 1) := by decide +kernel
theorem dX11_count_14 : decode cX11_count 14 = .ok (.tableswitch 123 0 8 #[50, 58, 66, 74, 83, 91, 99, 110, 118], 50) := by decide +kernel
theorem dX11_count_64 : decode cX11_count 64 = .ok (.aload_n 0, 1) := by decide +kernel
theorem dX11_count_65 : decode cX11_count 65 = .ok (.getfield 19, 3) := by decide +kernel
theorem dX11_count_68 : decode cX11_count 68 = .ok (.invokevirtual 205, 3) := by decide +kernel
theorem dX11_count_71 : decode cX11_count 71 = .ok (.ireturn, 1) := by decide +kernel
theorem dX11_count_72 : decode cX11_count 72 = .ok (.aload_n 0, 1) := by decide +kernel
theorem dX11_count_73 : decode cX11_count 73 = .ok (.getfield 19, 3) := by decide +kernel
theorem dX11_count_76 : decode cX11_count 76 = .ok (.invokevirtual 80, 3) := by decide +kernel
theorem dX11_count_79 : decode cX11_count 79 = .ok (.ireturn, 1) := by decide +kernel
theorem dX11_count_80 : decode cX11_count 80 = .ok (.aload_n 0, 1) := by decide +kernel
theorem dX11_count_81 : decode cX11_count 81 = .ok (.getfield 26, 3) := by decide +kernel
theorem dX11_count_84 : decode cX11_count 84 = .ok (.invokevirtual 215, 3) := by decide +kernel
theorem dX11_count_87 : decode cX11_count 87 = .ok (.ireturn, 1) := by decide +kernel
theorem dX11_count_88 : decode cX11_count 88 = .ok (.aload_n 0, 1) := by decide +kernel
theorem dX11_count_89 : decode cX11_count 89 = .ok (.aload_n 0, 1) := by decide +kernel
theorem dX11_count_90 : decode cX11_count 90 = .ok (.getfield 26, 3) := by decide +kernel
theorem dX11_count_93 : decode cX11_count 93 = .ok (.invokevirtual 218, 3) := by decide +kernel
theorem dX11_count_96 : decode cX11_count 96 = .ok (.ireturn, 1) := by decide +kernel
theorem dX11_count_97 : decode cX11_count 97 = .ok (.aload_n 0, 1) := by decide +kernel
theorem dX11_count_98 : decode cX11_count 98 = .ok (.getfield 26, 3) := by decide +kernel
theorem dX11_count_101 : decode cX11_count 101 = .ok (.getfield 162, 3) := by decide +kernel
theorem dX11_count_104 : decode cX11_count 104 = .ok (.ireturn, 1) := by decide +kernel
theorem dX11_count_105 : decode cX11_count 105 = .ok (.aload_n 0, 1) := by decide +kernel
theorem dX11_count_106 : decode cX11_count 106 = .ok (.getfield 26, 3) := by decide +kernel
theorem dX11_count_109 : decode cX11_count 109 = .ok (.getfield 152, 3) := by decide +kernel
theorem dX11_count_112 : decode cX11_count 112 = .ok (.ireturn, 1) := by decide +kernel
theorem dX11_count_113 : decode cX11_count 113 = .ok (.aload_n 0, 1) := by decide +kernel
theorem dX11_count_114 : decode cX11_count 114 = .ok (.getfield 26, 3) := by decide +kernel
theorem dX11_count_117 : decode cX11_count 117 = .ok (.getfield 184, 3) := by decide +kernel
theorem dX11_count_120 : decode cX11_count 120 = .ok (.invokevirtual 194, 3) := by decide +kernel
theorem dX11_count_123 : decode cX11_count 123 = .ok (.ireturn, 1) := by decide +kernel
theorem dX11_count_124 : decode cX11_count 124 = .ok (.aload_n 0, 1) := by decide +kernel
theorem dX11_count_125 : decode cX11_count 125 = .ok (.getfield 10, 3) := by decide +kernel
theorem dX11_count_128 : decode cX11_count 128 = .ok (.invokevirtual 51, 3) := by decide +kernel
theorem dX11_count_131 : decode cX11_count 131 = .ok (.ireturn, 1) := by decide +kernel
theorem dX11_count_132 : decode cX11_count 132 = .ok (.aload_n 0, 1) := by decide +kernel
theorem dX11_count_133 : decode cX11_count 133 = .ok (.getfield 76, 3) := by decide +kernel
theorem dX11_count_136 : decode cX11_count 136 = .ok (.ireturn, 1) := by decide +kernel
theorem dX11_count_137 : decode cX11_count 137 = .ok (.aload_n 0, 1) := by decide +kernel
theorem dX11_count_138 : decode cX11_count 138 = .ok (.getfield 177, 3) := by decide +kernel
theorem dX11_count_141 : decode cX11_count 141 = .ok (.ireturn, 1) := by decide +kernel
theorem dX11_digest_0 : decode cX11_digest 0 = .ok (.ldc2_w 222, 3) := by decide +kernel
theorem dX11_digest_3 : decode cX11_digest 3 = .ok (.lstore_n 1, 1) := by decide +kernel
theorem dX11_digest_4 : decode cX11_digest 4 = .ok (.iconst 0, 1) := by decide +kernel
theorem dX11_digest_5 : decode cX11_digest 5 = .ok (.istore_n 3, 1) := by decide +kernel
theorem dX11_digest_6 : decode cX11_digest 6 = .ok (.iload_n 3, 1) := by decide +kernel
theorem dX11_digest_7 : decode cX11_digest 7 = .ok (.aload_n 0, 1) := by decide +kernel
theorem dX11_digest_8 : decode cX11_digest 8 = .ok (.getfield 19, 3) := by decide +kernel
theorem dX11_digest_11 : decode cX11_digest 11 = .ok (.invokevirtual 205, 3) := by decide +kernel
theorem dX11_digest_14 : decode cX11_digest 14 = .ok (.if_icmp .ge 40, 3) := by decide +kernel
theorem dX11_digest_17 : decode cX11_digest 17 = .ok (.iconst 0, 1) := by decide +kernel
theorem dX11_digest_18 : decode cX11_digest 18 = .ok (.istore 4, 2) := by decide +kernel
theorem dX11_digest_20 : decode cX11_digest 20 = .ok (.iload 4, 2) := by decide +kernel
theorem dX11_digest_22 : decode cX11_digest 22 = .ok (.bipush 8, 2) := by decide +kernel
theorem dX11_digest_24 : decode cX11_digest 24 = .ok (.if_icmp .gt 24, 3) := by decide +kernel
theorem dX11_digest_27 : decode cX11_digest 27 = .ok (.ldc2_w 224, 3) := by decide +kernel
theorem dX11_digest_30 : decode cX11_digest 30 = .ok (.lload_n 1, 1) := by decide +kernel
theorem dX11_digest_31 : decode cX11_digest 31 = .ok (.lmul, 1) := by decide +kernel
theorem dX11_digest_32 : decode cX11_digest 32 = .ok (.aload_n 0, 1) := by decide +kernel
theorem dX11_digest_33 : decode cX11_digest 33 = .ok (.iload_n 3, 1) := by decide +kernel
theorem dX11_digest_34 : decode cX11_digest 34 = .ok (.iload 4, 2) := by decide +kernel
theorem dX11_digest_36 : decode cX11_digest 36 = .ok (.invokevirtual 226, 3) := by decide +kernel
theorem dX11_digest_39 : decode cX11_digest 39 = .ok (.i2l, 1) := by decide +kernel
theorem dX11_digest_40 : decode cX11_digest 40 = .ok (.ladd, 1) := by decide +kernel
theorem dX11_digest_41 : decode cX11_digest 41 = .ok (.lstore_n 1, 1) := by decide +kernel
theorem dX11_digest_42 : decode cX11_digest 42 = .ok (.iinc 4 1, 3) := by decide +kernel
theorem dX11_digest_45 : decode cX11_digest 45 = .ok (.goto (-25), 3) := by decide +kernel
theorem dX11_digest_48 : decode cX11_digest 48 = .ok (.iinc 3 1, 3) := by decide +kernel
theorem dX11_digest_51 : decode cX11_digest 51 = .ok (.goto (-45), 3) := by decide +kernel
theorem dX11_digest_54 : decode cX11_digest 54 = .ok (.iconst 0, 1) := by decide +kernel
theorem dX11_digest_55 : decode cX11_digest 55 = .ok (.istore_n 3, 1) := by decide +kernel
theorem dX11_digest_56 : decode cX11_digest 56 = .ok (.iload_n 3, 1) := by decide +kernel
theorem dX11_digest_57 : decode cX11_digest 57 = .ok (.aload_n 0, 1) := by decide +kernel
theorem dX11_digest_58 : decode cX11_digest 58 = .ok (.getfield 19, 3) := by decide +kernel
theorem dX11_digest_61 : decode cX11_digest 61 = .ok (.invokevirtual 80, 3) := by decide +kernel
theorem dX11_digest_64 : decode cX11_digest 64 = .ok (.if_icmp .ge 39, 3) := by decide +kernel
theorem dX11_digest_67 : decode cX11_digest 67 = .ok (.iconst 0, 1) := by decide +kernel
theorem dX11_digest_68 : decode cX11_digest 68 = .ok (.istore 4, 2) := by decide +kernel
theorem dX11_digest_70 : decode cX11_digest 70 = .ok (.iload 4, 2) := by decide +kernel
theorem dX11_digest_72 : decode cX11_digest 72 = .ok (.iconst 5, 1) := by decide +kernel
theorem dX11_digest_73 : decode cX11_digest 73 = .ok (.if_icmp .gt 24, 3) := by decide +kernel
theorem dX11_digest_76 : decode cX11_digest 76 = .ok (.ldc2_w 224, 3) := by decide +kernel
theorem dX11_digest_79 : decode cX11_digest 79 = .ok (.lload_n 1, 1) := by decide +kernel
theorem dX11_digest_80 : decode cX11_digest 80 = .ok (.lmul, 1) := by decide +kernel
theorem dX11_digest_81 : decode cX11_digest 81 = .ok (.aload_n 0, 1) := by decide +kernel
theorem dX11_digest_82 : decode cX11_digest 82 = .ok (.iload_n 3, 1) := by decide +kernel
theorem dX11_digest_83 : decode cX11_digest 83 = .ok (.iload 4, 2) := by decide +kernel
theorem dX11_digest_85 : decode cX11_digest 85 = .ok (.invokevirtual 229, 3) := by decide +kernel
theorem dX11_digest_88 : decode cX11_digest 88 = .ok (.i2l, 1) := by decide +kernel
theorem dX11_digest_89 : decode cX11_digest 89 = .ok (.ladd, 1) := by decide +kernel
theorem dX11_digest_90 : decode cX11_digest 90 = .ok (.lstore_n 1, 1) := by decide +kernel
theorem dX11_digest_91 : decode cX11_digest 91 = .ok (.iinc 4 1, 3) := by decide +kernel
theorem dX11_digest_94 : decode cX11_digest 94 = .ok (.goto (-24), 3) := by decide +kernel
theorem dX11_digest_97 : decode cX11_digest 97 = .ok (.iinc 3 1, 3) := by decide +kernel
theorem dX11_digest_100 : decode cX11_digest 100 = .ok (.goto (-44), 3) := by decide +kernel
theorem dX11_digest_103 : decode cX11_digest 103 = .ok (.aload_n 0, 1) := by decide +kernel
theorem dX11_digest_104 : decode cX11_digest 104 = .ok (.invokevirtual 168, 3) := by decide +kernel
theorem dX11_digest_107 : decode cX11_digest 107 = .ok (.ifCond .eq 9, 3) := by decide +kernel
theorem dX11_digest_110 : decode cX11_digest 110 = .ok (.aload_n 0, 1) := by decide +kernel
theorem dX11_digest_111 : decode cX11_digest 111 = .ok (.lload_n 1, 1) := by decide +kernel
theorem dX11_digest_112 : decode cX11_digest 112 = .ok (.invokevirtual 232, 3) := by decide +kernel
theorem dX11_digest_115 : decode cX11_digest 115 = .ok (.lstore_n 1, 1) := by decide +kernel
theorem dX11_digest_116 : decode cX11_digest 116 = .ok (.iconst 0, 1) := by decide +kernel
theorem dX11_digest_117 : decode cX11_digest 117 = .ok (.istore_n 3, 1) := by decide +kernel
theorem dX11_digest_118 : decode cX11_digest 118 = .ok (.iload_n 3, 1) := by decide +kernel
theorem dX11_digest_119 : decode cX11_digest 119 = .ok (.aload_n 0, 1) := by decide +kernel
theorem dX11_digest_120 : decode cX11_digest 120 = .ok (.getfield 10, 3) := by decide +kernel
theorem dX11_digest_123 : decode cX11_digest 123 = .ok (.invokevirtual 51, 3) := by decide +kernel
theorem dX11_digest_126 : decode cX11_digest 126 = .ok (.if_icmp .ge 25, 3) := by decide +kernel
theorem dX11_digest_129 : decode cX11_digest 129 = .ok (.ldc2_w 224, 3) := by decide +kernel
theorem dX11_digest_132 : decode cX11_digest 132 = .ok (.lload_n 1, 1) := by decide +kernel
theorem dX11_digest_133 : decode cX11_digest 133 = .ok (.lmul, 1) := by decide +kernel
theorem dX11_digest_134 : decode cX11_digest 134 = .ok (.aload_n 0, 1) := by decide +kernel
theorem dX11_digest_135 : decode cX11_digest 135 = .ok (.getfield 10, 3) := by decide +kernel
theorem dX11_digest_138 : decode cX11_digest 138 = .ok (.iload_n 3, 1) := by decide +kernel
theorem dX11_digest_139 : decode cX11_digest 139 = .ok (.invokevirtual 236, 3) := by decide +kernel
theorem dX11_digest_142 : decode cX11_digest 142 = .ok (.i2l, 1) := by decide +kernel
theorem dX11_digest_143 : decode cX11_digest 143 = .ok (.ladd, 1) := by decide +kernel
theorem dX11_digest_144 : decode cX11_digest 144 = .ok (.lstore_n 1, 1) := by decide +kernel
theorem dX11_digest_145 : decode cX11_digest 145 = .ok (.iinc 3 1, 3) := by decide +kernel
theorem dX11_digest_148 : decode cX11_digest 148 = .ok (.goto (-30), 3) := by decide +kernel
theorem dX11_digest_151 : decode cX11_digest 151 = .ok (.iconst 0, 1) := by decide +kernel
theorem dX11_digest_152 : decode cX11_digest 152 = .ok (.istore_n 3, 1) := by decide +kernel
theorem dX11_digest_153 : decode cX11_digest 153 = .ok (.iload_n 3, 1) := by decide +kernel
theorem dX11_digest_154 : decode cX11_digest 154 = .ok (.bipush 9, 2) := by decide +kernel
theorem dX11_digest_156 : decode cX11_digest 156 = .ok (.if_icmp .gt 22, 3) := by decide +kernel
theorem dX11_digest_159 : decode cX11_digest 159 = .ok (.ldc2_w 224, 3) := by decide +kernel
theorem dX11_digest_162 : decode cX11_digest 162 = .ok (.lload_n 1, 1) := by decide +kernel
theorem dX11_digest_163 : decode cX11_digest 163 = .ok (.lmul, 1) := by decide +kernel
theorem dX11_digest_164 : decode cX11_digest 164 = .ok (.aload_n 0, 1) := by decide +kernel
theorem dX11_digest_165 : decode cX11_digest 165 = .ok (.iload_n 3, 1) := by decide +kernel
theorem dX11_digest_166 : decode cX11_digest 166 = .ok (.invokevirtual 239, 3) := by decide +kernel
theorem dX11_digest_169 : decode cX11_digest 169 = .ok (.i2l, 1) := by decide +kernel
theorem dX11_digest_170 : decode cX11_digest 170 = .ok (.ladd, 1) := by decide +kernel
theorem dX11_digest_171 : decode cX11_digest 171 = .ok (.lstore_n 1, 1) := by decide +kernel
theorem dX11_digest_172 : decode cX11_digest 172 = .ok (.iinc 3 1, 3) := by decide +kernel
theorem dX11_digest_175 : decode cX11_digest 175 = .ok (.goto (-22), 3) := by decide +kernel
theorem dX11_digest_178 : decode cX11_digest 178 = .ok (.lload_n 1, 1) := by decide +kernel
theorem dX11_digest_179 : decode cX11_digest 179 = .ok (.lreturn, 1) := by decide +kernel
theorem dX11_isOpen_0 : decode cX11_isOpen 0 = .ok (.aload_n 0, 1) := by decide +kernel
theorem dX11_isOpen_1 : decode cX11_isOpen 1 = .ok (.getfield 19, 3) := by decide +kernel
theorem dX11_isOpen_4 : decode cX11_isOpen 4 = .ok (.invokevirtual 205, 3) := by decide +kernel
theorem dX11_isOpen_7 : decode cX11_isOpen 7 = .ok (.ifCond .le 7, 3) := by decide +kernel
theorem dX11_isOpen_10 : decode cX11_isOpen 10 = .ok (.iconst 1, 1) := by decide +kernel
theorem dX11_isOpen_11 : decode cX11_isOpen 11 = .ok (.goto 4, 3) := by decide +kernel
theorem dX11_isOpen_14 : decode cX11_isOpen 14 = .ok (.iconst 0, 1) := by decide +kernel
theorem dX11_isOpen_15 : decode cX11_isOpen 15 = .ok (.ireturn, 1) := by decide +kernel
theorem dX11_isSize_0 : decode cX11_isSize 0 = .ok (.iload_n 0, 1) := by decide +kernel
theorem dX11_isSize_1 : decode cX11_isSize 1 = .ok (.iconst 1, 1) := by decide +kernel
theorem dX11_isSize_2 : decode cX11_isSize 2 = .ok (.if_icmp .lt 13, 3) := by decide +kernel
theorem dX11_isSize_5 : decode cX11_isSize 5 = .ok (.iload_n 0, 1) := by decide +kernel
end
section
theorem dX11_isSize_6 : decode cX11_isSize 6 = .ok (.bipush 9, 2) := by decide +kernel
theorem dX11_isSize_8 : decode cX11_isSize 8 = .ok (.if_icmp .gt 7, 3) := by decide +kernel
theorem dX11_isSize_11 : decode cX11_isSize 11 = .ok (.iconst 1, 1) := by decide +kernel
theorem dX11_isSize_12 : decode cX11_isSize 12 = .ok (.goto 4, 3) := by decide +kernel
theorem dX11_isSize_15 : decode cX11_isSize 15 = .ok (.iconst 0, 1) := by decide +kernel
theorem dX11_isSize_16 : decode cX11_isSize 16 = .ok (.ireturn, 1) := by decide +kernel
theorem dX11_isOfKind_0 : decode cX11_isOfKind 0 = .ok (.iload_n 1, 1) := by decide +kernel
theorem dX11_isOfKind_1 : decode cX11_isOfKind 1 = .ok (.tableswitch 48 0 3 #[31, 33, 38, 43], 31) := by decide +kernel
theorem dX11_isOfKind_32 : decode cX11_isOfKind 32 = .ok (.iconst 1, 1) := by decide +kernel
theorem dX11_isOfKind_33 : decode cX11_isOfKind 33 = .ok (.ireturn, 1) := by decide +kernel
theorem dX11_isOfKind_34 : decode cX11_isOfKind 34 = .ok (.aload_n 0, 1) := by decide +kernel
theorem dX11_isOfKind_35 : decode cX11_isOfKind 35 = .ok (.instanceof 242, 3) := by decide +kernel
theorem dX11_isOfKind_38 : decode cX11_isOfKind 38 = .ok (.ireturn, 1) := by decide +kernel
theorem dX11_isOfKind_39 : decode cX11_isOfKind 39 = .ok (.aload_n 0, 1) := by decide +kernel
theorem dX11_isOfKind_40 : decode cX11_isOfKind 40 = .ok (.instanceof 244, 3) := by decide +kernel
theorem dX11_isOfKind_43 : decode cX11_isOfKind 43 = .ok (.ireturn, 1) := by decide +kernel
theorem dX11_isOfKind_44 : decode cX11_isOfKind 44 = .ok (.aload_n 0, 1) := by decide +kernel
theorem dX11_isOfKind_45 : decode cX11_isOfKind 45 = .ok (.instanceof 246, 3) := by decide +kernel
theorem dX11_isOfKind_48 : decode cX11_isOfKind 48 = .ok (.ireturn, 1) := by decide +kernel
theorem dX11_isOfKind_49 : decode cX11_isOfKind 49 = .ok (.aload_n 0, 1) := by decide +kernel
theorem dX11_isOfKind_50 : decode cX11_isOfKind 50 = .ok (.instanceof 248, 3) := by decide +kernel
theorem dX11_isOfKind_53 : decode cX11_isOfKind 53 = .ok (.ireturn, 1) := by decide +kernel
theorem dX11_isFitting_0 : decode cX11_isFitting 0 = .ok (.aload_n 0, 1) := by decide +kernel
theorem dX11_isFitting_1 : decode cX11_isFitting 1 = .ok (.getfield 19, 3) := by decide +kernel
theorem dX11_isFitting_4 : decode cX11_isFitting 4 = .ok (.iload_n 1, 1) := by decide +kernel
theorem dX11_isFitting_5 : decode cX11_isFitting 5 = .ok (.invokevirtual 83, 3) := by decide +kernel
theorem dX11_isFitting_8 : decode cX11_isFitting 8 = .ok (.astore 4, 2) := by decide +kernel
theorem dX11_isFitting_10 : decode cX11_isFitting 10 = .ok (.aload_n 0, 1) := by decide +kernel
theorem dX11_isFitting_11 : decode cX11_isFitting 11 = .ok (.getfield 19, 3) := by decide +kernel
theorem dX11_isFitting_14 : decode cX11_isFitting 14 = .ok (.iload_n 2, 1) := by decide +kernel
theorem dX11_isFitting_15 : decode cX11_isFitting 15 = .ok (.invokevirtual 122, 3) := by decide +kernel
theorem dX11_isFitting_18 : decode cX11_isFitting 18 = .ok (.astore 5, 2) := by decide +kernel
theorem dX11_isFitting_20 : decode cX11_isFitting 20 = .ok (.aload 4, 2) := by decide +kernel
theorem dX11_isFitting_22 : decode cX11_isFitting 22 = .ok (.ifnull 31, 3) := by decide +kernel
theorem dX11_isFitting_25 : decode cX11_isFitting 25 = .ok (.aload 5, 2) := by decide +kernel
theorem dX11_isFitting_27 : decode cX11_isFitting 27 = .ok (.ifnull 26, 3) := by decide +kernel
theorem dX11_isFitting_30 : decode cX11_isFitting 30 = .ok (.aload 4, 2) := by decide +kernel
theorem dX11_isFitting_32 : decode cX11_isFitting 32 = .ok (.aload 4, 2) := by decide +kernel
theorem dX11_isFitting_34 : decode cX11_isFitting 34 = .ok (.getfield 92, 3) := by decide +kernel
theorem dX11_isFitting_37 : decode cX11_isFitting 37 = .ok (.iload_n 3, 1) := by decide +kernel
theorem dX11_isFitting_38 : decode cX11_isFitting 38 = .ok (.aload 5, 2) := by decide +kernel
theorem dX11_isFitting_40 : decode cX11_isFitting 40 = .ok (.getfield 129, 3) := by decide +kernel
theorem dX11_isFitting_43 : decode cX11_isFitting 43 = .ok (.invokevirtual 250, 3) := by decide +kernel
theorem dX11_isFitting_46 : decode cX11_isFitting 46 = .ok (.ifCond .eq 7, 3) := by decide +kernel
theorem dX11_isFitting_49 : decode cX11_isFitting 49 = .ok (.iconst 1, 1) := by decide +kernel
theorem dX11_isFitting_50 : decode cX11_isFitting 50 = .ok (.goto 4, 3) := by decide +kernel
theorem dX11_isFitting_53 : decode cX11_isFitting 53 = .ok (.iconst 0, 1) := by decide +kernel
theorem dX11_isFitting_54 : decode cX11_isFitting 54 = .ok (.ireturn, 1) := by decide +kernel
theorem dX11_crimesFitting_0 : decode cX11_crimesFitting 0 = .ok (.iconst 0, 1) := by decide +kernel
theorem dX11_crimesFitting_1 : decode cX11_crimesFitting 1 = .ok (.istore_n 2, 1) := by decide +kernel
theorem dX11_crimesFitting_2 : decode cX11_crimesFitting 2 = .ok (.iconst 0, 1) := by decide +kernel
theorem dX11_crimesFitting_3 : decode cX11_crimesFitting 3 = .ok (.istore_n 3, 1) := by decide +kernel
theorem dX11_crimesFitting_4 : decode cX11_crimesFitting 4 = .ok (.iload_n 3, 1) := by decide +kernel
theorem dX11_crimesFitting_5 : decode cX11_crimesFitting 5 = .ok (.aload_n 0, 1) := by decide +kernel
theorem dX11_crimesFitting_6 : decode cX11_crimesFitting 6 = .ok (.getfield 19, 3) := by decide +kernel
theorem dX11_crimesFitting_9 : decode cX11_crimesFitting 9 = .ok (.invokevirtual 80, 3) := by decide +kernel
theorem dX11_crimesFitting_12 : decode cX11_crimesFitting 12 = .ok (.if_icmp .ge 32, 3) := by decide +kernel
theorem dX11_crimesFitting_15 : decode cX11_crimesFitting 15 = .ok (.aload_n 0, 1) := by decide +kernel
theorem dX11_crimesFitting_16 : decode cX11_crimesFitting 16 = .ok (.iload_n 1, 1) := by decide +kernel
theorem dX11_crimesFitting_17 : decode cX11_crimesFitting 17 = .ok (.iload_n 3, 1) := by decide +kernel
theorem dX11_crimesFitting_18 : decode cX11_crimesFitting 18 = .ok (.aload_n 0, 1) := by decide +kernel
theorem dX11_crimesFitting_19 : decode cX11_crimesFitting 19 = .ok (.getfield 26, 3) := by decide +kernel
theorem dX11_crimesFitting_22 : decode cX11_crimesFitting 22 = .ok (.iload_n 3, 1) := by decide +kernel
theorem dX11_crimesFitting_23 : decode cX11_crimesFitting 23 = .ok (.invokevirtual 126, 3) := by decide +kernel
theorem dX11_crimesFitting_26 : decode cX11_crimesFitting 26 = .ok (.invokevirtual 254, 3) := by decide +kernel
theorem dX11_crimesFitting_29 : decode cX11_crimesFitting 29 = .ok (.ifCond .eq 9, 3) := by decide +kernel
theorem dX11_crimesFitting_32 : decode cX11_crimesFitting 32 = .ok (.iload_n 2, 1) := by decide +kernel
theorem dX11_crimesFitting_33 : decode cX11_crimesFitting 33 = .ok (.iconst 1, 1) := by decide +kernel
theorem dX11_crimesFitting_34 : decode cX11_crimesFitting 34 = .ok (.iload_n 3, 1) := by decide +kernel
theorem dX11_crimesFitting_35 : decode cX11_crimesFitting 35 = .ok (.ishl, 1) := by decide +kernel
theorem dX11_crimesFitting_36 : decode cX11_crimesFitting 36 = .ok (.ior, 1) := by decide +kernel
theorem dX11_crimesFitting_37 : decode cX11_crimesFitting 37 = .ok (.istore_n 2, 1) := by decide +kernel
theorem dX11_crimesFitting_38 : decode cX11_crimesFitting 38 = .ok (.iinc 3 1, 3) := by decide +kernel
theorem dX11_crimesFitting_41 : decode cX11_crimesFitting 41 = .ok (.goto (-37), 3) := by decide +kernel
theorem dX11_crimesFitting_44 : decode cX11_crimesFitting 44 = .ok (.iload_n 2, 1) := by decide +kernel
theorem dX11_crimesFitting_45 : decode cX11_crimesFitting 45 = .ok (.ireturn, 1) := by decide +kernel
theorem dX11_peopleFitted_0 : decode cX11_peopleFitted 0 = .ok (.iconst 0, 1) := by decide +kernel
theorem dX11_peopleFitted_1 : decode cX11_peopleFitted 1 = .ok (.istore_n 2, 1) := by decide +kernel
theorem dX11_peopleFitted_2 : decode cX11_peopleFitted 2 = .ok (.iconst 0, 1) := by decide +kernel
theorem dX11_peopleFitted_3 : decode cX11_peopleFitted 3 = .ok (.istore_n 3, 1) := by decide +kernel
theorem dX11_peopleFitted_4 : decode cX11_peopleFitted 4 = .ok (.iload_n 3, 1) := by decide +kernel
theorem dX11_peopleFitted_5 : decode cX11_peopleFitted 5 = .ok (.aload_n 0, 1) := by decide +kernel
theorem dX11_peopleFitted_6 : decode cX11_peopleFitted 6 = .ok (.getfield 19, 3) := by decide +kernel
theorem dX11_peopleFitted_9 : decode cX11_peopleFitted 9 = .ok (.invokevirtual 205, 3) := by decide +kernel
theorem dX11_peopleFitted_12 : decode cX11_peopleFitted 12 = .ok (.if_icmp .ge 32, 3) := by decide +kernel
theorem dX11_peopleFitted_15 : decode cX11_peopleFitted 15 = .ok (.aload_n 0, 1) := by decide +kernel
theorem dX11_peopleFitted_16 : decode cX11_peopleFitted 16 = .ok (.iload_n 3, 1) := by decide +kernel
theorem dX11_peopleFitted_17 : decode cX11_peopleFitted 17 = .ok (.iload_n 1, 1) := by decide +kernel
theorem dX11_peopleFitted_18 : decode cX11_peopleFitted 18 = .ok (.aload_n 0, 1) := by decide +kernel
theorem dX11_peopleFitted_19 : decode cX11_peopleFitted 19 = .ok (.getfield 26, 3) := by decide +kernel
theorem dX11_peopleFitted_22 : decode cX11_peopleFitted 22 = .ok (.iload_n 1, 1) := by decide +kernel
theorem dX11_peopleFitted_23 : decode cX11_peopleFitted 23 = .ok (.invokevirtual 126, 3) := by decide +kernel
theorem dX11_peopleFitted_26 : decode cX11_peopleFitted 26 = .ok (.invokevirtual 254, 3) := by decide +kernel
theorem dX11_peopleFitted_29 : decode cX11_peopleFitted 29 = .ok (.ifCond .eq 9, 3) := by decide +kernel
theorem dX11_peopleFitted_32 : decode cX11_peopleFitted 32 = .ok (.iload_n 2, 1) := by decide +kernel
theorem dX11_peopleFitted_33 : decode cX11_peopleFitted 33 = .ok (.iconst 1, 1) := by decide +kernel
theorem dX11_peopleFitted_34 : decode cX11_peopleFitted 34 = .ok (.iload_n 3, 1) := by decide +kernel
theorem dX11_peopleFitted_35 : decode cX11_peopleFitted 35 = .ok (.ishl, 1) := by decide +kernel
theorem dX11_peopleFitted_36 : decode cX11_peopleFitted 36 = .ok (.ior, 1) := by decide +kernel
theorem dX11_peopleFitted_37 : decode cX11_peopleFitted 37 = .ok (.istore_n 2, 1) := by decide +kernel
theorem dX11_peopleFitted_38 : decode cX11_peopleFitted 38 = .ok (.iinc 3 1, 3) := by decide +kernel
theorem dX11_peopleFitted_41 : decode cX11_peopleFitted 41 = .ok (.goto (-37), 3) := by decide +kernel
theorem dX11_peopleFitted_44 : decode cX11_peopleFitted 44 = .ok (.iload_n 2, 1) := by decide +kernel
theorem dX11_peopleFitted_45 : decode cX11_peopleFitted 45 = .ok (.ireturn, 1) := by decide +kernel
theorem dX11_halvesOf_0 : decode cX11_halvesOf 0 = .ok (.iconst 0, 1) := by decide +kernel
theorem dX11_halvesOf_1 : decode cX11_halvesOf 1 = .ok (.istore_n 2, 1) := by decide +kernel
theorem dX11_halvesOf_2 : decode cX11_halvesOf 2 = .ok (.iload_n 2, 1) := by decide +kernel
theorem dX11_halvesOf_3 : decode cX11_halvesOf 3 = .ok (.aload_n 0, 1) := by decide +kernel
theorem dX11_halvesOf_4 : decode cX11_halvesOf 4 = .ok (.getfield 19, 3) := by decide +kernel
theorem dX11_halvesOf_7 : decode cX11_halvesOf 7 = .ok (.invokevirtual 205, 3) := by decide +kernel
theorem dX11_halvesOf_10 : decode cX11_halvesOf 10 = .ok (.if_icmp .ge 47, 3) := by decide +kernel
theorem dX11_halvesOf_13 : decode cX11_halvesOf 13 = .ok (.iload_n 2, 1) := by decide +kernel
theorem dX11_halvesOf_14 : decode cX11_halvesOf 14 = .ok (.iconst 1, 1) := by decide +kernel
theorem dX11_halvesOf_15 : decode cX11_halvesOf 15 = .ok (.iadd, 1) := by decide +kernel
theorem dX11_halvesOf_16 : decode cX11_halvesOf 16 = .ok (.istore_n 3, 1) := by decide +kernel
theorem dX11_halvesOf_17 : decode cX11_halvesOf 17 = .ok (.iload_n 3, 1) := by decide +kernel
theorem dX11_halvesOf_18 : decode cX11_halvesOf 18 = .ok (.aload_n 0, 1) := by decide +kernel
theorem dX11_halvesOf_19 : decode cX11_halvesOf 19 = .ok (.getfield 19, 3) := by decide +kernel
theorem dX11_halvesOf_22 : decode cX11_halvesOf 22 = .ok (.invokevirtual 205, 3) := by decide +kernel
theorem dX11_halvesOf_25 : decode cX11_halvesOf 25 = .ok (.if_icmp .ge 26, 3) := by decide +kernel
theorem dX11_halvesOf_28 : decode cX11_halvesOf 28 = .ok (.aload_n 0, 1) := by decide +kernel
theorem dX11_halvesOf_29 : decode cX11_halvesOf 29 = .ok (.iload_n 2, 1) := by decide +kernel
theorem dX11_halvesOf_30 : decode cX11_halvesOf 30 = .ok (.iload_n 3, 1) := by decide +kernel
theorem dX11_halvesOf_31 : decode cX11_halvesOf 31 = .ok (.iload_n 1, 1) := by decide +kernel
theorem dX11_halvesOf_32 : decode cX11_halvesOf 32 = .ok (.invokevirtual 257, 3) := by decide +kernel
theorem dX11_halvesOf_35 : decode cX11_halvesOf 35 = .ok (.ifCond .eq 10, 3) := by decide +kernel
theorem dX11_halvesOf_38 : decode cX11_halvesOf 38 = .ok (.bipush 10, 2) := by decide +kernel
theorem dX11_halvesOf_40 : decode cX11_halvesOf 40 = .ok (.iload_n 2, 1) := by decide +kernel
theorem dX11_halvesOf_41 : decode cX11_halvesOf 41 = .ok (.imul, 1) := by decide +kernel
theorem dX11_halvesOf_42 : decode cX11_halvesOf 42 = .ok (.iload_n 3, 1) := by decide +kernel
theorem dX11_halvesOf_43 : decode cX11_halvesOf 43 = .ok (.iadd, 1) := by decide +kernel
theorem dX11_halvesOf_44 : decode cX11_halvesOf 44 = .ok (.ireturn, 1) := by decide +kernel
theorem dX11_halvesOf_45 : decode cX11_halvesOf 45 = .ok (.iinc 3 1, 3) := by decide +kernel
theorem dX11_halvesOf_48 : decode cX11_halvesOf 48 = .ok (.goto (-31), 3) := by decide +kernel
theorem dX11_halvesOf_51 : decode cX11_halvesOf 51 = .ok (.iinc 2 1, 3) := by decide +kernel
theorem dX11_halvesOf_54 : decode cX11_halvesOf 54 = .ok (.goto (-52), 3) := by decide +kernel
theorem dX11_halvesOf_57 : decode cX11_halvesOf 57 = .ok (.iconst (-1), 1) := by decide +kernel
theorem dX11_halvesOf_58 : decode cX11_halvesOf 58 = .ok (.ireturn, 1) := by decide +kernel
theorem dX11_canGoHalves_0 : decode cX11_canGoHalves 0 = .ok (.aload_n 0, 1) := by decide +kernel
theorem dX11_canGoHalves_1 : decode cX11_canGoHalves 1 = .ok (.getfield 19, 3) := by decide +kernel
theorem dX11_canGoHalves_4 : decode cX11_canGoHalves 4 = .ok (.iload_n 1, 1) := by decide +kernel
theorem dX11_canGoHalves_5 : decode cX11_canGoHalves 5 = .ok (.invokevirtual 83, 3) := by decide +kernel
theorem dX11_canGoHalves_8 : decode cX11_canGoHalves 8 = .ok (.astore 4, 2) := by decide +kernel
theorem dX11_canGoHalves_10 : decode cX11_canGoHalves 10 = .ok (.aload_n 0, 1) := by decide +kernel
theorem dX11_canGoHalves_11 : decode cX11_canGoHalves 11 = .ok (.getfield 19, 3) := by decide +kernel
theorem dX11_canGoHalves_14 : decode cX11_canGoHalves 14 = .ok (.iload_n 2, 1) := by decide +kernel
theorem dX11_canGoHalves_15 : decode cX11_canGoHalves 15 = .ok (.invokevirtual 83, 3) := by decide +kernel
theorem dX11_canGoHalves_18 : decode cX11_canGoHalves 18 = .ok (.astore 5, 2) := by decide +kernel
theorem dX11_canGoHalves_20 : decode cX11_canGoHalves 20 = .ok (.aload_n 0, 1) := by decide +kernel
theorem dX11_canGoHalves_21 : decode cX11_canGoHalves 21 = .ok (.getfield 19, 3) := by decide +kernel
theorem dX11_canGoHalves_24 : decode cX11_canGoHalves 24 = .ok (.iload_n 3, 1) := by decide +kernel
theorem dX11_canGoHalves_25 : decode cX11_canGoHalves 25 = .ok (.invokevirtual 122, 3) := by decide +kernel
theorem dX11_canGoHalves_28 : decode cX11_canGoHalves 28 = .ok (.astore 6, 2) := by decide +kernel
theorem dX11_canGoHalves_30 : decode cX11_canGoHalves 30 = .ok (.aload 4, 2) := by decide +kernel
theorem dX11_canGoHalves_32 : decode cX11_canGoHalves 32 = .ok (.ifnull 13, 3) := by decide +kernel
theorem dX11_canGoHalves_35 : decode cX11_canGoHalves 35 = .ok (.aload 5, 2) := by decide +kernel
theorem dX11_canGoHalves_37 : decode cX11_canGoHalves 37 = .ok (.ifnull 8, 3) := by decide +kernel
theorem dX11_canGoHalves_40 : decode cX11_canGoHalves 40 = .ok (.aload 6, 2) := by decide +kernel
theorem dX11_canGoHalves_42 : decode cX11_canGoHalves 42 = .ok (.ifnonnull 5, 3) := by decide +kernel
theorem dX11_canGoHalves_45 : decode cX11_canGoHalves 45 = .ok (.iconst 0, 1) := by decide +kernel
theorem dX11_canGoHalves_46 : decode cX11_canGoHalves 46 = .ok (.ireturn, 1) := by decide +kernel
theorem dX11_canGoHalves_47 : decode cX11_canGoHalves 47 = .ok (.aload 4, 2) := by decide +kernel
theorem dX11_canGoHalves_49 : decode cX11_canGoHalves 49 = .ok (.aload 4, 2) := by decide +kernel
theorem dX11_canGoHalves_51 : decode cX11_canGoHalves 51 = .ok (.getfield 92, 3) := by decide +kernel
theorem dX11_canGoHalves_54 : decode cX11_canGoHalves 54 = .ok (.invokevirtual 260, 3) := by decide +kernel
theorem dX11_canGoHalves_57 : decode cX11_canGoHalves 57 = .ok (.aload 5, 2) := by decide +kernel
theorem dX11_canGoHalves_59 : decode cX11_canGoHalves 59 = .ok (.aload 5, 2) := by decide +kernel
theorem dX11_canGoHalves_61 : decode cX11_canGoHalves 61 = .ok (.getfield 92, 3) := by decide +kernel
theorem dX11_canGoHalves_64 : decode cX11_canGoHalves 64 = .ok (.invokevirtual 260, 3) := by decide +kernel
theorem dX11_canGoHalves_67 : decode cX11_canGoHalves 67 = .ok (.iadd, 1) := by decide +kernel
theorem dX11_canGoHalves_68 : decode cX11_canGoHalves 68 = .ok (.aload_n 0, 1) := by decide +kernel
theorem dX11_canGoHalves_69 : decode cX11_canGoHalves 69 = .ok (.getfield 26, 3) := by decide +kernel
theorem dX11_canGoHalves_72 : decode cX11_canGoHalves 72 = .ok (.iload_n 3, 1) := by decide +kernel
theorem dX11_canGoHalves_73 : decode cX11_canGoHalves 73 = .ok (.invokevirtual 126, 3) := by decide +kernel
theorem dX11_canGoHalves_76 : decode cX11_canGoHalves 76 = .ok (.if_icmp .ne 33, 3) := by decide +kernel
theorem dX11_canGoHalves_79 : decode cX11_canGoHalves 79 = .ok (.aload 4, 2) := by decide +kernel
theorem dX11_canGoHalves_81 : decode cX11_canGoHalves 81 = .ok (.aload 6, 2) := by decide +kernel
theorem dX11_canGoHalves_83 : decode cX11_canGoHalves 83 = .ok (.getfield 129, 3) := by decide +kernel
theorem dX11_canGoHalves_86 : decode cX11_canGoHalves 86 = .ok (.invokevirtual 263, 3) := by decide +kernel
theorem dX11_canGoHalves_89 : decode cX11_canGoHalves 89 = .ok (.ifCond .ne 16, 3) := by decide +kernel
theorem dX11_canGoHalves_92 : decode cX11_canGoHalves 92 = .ok (.aload 5, 2) := by decide +kernel
theorem dX11_canGoHalves_94 : decode cX11_canGoHalves 94 = .ok (.aload 6, 2) := by decide +kernel
theorem dX11_canGoHalves_96 : decode cX11_canGoHalves 96 = .ok (.getfield 129, 3) := by decide +kernel
theorem dX11_canGoHalves_99 : decode cX11_canGoHalves 99 = .ok (.invokevirtual 263, 3) := by decide +kernel
theorem dX11_canGoHalves_102 : decode cX11_canGoHalves 102 = .ok (.ifCond .eq 7, 3) := by decide +kernel
theorem dX11_canGoHalves_105 : decode cX11_canGoHalves 105 = .ok (.iconst 1, 1) := by decide +kernel
theorem dX11_canGoHalves_106 : decode cX11_canGoHalves 106 = .ok (.goto 4, 3) := by decide +kernel
theorem dX11_canGoHalves_109 : decode cX11_canGoHalves 109 = .ok (.iconst 0, 1) := by decide +kernel
theorem dX11_canGoHalves_110 : decode cX11_canGoHalves 110 = .ok (.ireturn, 1) := by decide +kernel
theorem dX11_isFree_0 : decode cX11_isFree 0 = .ok (.aload_n 0, 1) := by decide +kernel
theorem dX11_isFree_1 : decode cX11_isFree 1 = .ok (.getfield 19, 3) := by decide +kernel
theorem dX11_isFree_4 : decode cX11_isFree 4 = .ok (.iload_n 2, 1) := by decide +kernel
theorem dX11_isFree_5 : decode cX11_isFree 5 = .ok (.invokevirtual 83, 3) := by decide +kernel
theorem dX11_isFree_8 : decode cX11_isFree 8 = .ok (.astore_n 3, 1) := by decide +kernel
theorem dX11_isFree_9 : decode cX11_isFree 9 = .ok (.aload_n 3, 1) := by decide +kernel
theorem dX11_isFree_10 : decode cX11_isFree 10 = .ok (.ifnull 23, 3) := by decide +kernel
theorem dX11_isFree_13 : decode cX11_isFree 13 = .ok (.aload_n 3, 1) := by decide +kernel
theorem dX11_isFree_14 : decode cX11_isFree 14 = .ok (.invokevirtual 266, 3) := by decide +kernel
theorem dX11_isFree_17 : decode cX11_isFree 17 = .ok (.ifCond .eq 16, 3) := by decide +kernel
theorem dX11_isFree_20 : decode cX11_isFree 20 = .ok (.aload_n 1, 1) := by decide +kernel
theorem dX11_isFree_21 : decode cX11_isFree 21 = .ok (.iload_n 2, 1) := by decide +kernel
theorem dX11_isFree_22 : decode cX11_isFree 22 = .ok (.invokevirtual 101, 3) := by decide +kernel
theorem dX11_isFree_25 : decode cX11_isFree 25 = .ok (.iconst (-1), 1) := by decide +kernel
theorem dX11_isFree_26 : decode cX11_isFree 26 = .ok (.if_icmp .ne 7, 3) := by decide +kernel
theorem dX11_isFree_29 : decode cX11_isFree 29 = .ok (.iconst 1, 1) := by decide +kernel
theorem dX11_isFree_30 : decode cX11_isFree 30 = .ok (.goto 4, 3) := by decide +kernel
theorem dX11_isFree_33 : decode cX11_isFree 33 = .ok (.iconst 0, 1) := by decide +kernel
theorem dX11_isFree_34 : decode cX11_isFree 34 = .ok (.ireturn, 1) := by decide +kernel
theorem dX11_mayConfess_0 : decode cX11_mayConfess 0 = .ok (.aload_n 0, 1) := by decide +kernel
theorem dX11_mayConfess_1 : decode cX11_mayConfess 1 = .ok (.aload_n 1, 1) := by decide +kernel
theorem dX11_mayConfess_2 : decode cX11_mayConfess 2 = .ok (.iload_n 2, 1) := by decide +kernel
theorem dX11_mayConfess_3 : decode cX11_mayConfess 3 = .ok (.invokevirtual 269, 3) := by decide +kernel
theorem dX11_mayConfess_6 : decode cX11_mayConfess 6 = .ok (.ifCond .eq 30, 3) := by decide +kernel
theorem dX11_mayConfess_9 : decode cX11_mayConfess 9 = .ok (.aload_n 1, 1) := by decide +kernel
theorem dX11_mayConfess_10 : decode cX11_mayConfess 10 = .ok (.iload_n 3, 1) := by decide +kernel
theorem dX11_mayConfess_11 : decode cX11_mayConfess 11 = .ok (.invokevirtual 135, 3) := by decide +kernel
theorem dX11_mayConfess_14 : decode cX11_mayConfess 14 = .ok (.iconst (-1), 1) := by decide +kernel
theorem dX11_mayConfess_15 : decode cX11_mayConfess 15 = .ok (.if_icmp .ne 21, 3) := by decide +kernel
theorem dX11_mayConfess_18 : decode cX11_mayConfess 18 = .ok (.aload_n 0, 1) := by decide +kernel
theorem dX11_mayConfess_19 : decode cX11_mayConfess 19 = .ok (.iload_n 2, 1) := by decide +kernel
theorem dX11_mayConfess_20 : decode cX11_mayConfess 20 = .ok (.iload_n 3, 1) := by decide +kernel
theorem dX11_mayConfess_21 : decode cX11_mayConfess 21 = .ok (.aload_n 1, 1) := by decide +kernel
theorem dX11_mayConfess_22 : decode cX11_mayConfess 22 = .ok (.iload_n 3, 1) := by decide +kernel
theorem dX11_mayConfess_23 : decode cX11_mayConfess 23 = .ok (.invokevirtual 126, 3) := by decide +kernel
theorem dX11_mayConfess_26 : decode cX11_mayConfess 26 = .ok (.invokevirtual 254, 3) := by decide +kernel
theorem dX11_mayConfess_29 : decode cX11_mayConfess 29 = .ok (.ifCond .eq 7, 3) := by decide +kernel
theorem dX11_mayConfess_32 : decode cX11_mayConfess 32 = .ok (.iconst 1, 1) := by decide +kernel
theorem dX11_mayConfess_33 : decode cX11_mayConfess 33 = .ok (.goto 4, 3) := by decide +kernel
theorem dX11_mayConfess_36 : decode cX11_mayConfess 36 = .ok (.iconst 0, 1) := by decide +kernel
theorem dX11_mayConfess_37 : decode cX11_mayConfess 37 = .ok (.ireturn, 1) := by decide +kernel
theorem dX11_paidTo_0 : decode cX11_paidTo 0 = .ok (.aload_n 0, 1) := by decide +kernel
theorem dX11_paidTo_1 : decode cX11_paidTo 1 = .ok (.getfield 19, 3) := by decide +kernel
theorem dX11_paidTo_4 : decode cX11_paidTo 4 = .ok (.aload_n 1, 1) := by decide +kernel
theorem dX11_paidTo_5 : decode cX11_paidTo 5 = .ok (.iload_n 2, 1) := by decide +kernel
theorem dX11_paidTo_6 : decode cX11_paidTo 6 = .ok (.invokevirtual 101, 3) := by decide +kernel
theorem dX11_paidTo_9 : decode cX11_paidTo 9 = .ok (.invokevirtual 122, 3) := by decide +kernel
theorem dX11_paidTo_12 : decode cX11_paidTo 12 = .ok (.astore_n 3, 1) := by decide +kernel
theorem dX11_paidTo_13 : decode cX11_paidTo 13 = .ok (.aload_n 3, 1) := by decide +kernel
theorem dX11_paidTo_14 : decode cX11_paidTo 14 = .ok (.ifnonnull 7, 3) := by decide +kernel
theorem dX11_paidTo_17 : decode cX11_paidTo 17 = .ok (.iconst 0, 1) := by decide +kernel
theorem dX11_paidTo_18 : decode cX11_paidTo 18 = .ok (.goto 7, 3) := by decide +kernel
theorem dX11_paidTo_21 : decode cX11_paidTo 21 = .ok (.aload_n 3, 1) := by decide +kernel
theorem dX11_paidTo_22 : decode cX11_paidTo 22 = .ok (.getfield 132, 3) := by decide +kernel
theorem dX11_paidTo_25 : decode cX11_paidTo 25 = .ok (.ireturn, 1) := by decide +kernel
theorem dX11_paidInAll_0 : decode cX11_paidInAll 0 = .ok (.iconst 0, 1) := by decide +kernel
theorem dX11_paidInAll_1 : decode cX11_paidInAll 1 = .ok (.istore_n 2, 1) := by decide +kernel
theorem dX11_paidInAll_2 : decode cX11_paidInAll 2 = .ok (.iconst 0, 1) := by decide +kernel
theorem dX11_paidInAll_3 : decode cX11_paidInAll 3 = .ok (.istore_n 3, 1) := by decide +kernel
theorem dX11_paidInAll_4 : decode cX11_paidInAll 4 = .ok (.iload_n 3, 1) := by decide +kernel
theorem dX11_paidInAll_5 : decode cX11_paidInAll 5 = .ok (.aload_n 0, 1) := by decide +kernel
theorem dX11_paidInAll_6 : decode cX11_paidInAll 6 = .ok (.getfield 19, 3) := by decide +kernel
theorem dX11_paidInAll_9 : decode cX11_paidInAll 9 = .ok (.invokevirtual 205, 3) := by decide +kernel
theorem dX11_paidInAll_12 : decode cX11_paidInAll 12 = .ok (.if_icmp .ge 18, 3) := by decide +kernel
theorem dX11_paidInAll_15 : decode cX11_paidInAll 15 = .ok (.iload_n 2, 1) := by decide +kernel
theorem dX11_paidInAll_16 : decode cX11_paidInAll 16 = .ok (.aload_n 0, 1) := by decide +kernel
theorem dX11_paidInAll_17 : decode cX11_paidInAll 17 = .ok (.aload_n 1, 1) := by decide +kernel
theorem dX11_paidInAll_18 : decode cX11_paidInAll 18 = .ok (.iload_n 3, 1) := by decide +kernel
theorem dX11_paidInAll_19 : decode cX11_paidInAll 19 = .ok (.invokevirtual 105, 3) := by decide +kernel
theorem dX11_paidInAll_22 : decode cX11_paidInAll 22 = .ok (.iadd, 1) := by decide +kernel
theorem dX11_paidInAll_23 : decode cX11_paidInAll 23 = .ok (.istore_n 2, 1) := by decide +kernel
theorem dX11_paidInAll_24 : decode cX11_paidInAll 24 = .ok (.iinc 3 1, 3) := by decide +kernel
theorem dX11_paidInAll_27 : decode cX11_paidInAll 27 = .ok (.goto (-23), 3) := by decide +kernel
theorem dX11_paidInAll_30 : decode cX11_paidInAll 30 = .ok (.iload_n 2, 1) := by decide +kernel
theorem dX11_paidInAll_31 : decode cX11_paidInAll 31 = .ok (.ireturn, 1) := by decide +kernel
theorem dX11_isOfMatch_0 : decode cX11_isOfMatch 0 = .ok (.iload_n 0, 1) := by decide +kernel
theorem dX11_isOfMatch_1 : decode cX11_isOfMatch 1 = .ok (.ifCond .eq 20, 3) := by decide +kernel
theorem dX11_isOfMatch_4 : decode cX11_isOfMatch 4 = .ok (.iload_n 0, 1) := by decide +kernel
theorem dX11_isOfMatch_5 : decode cX11_isOfMatch 5 = .ok (.iconst 1, 1) := by decide +kernel
theorem dX11_isOfMatch_6 : decode cX11_isOfMatch 6 = .ok (.if_icmp .eq 15, 3) := by decide +kernel
theorem dX11_isOfMatch_9 : decode cX11_isOfMatch 9 = .ok (.iload_n 0, 1) := by decide +kernel
theorem dX11_isOfMatch_10 : decode cX11_isOfMatch 10 = .ok (.bipush 10, 2) := by decide +kernel
theorem dX11_isOfMatch_12 : decode cX11_isOfMatch 12 = .ok (.if_icmp .lt 13, 3) := by decide +kernel
theorem dX11_isOfMatch_15 : decode cX11_isOfMatch 15 = .ok (.iload_n 0, 1) := by decide +kernel
theorem dX11_isOfMatch_16 : decode cX11_isOfMatch 16 = .ok (.bipush 13, 2) := by decide +kernel
theorem dX11_isOfMatch_18 : decode cX11_isOfMatch 18 = .ok (.if_icmp .gt 7, 3) := by decide +kernel
theorem dX11_isOfMatch_21 : decode cX11_isOfMatch 21 = .ok (.iconst 1, 1) := by decide +kernel
theorem dX11_isOfMatch_22 : decode cX11_isOfMatch 22 = .ok (.goto 4, 3) := by decide +kernel
theorem dX11_isOfMatch_25 : decode cX11_isOfMatch 25 = .ok (.iconst 0, 1) := by decide +kernel
theorem dX11_isOfMatch_26 : decode cX11_isOfMatch 26 = .ok (.ireturn, 1) := by decide +kernel
theorem dX11_findMatch_0 : decode cX11_findMatch 0 = .ok (.aload_n 0, 1) := by decide +kernel
theorem dX11_findMatch_1 : decode cX11_findMatch 1 = .ok (.getfield 39, 3) := by decide +kernel
theorem dX11_findMatch_4 : decode cX11_findMatch 4 = .ok (.aload_n 0, 1) := by decide +kernel
theorem dX11_findMatch_5 : decode cX11_findMatch 5 = .ok (.getfield 19, 3) := by decide +kernel
theorem dX11_findMatch_8 : decode cX11_findMatch 8 = .ok (.invokevirtual 205, 3) := by decide +kernel
theorem dX11_findMatch_11 : decode cX11_findMatch 11 = .ok (.invokevirtual 273, 3) := by decide +kernel
theorem dX11_findMatch_14 : decode cX11_findMatch 14 = .ok (.iconst 0, 1) := by decide +kernel
theorem dX11_findMatch_15 : decode cX11_findMatch 15 = .ok (.istore_n 1, 1) := by decide +kernel
theorem dX11_findMatch_16 : decode cX11_findMatch 16 = .ok (.iload_n 1, 1) := by decide +kernel
theorem dX11_findMatch_17 : decode cX11_findMatch 17 = .ok (.aload_n 0, 1) := by decide +kernel
theorem dX11_findMatch_18 : decode cX11_findMatch 18 = .ok (.getfield 19, 3) := by decide +kernel
theorem dX11_findMatch_21 : decode cX11_findMatch 21 = .ok (.invokevirtual 205, 3) := by decide +kernel
theorem dX11_findMatch_24 : decode cX11_findMatch 24 = .ok (.if_icmp .ge 50, 3) := by decide +kernel
theorem dX11_findMatch_27 : decode cX11_findMatch 27 = .ok (.iconst 0, 1) := by decide +kernel
theorem dX11_findMatch_28 : decode cX11_findMatch 28 = .ok (.istore_n 2, 1) := by decide +kernel
theorem dX11_findMatch_29 : decode cX11_findMatch 29 = .ok (.iload_n 2, 1) := by decide +kernel
theorem dX11_findMatch_30 : decode cX11_findMatch 30 = .ok (.aload_n 0, 1) := by decide +kernel
theorem dX11_findMatch_31 : decode cX11_findMatch 31 = .ok (.getfield 19, 3) := by decide +kernel
theorem dX11_findMatch_34 : decode cX11_findMatch 34 = .ok (.invokevirtual 80, 3) := by decide +kernel
theorem dX11_findMatch_37 : decode cX11_findMatch 37 = .ok (.if_icmp .ge 31, 3) := by decide +kernel
theorem dX11_findMatch_40 : decode cX11_findMatch 40 = .ok (.aload_n 0, 1) := by decide +kernel
theorem dX11_findMatch_41 : decode cX11_findMatch 41 = .ok (.aload_n 0, 1) := by decide +kernel
theorem dX11_findMatch_42 : decode cX11_findMatch 42 = .ok (.getfield 26, 3) := by decide +kernel
theorem dX11_findMatch_45 : decode cX11_findMatch 45 = .ok (.iload_n 1, 1) := by decide +kernel
theorem dX11_findMatch_46 : decode cX11_findMatch 46 = .ok (.iload_n 2, 1) := by decide +kernel
theorem dX11_findMatch_47 : decode cX11_findMatch 47 = .ok (.invokevirtual 144, 3) := by decide +kernel
theorem dX11_findMatch_50 : decode cX11_findMatch 50 = .ok (.ifCond .eq 12, 3) := by decide +kernel
theorem dX11_findMatch_53 : decode cX11_findMatch 53 = .ok (.aload_n 0, 1) := by decide +kernel
theorem dX11_findMatch_54 : decode cX11_findMatch 54 = .ok (.getfield 39, 3) := by decide +kernel
theorem dX11_findMatch_57 : decode cX11_findMatch 57 = .ok (.iload_n 1, 1) := by decide +kernel
theorem dX11_findMatch_58 : decode cX11_findMatch 58 = .ok (.iload_n 2, 1) := by decide +kernel
theorem dX11_findMatch_59 : decode cX11_findMatch 59 = .ok (.invokevirtual 275, 3) := by decide +kernel
theorem dX11_findMatch_62 : decode cX11_findMatch 62 = .ok (.iinc 2 1, 3) := by decide +kernel
theorem dX11_findMatch_65 : decode cX11_findMatch 65 = .ok (.goto (-36), 3) := by decide +kernel
theorem dX11_findMatch_68 : decode cX11_findMatch 68 = .ok (.iinc 1 1, 3) := by decide +kernel
theorem dX11_findMatch_71 : decode cX11_findMatch 71 = .ok (.goto (-55), 3) := by decide +kernel
theorem dX11_findMatch_74 : decode cX11_findMatch 74 = .ok (.iconst 0, 1) := by decide +kernel
theorem dX11_findMatch_75 : decode cX11_findMatch 75 = .ok (.istore_n 1, 1) := by decide +kernel
theorem dX11_findMatch_76 : decode cX11_findMatch 76 = .ok (.iload_n 1, 1) := by decide +kernel
theorem dX11_findMatch_77 : decode cX11_findMatch 77 = .ok (.aload_n 0, 1) := by decide +kernel
theorem dX11_findMatch_78 : decode cX11_findMatch 78 = .ok (.getfield 19, 3) := by decide +kernel
theorem dX11_findMatch_81 : decode cX11_findMatch 81 = .ok (.invokevirtual 80, 3) := by decide +kernel
theorem dX11_findMatch_84 : decode cX11_findMatch 84 = .ok (.if_icmp .ge 34, 3) := by decide +kernel
theorem dX11_findMatch_87 : decode cX11_findMatch 87 = .ok (.aload_n 0, 1) := by decide +kernel
theorem dX11_findMatch_88 : decode cX11_findMatch 88 = .ok (.getfield 19, 3) := by decide +kernel
theorem dX11_findMatch_91 : decode cX11_findMatch 91 = .ok (.iload_n 1, 1) := by decide +kernel
theorem dX11_findMatch_92 : decode cX11_findMatch 92 = .ok (.invokevirtual 122, 3) := by decide +kernel
theorem dX11_findMatch_95 : decode cX11_findMatch 95 = .ok (.astore_n 2, 1) := by decide +kernel
theorem dX11_findMatch_96 : decode cX11_findMatch 96 = .ok (.aload_n 2, 1) := by decide +kernel
theorem dX11_findMatch_97 : decode cX11_findMatch 97 = .ok (.ifnull 15, 3) := by decide +kernel
theorem dX11_findMatch_100 : decode cX11_findMatch 100 = .ok (.aload_n 0, 1) := by decide +kernel
theorem dX11_findMatch_101 : decode cX11_findMatch 101 = .ok (.getfield 39, 3) := by decide +kernel
theorem dX11_findMatch_104 : decode cX11_findMatch 104 = .ok (.iload_n 1, 1) := by decide +kernel
theorem dX11_findMatch_105 : decode cX11_findMatch 105 = .ok (.aload_n 2, 1) := by decide +kernel
theorem dX11_findMatch_106 : decode cX11_findMatch 106 = .ok (.getfield 132, 3) := by decide +kernel
theorem dX11_findMatch_109 : decode cX11_findMatch 109 = .ok (.invokevirtual 278, 3) := by decide +kernel
theorem dX11_findMatch_112 : decode cX11_findMatch 112 = .ok (.iinc 1 1, 3) := by decide +kernel
theorem dX11_findMatch_115 : decode cX11_findMatch 115 = .ok (.goto (-39), 3) := by decide +kernel
theorem dX11_findMatch_118 : decode cX11_findMatch 118 = .ok (.aload_n 0, 1) := by decide +kernel
theorem dX11_findMatch_119 : decode cX11_findMatch 119 = .ok (.getfield 39, 3) := by decide +kernel
theorem dX11_findMatch_122 : decode cX11_findMatch 122 = .ok (.invokevirtual 280, 3) := by decide +kernel
theorem dX11_findMatch_125 : decode cX11_findMatch 125 = .ok (.return_, 1) := by decide +kernel
theorem dX11_toldOfMatch_0 : decode cX11_toldOfMatch 0 = .ok (.iload_n 1, 1) := by decide +kernel
theorem dX11_toldOfMatch_1 : decode cX11_toldOfMatch 1 = .ok (.lookupswitch 43 #[(0, 27), (1, 35)], 27) := by decide +kernel
theorem dX11_toldOfMatch_28 : decode cX11_toldOfMatch 28 = .ok (.aload_n 0, 1) := by decide +kernel
theorem dX11_toldOfMatch_29 : decode cX11_toldOfMatch 29 = .ok (.getfield 39, 3) := by decide +kernel
theorem dX11_toldOfMatch_32 : decode cX11_toldOfMatch 32 = .ok (.getfield 283, 3) := by decide +kernel
theorem dX11_toldOfMatch_35 : decode cX11_toldOfMatch 35 = .ok (.ireturn, 1) := by decide +kernel
theorem dX11_toldOfMatch_36 : decode cX11_toldOfMatch 36 = .ok (.aload_n 0, 1) := by decide +kernel
theorem dX11_toldOfMatch_37 : decode cX11_toldOfMatch 37 = .ok (.getfield 39, 3) := by decide +kernel
theorem dX11_toldOfMatch_40 : decode cX11_toldOfMatch 40 = .ok (.getfield 286, 3) := by decide +kernel
theorem dX11_toldOfMatch_43 : decode cX11_toldOfMatch 43 = .ok (.ireturn, 1) := by decide +kernel
theorem dX11_toldOfMatch_44 : decode cX11_toldOfMatch 44 = .ok (.aload_n 0, 1) := by decide +kernel
theorem dX11_toldOfMatch_45 : decode cX11_toldOfMatch 45 = .ok (.getfield 39, 3) := by decide +kernel
theorem dX11_toldOfMatch_48 : decode cX11_toldOfMatch 48 = .ok (.iload_n 1, 1) := by decide +kernel
theorem dX11_toldOfMatch_49 : decode cX11_toldOfMatch 49 = .ok (.bipush 10, 2) := by decide +kernel
theorem dX11_toldOfMatch_51 : decode cX11_toldOfMatch 51 = .ok (.isub, 1) := by decide +kernel
theorem dX11_toldOfMatch_52 : decode cX11_toldOfMatch 52 = .ok (.invokevirtual 289, 3) := by decide +kernel
theorem dX11_toldOfMatch_55 : decode cX11_toldOfMatch 55 = .ok (.ireturn, 1) := by decide +kernel
theorem dX11_withMatch_0 : decode cX11_withMatch 0 = .ok (.aload_n 0, 1) := by decide +kernel
theorem dX11_withMatch_1 : decode cX11_withMatch 1 = .ok (.invokevirtual 171, 3) := by decide +kernel
theorem dX11_withMatch_4 : decode cX11_withMatch 4 = .ok (.ldc2_w 224, 3) := by decide +kernel
theorem dX11_withMatch_7 : decode cX11_withMatch 7 = .ok (.lload_n 1, 1) := by decide +kernel
theorem dX11_withMatch_8 : decode cX11_withMatch 8 = .ok (.lmul, 1) := by decide +kernel
theorem dX11_withMatch_9 : decode cX11_withMatch 9 = .ok (.aload_n 0, 1) := by decide +kernel
theorem dX11_withMatch_10 : decode cX11_withMatch 10 = .ok (.iconst 0, 1) := by decide +kernel
theorem dX11_withMatch_11 : decode cX11_withMatch 11 = .ok (.invokevirtual 174, 3) := by decide +kernel
theorem dX11_withMatch_14 : decode cX11_withMatch 14 = .ok (.i2l, 1) := by decide +kernel
theorem dX11_withMatch_15 : decode cX11_withMatch 15 = .ok (.ladd, 1) := by decide +kernel
theorem dX11_withMatch_16 : decode cX11_withMatch 16 = .ok (.lstore_n 3, 1) := by decide +kernel
theorem dX11_withMatch_17 : decode cX11_withMatch 17 = .ok (.ldc2_w 224, 3) := by decide +kernel
theorem dX11_withMatch_20 : decode cX11_withMatch 20 = .ok (.lload_n 3, 1) := by decide +kernel
theorem dX11_withMatch_21 : decode cX11_withMatch 21 = .ok (.lmul, 1) := by decide +kernel
theorem dX11_withMatch_22 : decode cX11_withMatch 22 = .ok (.aload_n 0, 1) := by decide +kernel
theorem dX11_withMatch_23 : decode cX11_withMatch 23 = .ok (.iconst 1, 1) := by decide +kernel
theorem dX11_withMatch_24 : decode cX11_withMatch 24 = .ok (.invokevirtual 174, 3) := by decide +kernel
theorem dX11_withMatch_27 : decode cX11_withMatch 27 = .ok (.i2l, 1) := by decide +kernel
theorem dX11_withMatch_28 : decode cX11_withMatch 28 = .ok (.ladd, 1) := by decide +kernel
theorem dX11_withMatch_29 : decode cX11_withMatch 29 = .ok (.lstore_n 3, 1) := by decide +kernel
theorem dX11_withMatch_30 : decode cX11_withMatch 30 = .ok (.bipush 10, 2) := by decide +kernel
theorem dX11_withMatch_32 : decode cX11_withMatch 32 = .ok (.istore 5, 2) := by decide +kernel
theorem dX11_withMatch_34 : decode cX11_withMatch 34 = .ok (.iload 5, 2) := by decide +kernel
theorem dX11_withMatch_36 : decode cX11_withMatch 36 = .ok (.bipush 13, 2) := by decide +kernel
theorem dX11_withMatch_38 : decode cX11_withMatch 38 = .ok (.if_icmp .gt 23, 3) := by decide +kernel
theorem dX11_withMatch_41 : decode cX11_withMatch 41 = .ok (.ldc2_w 224, 3) := by decide +kernel
theorem dX11_withMatch_44 : decode cX11_withMatch 44 = .ok (.lload_n 3, 1) := by decide +kernel
theorem dX11_withMatch_45 : decode cX11_withMatch 45 = .ok (.lmul, 1) := by decide +kernel
theorem dX11_withMatch_46 : decode cX11_withMatch 46 = .ok (.aload_n 0, 1) := by decide +kernel
theorem dX11_withMatch_47 : decode cX11_withMatch 47 = .ok (.iload 5, 2) := by decide +kernel
theorem dX11_withMatch_49 : decode cX11_withMatch 49 = .ok (.invokevirtual 174, 3) := by decide +kernel
theorem dX11_withMatch_52 : decode cX11_withMatch 52 = .ok (.i2l, 1) := by decide +kernel
theorem dX11_withMatch_53 : decode cX11_withMatch 53 = .ok (.ladd, 1) := by decide +kernel
theorem dX11_withMatch_54 : decode cX11_withMatch 54 = .ok (.lstore_n 3, 1) := by decide +kernel
theorem dX11_withMatch_55 : decode cX11_withMatch 55 = .ok (.iinc 5 1, 3) := by decide +kernel
theorem dX11_withMatch_58 : decode cX11_withMatch 58 = .ok (.goto (-24), 3) := by decide +kernel
theorem dX11_withMatch_61 : decode cX11_withMatch 61 = .ok (.lload_n 3, 1) := by decide +kernel
theorem dX11_withMatch_62 : decode cX11_withMatch 62 = .ok (.lreturn, 1) := by decide +kernel
theorem dX11_fewestStitches_0 : decode cX11_fewestStitches 0 = .ok (.iload_n 1, 1) := by decide +kernel
theorem dX11_fewestStitches_1 : decode cX11_fewestStitches 1 = .ok (.aload_n 0, 1) := by decide +kernel
theorem dX11_fewestStitches_2 : decode cX11_fewestStitches 2 = .ok (.getfield 19, 3) := by decide +kernel
theorem dX11_fewestStitches_5 : decode cX11_fewestStitches 5 = .ok (.invokevirtual 80, 3) := by decide +kernel
theorem dX11_fewestStitches_8 : decode cX11_fewestStitches 8 = .ok (.if_icmp .lt 5, 3) := by decide +kernel
theorem dX11_fewestStitches_11 : decode cX11_fewestStitches 11 = .ok (.iconst 0, 1) := by decide +kernel
theorem dX11_fewestStitches_12 : decode cX11_fewestStitches 12 = .ok (.ireturn, 1) := by decide +kernel
theorem dX11_fewestStitches_13 : decode cX11_fewestStitches 13 = .ok (.aload_n 0, 1) := by decide +kernel
theorem dX11_fewestStitches_14 : decode cX11_fewestStitches 14 = .ok (.getfield 26, 3) := by decide +kernel
theorem dX11_fewestStitches_17 : decode cX11_fewestStitches 17 = .ok (.iload_n 1, 1) := by decide +kernel
theorem dX11_fewestStitches_18 : decode cX11_fewestStitches 18 = .ok (.invokevirtual 135, 3) := by decide +kernel
theorem dX11_fewestStitches_21 : decode cX11_fewestStitches 21 = .ok (.iconst (-1), 1) := by decide +kernel
theorem dX11_fewestStitches_22 : decode cX11_fewestStitches 22 = .ok (.if_icmp .eq 12, 3) := by decide +kernel
theorem dX11_fewestStitches_25 : decode cX11_fewestStitches 25 = .ok (.aload_n 0, 1) := by decide +kernel
theorem dX11_fewestStitches_26 : decode cX11_fewestStitches 26 = .ok (.iload_n 1, 1) := by decide +kernel
theorem dX11_fewestStitches_27 : decode cX11_fewestStitches 27 = .ok (.iconst 1, 1) := by decide +kernel
theorem dX11_fewestStitches_28 : decode cX11_fewestStitches 28 = .ok (.iadd, 1) := by decide +kernel
theorem dX11_fewestStitches_29 : decode cX11_fewestStitches 29 = .ok (.iload_n 2, 1) := by decide +kernel
theorem dX11_fewestStitches_30 : decode cX11_fewestStitches 30 = .ok (.invokestatic 180, 3) := by decide +kernel
theorem dX11_fewestStitches_33 : decode cX11_fewestStitches 33 = .ok (.ireturn, 1) := by decide +kernel
theorem dX11_fewestStitches_34 : decode cX11_fewestStitches 34 = .ok (.iconst (-1), 1) := by decide +kernel
theorem dX11_fewestStitches_35 : decode cX11_fewestStitches 35 = .ok (.istore_n 3, 1) := by decide +kernel
theorem dX11_fewestStitches_36 : decode cX11_fewestStitches 36 = .ok (.iconst 0, 1) := by decide +kernel
theorem dX11_fewestStitches_37 : decode cX11_fewestStitches 37 = .ok (.istore 4, 2) := by decide +kernel
theorem dX11_fewestStitches_39 : decode cX11_fewestStitches 39 = .ok (.iload 4, 2) := by decide +kernel
theorem dX11_fewestStitches_41 : decode cX11_fewestStitches 41 = .ok (.aload_n 0, 1) := by decide +kernel
theorem dX11_fewestStitches_42 : decode cX11_fewestStitches 42 = .ok (.getfield 19, 3) := by decide +kernel
theorem dX11_fewestStitches_45 : decode cX11_fewestStitches 45 = .ok (.invokevirtual 205, 3) := by decide +kernel
theorem dX11_fewestStitches_48 : decode cX11_fewestStitches 48 = .ok (.if_icmp .ge 81, 3) := by decide +kernel
theorem dX11_fewestStitches_51 : decode cX11_fewestStitches 51 = .ok (.iload_n 2, 1) := by decide +kernel
theorem dX11_fewestStitches_52 : decode cX11_fewestStitches 52 = .ok (.iload 4, 2) := by decide +kernel
theorem dX11_fewestStitches_54 : decode cX11_fewestStitches 54 = .ok (.ishr, 1) := by decide +kernel
theorem dX11_fewestStitches_55 : decode cX11_fewestStitches 55 = .ok (.iconst 1, 1) := by decide +kernel
theorem dX11_fewestStitches_56 : decode cX11_fewestStitches 56 = .ok (.iand, 1) := by decide +kernel
theorem dX11_fewestStitches_57 : decode cX11_fewestStitches 57 = .ok (.iconst 1, 1) := by decide +kernel
theorem dX11_fewestStitches_58 : decode cX11_fewestStitches 58 = .ok (.if_icmp .ne 6, 3) := by decide +kernel
theorem dX11_fewestStitches_61 : decode cX11_fewestStitches 61 = .ok (.goto 62, 3) := by decide +kernel
theorem dX11_fewestStitches_64 : decode cX11_fewestStitches 64 = .ok (.aload_n 0, 1) := by decide +kernel
theorem dX11_fewestStitches_65 : decode cX11_fewestStitches 65 = .ok (.iload 4, 2) := by decide +kernel
theorem dX11_fewestStitches_67 : decode cX11_fewestStitches 67 = .ok (.iload_n 1, 1) := by decide +kernel
theorem dX11_fewestStitches_68 : decode cX11_fewestStitches 68 = .ok (.invokevirtual 292, 3) := by decide +kernel
theorem dX11_fewestStitches_71 : decode cX11_fewestStitches 71 = .ok (.istore 5, 2) := by decide +kernel
theorem dX11_fewestStitches_73 : decode cX11_fewestStitches 73 = .ok (.iload 5, 2) := by decide +kernel
theorem dX11_fewestStitches_75 : decode cX11_fewestStitches 75 = .ok (.iconst (-1), 1) := by decide +kernel
theorem dX11_fewestStitches_76 : decode cX11_fewestStitches 76 = .ok (.if_icmp .ne 6, 3) := by decide +kernel
theorem dX11_fewestStitches_79 : decode cX11_fewestStitches 79 = .ok (.goto 44, 3) := by decide +kernel
theorem dX11_fewestStitches_82 : decode cX11_fewestStitches 82 = .ok (.aload_n 0, 1) := by decide +kernel
theorem dX11_fewestStitches_83 : decode cX11_fewestStitches 83 = .ok (.iload_n 1, 1) := by decide +kernel
theorem dX11_fewestStitches_84 : decode cX11_fewestStitches 84 = .ok (.iconst 1, 1) := by decide +kernel
theorem dX11_fewestStitches_85 : decode cX11_fewestStitches 85 = .ok (.iadd, 1) := by decide +kernel
theorem dX11_fewestStitches_86 : decode cX11_fewestStitches 86 = .ok (.iload_n 2, 1) := by decide +kernel
theorem dX11_fewestStitches_87 : decode cX11_fewestStitches 87 = .ok (.iconst 1, 1) := by decide +kernel
theorem dX11_fewestStitches_88 : decode cX11_fewestStitches 88 = .ok (.iload 4, 2) := by decide +kernel
theorem dX11_fewestStitches_90 : decode cX11_fewestStitches 90 = .ok (.ishl, 1) := by decide +kernel
theorem dX11_fewestStitches_91 : decode cX11_fewestStitches 91 = .ok (.ior, 1) := by decide +kernel
theorem dX11_fewestStitches_92 : decode cX11_fewestStitches 92 = .ok (.invokestatic 180, 3) := by decide +kernel
theorem dX11_fewestStitches_95 : decode cX11_fewestStitches 95 = .ok (.istore 6, 2) := by decide +kernel
theorem dX11_fewestStitches_97 : decode cX11_fewestStitches 97 = .ok (.iload 6, 2) := by decide +kernel
theorem dX11_fewestStitches_99 : decode cX11_fewestStitches 99 = .ok (.iconst (-1), 1) := by decide +kernel
theorem dX11_fewestStitches_100 : decode cX11_fewestStitches 100 = .ok (.if_icmp .eq 23, 3) := by decide +kernel
theorem dX11_fewestStitches_103 : decode cX11_fewestStitches 103 = .ok (.iload_n 3, 1) := by decide +kernel
theorem dX11_fewestStitches_104 : decode cX11_fewestStitches 104 = .ok (.iconst (-1), 1) := by decide +kernel
theorem dX11_fewestStitches_105 : decode cX11_fewestStitches 105 = .ok (.if_icmp .eq 12, 3) := by decide +kernel
theorem dX11_fewestStitches_108 : decode cX11_fewestStitches 108 = .ok (.iload 5, 2) := by decide +kernel
theorem dX11_fewestStitches_110 : decode cX11_fewestStitches 110 = .ok (.iload 6, 2) := by decide +kernel
theorem dX11_fewestStitches_112 : decode cX11_fewestStitches 112 = .ok (.iadd, 1) := by decide +kernel
theorem dX11_fewestStitches_113 : decode cX11_fewestStitches 113 = .ok (.iload_n 3, 1) := by decide +kernel
theorem dX11_fewestStitches_114 : decode cX11_fewestStitches 114 = .ok (.if_icmp .ge 9, 3) := by decide +kernel
theorem dX11_fewestStitches_117 : decode cX11_fewestStitches 117 = .ok (.iload 5, 2) := by decide +kernel
theorem dX11_fewestStitches_119 : decode cX11_fewestStitches 119 = .ok (.iload 6, 2) := by decide +kernel
theorem dX11_fewestStitches_121 : decode cX11_fewestStitches 121 = .ok (.iadd, 1) := by decide +kernel
theorem dX11_fewestStitches_122 : decode cX11_fewestStitches 122 = .ok (.istore_n 3, 1) := by decide +kernel
theorem dX11_fewestStitches_123 : decode cX11_fewestStitches 123 = .ok (.iinc 4 1, 3) := by decide +kernel
theorem dX11_fewestStitches_126 : decode cX11_fewestStitches 126 = .ok (.goto (-87), 3) := by decide +kernel
theorem dX11_fewestStitches_129 : decode cX11_fewestStitches 129 = .ok (.iload_n 3, 1) := by decide +kernel
theorem dX11_fewestStitches_130 : decode cX11_fewestStitches 130 = .ok (.ireturn, 1) := by decide +kernel
theorem dX11_stitchesFor_0 : decode cX11_stitchesFor 0 = .ok (.aload_n 0, 1) := by decide +kernel
theorem dX11_stitchesFor_1 : decode cX11_stitchesFor 1 = .ok (.aload_n 0, 1) := by decide +kernel
theorem dX11_stitchesFor_2 : decode cX11_stitchesFor 2 = .ok (.getfield 26, 3) := by decide +kernel
theorem dX11_stitchesFor_5 : decode cX11_stitchesFor 5 = .ok (.iload_n 1, 1) := by decide +kernel
theorem dX11_stitchesFor_6 : decode cX11_stitchesFor 6 = .ok (.invokevirtual 269, 3) := by decide +kernel
theorem dX11_stitchesFor_9 : decode cX11_stitchesFor 9 = .ok (.ifCond .ne 5, 3) := by decide +kernel
theorem dX11_stitchesFor_12 : decode cX11_stitchesFor 12 = .ok (.iconst (-1), 1) := by decide +kernel
theorem dX11_stitchesFor_13 : decode cX11_stitchesFor 13 = .ok (.ireturn, 1) := by decide +kernel
theorem dX11_stitchesFor_14 : decode cX11_stitchesFor 14 = .ok (.aload_n 0, 1) := by decide +kernel
theorem dX11_stitchesFor_15 : decode cX11_stitchesFor 15 = .ok (.getfield 26, 3) := by decide +kernel
theorem dX11_stitchesFor_18 : decode cX11_stitchesFor 18 = .ok (.iload_n 2, 1) := by decide +kernel
theorem dX11_stitchesFor_19 : decode cX11_stitchesFor 19 = .ok (.invokevirtual 126, 3) := by decide +kernel
theorem dX11_stitchesFor_22 : decode cX11_stitchesFor 22 = .ok (.istore_n 3, 1) := by decide +kernel
theorem dX11_stitchesFor_23 : decode cX11_stitchesFor 23 = .ok (.iconst 0, 1) := by decide +kernel
theorem dX11_stitchesFor_24 : decode cX11_stitchesFor 24 = .ok (.istore 4, 2) := by decide +kernel
theorem dX11_stitchesFor_26 : decode cX11_stitchesFor 26 = .ok (.iload 4, 2) := by decide +kernel
theorem dX11_stitchesFor_28 : decode cX11_stitchesFor 28 = .ok (.iconst 2, 1) := by decide +kernel
theorem dX11_stitchesFor_29 : decode cX11_stitchesFor 29 = .ok (.if_icmp .gt 61, 3) := by decide +kernel
theorem dX11_stitchesFor_32 : decode cX11_stitchesFor 32 = .ok (.iload_n 3, 1) := by decide +kernel
theorem dX11_stitchesFor_33 : decode cX11_stitchesFor 33 = .ok (.iload 4, 2) := by decide +kernel
theorem dX11_stitchesFor_35 : decode cX11_stitchesFor 35 = .ok (.isub, 1) := by decide +kernel
theorem dX11_stitchesFor_36 : decode cX11_stitchesFor 36 = .ok (.invokestatic 155, 3) := by decide +kernel
theorem dX11_stitchesFor_39 : decode cX11_stitchesFor 39 = .ok (.ifCond .eq 19, 3) := by decide +kernel
theorem dX11_stitchesFor_42 : decode cX11_stitchesFor 42 = .ok (.aload_n 0, 1) := by decide +kernel
theorem dX11_stitchesFor_43 : decode cX11_stitchesFor 43 = .ok (.iload_n 1, 1) := by decide +kernel
theorem dX11_stitchesFor_44 : decode cX11_stitchesFor 44 = .ok (.iload_n 2, 1) := by decide +kernel
theorem dX11_stitchesFor_45 : decode cX11_stitchesFor 45 = .ok (.iload_n 3, 1) := by decide +kernel
theorem dX11_stitchesFor_46 : decode cX11_stitchesFor 46 = .ok (.iload 4, 2) := by decide +kernel
theorem dX11_stitchesFor_48 : decode cX11_stitchesFor 48 = .ok (.isub, 1) := by decide +kernel
theorem dX11_stitchesFor_49 : decode cX11_stitchesFor 49 = .ok (.invokevirtual 254, 3) := by decide +kernel
theorem dX11_stitchesFor_52 : decode cX11_stitchesFor 52 = .ok (.ifCond .eq 6, 3) := by decide +kernel
theorem dX11_stitchesFor_55 : decode cX11_stitchesFor 55 = .ok (.iload 4, 2) := by decide +kernel
theorem dX11_stitchesFor_57 : decode cX11_stitchesFor 57 = .ok (.ireturn, 1) := by decide +kernel
theorem dX11_stitchesFor_58 : decode cX11_stitchesFor 58 = .ok (.iload_n 3, 1) := by decide +kernel
theorem dX11_stitchesFor_59 : decode cX11_stitchesFor 59 = .ok (.iload 4, 2) := by decide +kernel
theorem dX11_stitchesFor_61 : decode cX11_stitchesFor 61 = .ok (.iadd, 1) := by decide +kernel
theorem dX11_stitchesFor_62 : decode cX11_stitchesFor 62 = .ok (.invokestatic 155, 3) := by decide +kernel
theorem dX11_stitchesFor_65 : decode cX11_stitchesFor 65 = .ok (.ifCond .eq 19, 3) := by decide +kernel
theorem dX11_stitchesFor_68 : decode cX11_stitchesFor 68 = .ok (.aload_n 0, 1) := by decide +kernel
theorem dX11_stitchesFor_69 : decode cX11_stitchesFor 69 = .ok (.iload_n 1, 1) := by decide +kernel
theorem dX11_stitchesFor_70 : decode cX11_stitchesFor 70 = .ok (.iload_n 2, 1) := by decide +kernel
theorem dX11_stitchesFor_71 : decode cX11_stitchesFor 71 = .ok (.iload_n 3, 1) := by decide +kernel
theorem dX11_stitchesFor_72 : decode cX11_stitchesFor 72 = .ok (.iload 4, 2) := by decide +kernel
theorem dX11_stitchesFor_74 : decode cX11_stitchesFor 74 = .ok (.iadd, 1) := by decide +kernel
theorem dX11_stitchesFor_75 : decode cX11_stitchesFor 75 = .ok (.invokevirtual 254, 3) := by decide +kernel
theorem dX11_stitchesFor_78 : decode cX11_stitchesFor 78 = .ok (.ifCond .eq 6, 3) := by decide +kernel
theorem dX11_stitchesFor_81 : decode cX11_stitchesFor 81 = .ok (.iload 4, 2) := by decide +kernel
theorem dX11_stitchesFor_83 : decode cX11_stitchesFor 83 = .ok (.ireturn, 1) := by decide +kernel
theorem dX11_stitchesFor_84 : decode cX11_stitchesFor 84 = .ok (.iinc 4 1, 3) := by decide +kernel
theorem dX11_stitchesFor_87 : decode cX11_stitchesFor 87 = .ok (.goto (-61), 3) := by decide +kernel
theorem dX11_stitchesFor_90 : decode cX11_stitchesFor 90 = .ok (.iconst (-1), 1) := by decide +kernel
theorem dX11_stitchesFor_91 : decode cX11_stitchesFor 91 = .ok (.ireturn, 1) := by decide +kernel
theorem dX11_sizesLeft_0 : decode cX11_sizesLeft 0 = .ok (.aload_n 0, 1) := by decide +kernel
theorem dX11_sizesLeft_1 : decode cX11_sizesLeft 1 = .ok (.getfield 19, 3) := by decide +kernel
theorem dX11_sizesLeft_4 : decode cX11_sizesLeft 4 = .ok (.iload_n 1, 1) := by decide +kernel
theorem dX11_sizesLeft_5 : decode cX11_sizesLeft 5 = .ok (.invokevirtual 83, 3) := by decide +kernel
theorem dX11_sizesLeft_8 : decode cX11_sizesLeft 8 = .ok (.astore_n 2, 1) := by decide +kernel
theorem dX11_sizesLeft_9 : decode cX11_sizesLeft 9 = .ok (.iconst 0, 1) := by decide +kernel
theorem dX11_sizesLeft_10 : decode cX11_sizesLeft 10 = .ok (.istore_n 3, 1) := by decide +kernel
theorem dX11_sizesLeft_11 : decode cX11_sizesLeft 11 = .ok (.iconst 1, 1) := by decide +kernel
theorem dX11_sizesLeft_12 : decode cX11_sizesLeft 12 = .ok (.istore 4, 2) := by decide +kernel
theorem dX11_sizesLeft_14 : decode cX11_sizesLeft 14 = .ok (.iload 4, 2) := by decide +kernel
theorem dX11_sizesLeft_16 : decode cX11_sizesLeft 16 = .ok (.bipush 9, 2) := by decide +kernel
theorem dX11_sizesLeft_18 : decode cX11_sizesLeft 18 = .ok (.if_icmp .gt 34, 3) := by decide +kernel
theorem dX11_sizesLeft_21 : decode cX11_sizesLeft 21 = .ok (.aload_n 0, 1) := by decide +kernel
theorem dX11_sizesLeft_22 : decode cX11_sizesLeft 22 = .ok (.getfield 26, 3) := by decide +kernel
theorem dX11_sizesLeft_25 : decode cX11_sizesLeft 25 = .ok (.getfield 184, 3) := by decide +kernel
theorem dX11_sizesLeft_28 : decode cX11_sizesLeft 28 = .ok (.iload_n 1, 1) := by decide +kernel
theorem dX11_sizesLeft_29 : decode cX11_sizesLeft 29 = .ok (.aload_n 2, 1) := by decide +kernel
theorem dX11_sizesLeft_30 : decode cX11_sizesLeft 30 = .ok (.iload 4, 2) := by decide +kernel
theorem dX11_sizesLeft_32 : decode cX11_sizesLeft 32 = .ok (.invokevirtual 295, 3) := by decide +kernel
theorem dX11_sizesLeft_35 : decode cX11_sizesLeft 35 = .ok (.ifCond .eq 11, 3) := by decide +kernel
theorem dX11_sizesLeft_38 : decode cX11_sizesLeft 38 = .ok (.iload_n 3, 1) := by decide +kernel
theorem dX11_sizesLeft_39 : decode cX11_sizesLeft 39 = .ok (.iload 4, 2) := by decide +kernel
theorem dX11_sizesLeft_41 : decode cX11_sizesLeft 41 = .ok (.invokestatic 298, 3) := by decide +kernel
theorem dX11_sizesLeft_44 : decode cX11_sizesLeft 44 = .ok (.ior, 1) := by decide +kernel
theorem dX11_sizesLeft_45 : decode cX11_sizesLeft 45 = .ok (.istore_n 3, 1) := by decide +kernel
theorem dX11_sizesLeft_46 : decode cX11_sizesLeft 46 = .ok (.iinc 4 1, 3) := by decide +kernel
theorem dX11_sizesLeft_49 : decode cX11_sizesLeft 49 = .ok (.goto (-35), 3) := by decide +kernel
theorem dX11_sizesLeft_52 : decode cX11_sizesLeft 52 = .ok (.iload_n 3, 1) := by decide +kernel
theorem dX11_sizesLeft_53 : decode cX11_sizesLeft 53 = .ok (.ireturn, 1) := by decide +kernel
theorem dX11_bitOfSize_0 : decode cX11_bitOfSize 0 = .ok (.iconst 1, 1) := by decide +kernel
theorem dX11_bitOfSize_1 : decode cX11_bitOfSize 1 = .ok (.iload_n 0, 1) := by decide +kernel
theorem dX11_bitOfSize_2 : decode cX11_bitOfSize 2 = .ok (.iconst 1, 1) := by decide +kernel
theorem dX11_bitOfSize_3 : decode cX11_bitOfSize 3 = .ok (.isub, 1) := by decide +kernel
theorem dX11_bitOfSize_4 : decode cX11_bitOfSize 4 = .ok (.ishl, 1) := by decide +kernel
theorem dX11_bitOfSize_5 : decode cX11_bitOfSize 5 = .ok (.ireturn, 1) := by decide +kernel
theorem dX11_nextToTry_0 : decode cX11_nextToTry 0 = .ok (.aload_n 0, 1) := by decide +kernel
theorem dX11_nextToTry_1 : decode cX11_nextToTry 1 = .ok (.iload_n 1, 1) := by decide +kernel
theorem dX11_nextToTry_2 : decode cX11_nextToTry 2 = .ok (.invokevirtual 112, 3) := by decide +kernel
theorem dX11_nextToTry_5 : decode cX11_nextToTry 5 = .ok (.istore_n 2, 1) := by decide +kernel
theorem dX11_nextToTry_6 : decode cX11_nextToTry 6 = .ok (.iload_n 2, 1) := by decide +kernel
theorem dX11_nextToTry_7 : decode cX11_nextToTry 7 = .ok (.ifCond .ne 5, 3) := by decide +kernel
theorem dX11_nextToTry_10 : decode cX11_nextToTry 10 = .ok (.iconst (-1), 1) := by decide +kernel
theorem dX11_nextToTry_11 : decode cX11_nextToTry 11 = .ok (.ireturn, 1) := by decide +kernel
theorem dX11_nextToTry_12 : decode cX11_nextToTry 12 = .ok (.iconst (-1), 1) := by decide +kernel
theorem dX11_nextToTry_13 : decode cX11_nextToTry 13 = .ok (.istore_n 3, 1) := by decide +kernel
theorem dX11_nextToTry_14 : decode cX11_nextToTry 14 = .ok (.bipush 10, 2) := by decide +kernel
theorem dX11_nextToTry_16 : decode cX11_nextToTry 16 = .ok (.istore 4, 2) := by decide +kernel
theorem dX11_nextToTry_18 : decode cX11_nextToTry 18 = .ok (.iconst 0, 1) := by decide +kernel
theorem dX11_nextToTry_19 : decode cX11_nextToTry 19 = .ok (.istore 5, 2) := by decide +kernel
theorem dX11_nextToTry_21 : decode cX11_nextToTry 21 = .ok (.iload 5, 2) := by decide +kernel
theorem dX11_nextToTry_23 : decode cX11_nextToTry 23 = .ok (.aload_n 0, 1) := by decide +kernel
theorem dX11_nextToTry_24 : decode cX11_nextToTry 24 = .ok (.getfield 19, 3) := by decide +kernel
theorem dX11_nextToTry_27 : decode cX11_nextToTry 27 = .ok (.invokevirtual 80, 3) := by decide +kernel
theorem dX11_nextToTry_30 : decode cX11_nextToTry 30 = .ok (.if_icmp .ge 33, 3) := by decide +kernel
theorem dX11_nextToTry_33 : decode cX11_nextToTry 33 = .ok (.aload_n 0, 1) := by decide +kernel
theorem dX11_nextToTry_34 : decode cX11_nextToTry 34 = .ok (.iload_n 1, 1) := by decide +kernel
theorem dX11_nextToTry_35 : decode cX11_nextToTry 35 = .ok (.iload 5, 2) := by decide +kernel
theorem dX11_nextToTry_37 : decode cX11_nextToTry 37 = .ok (.iload_n 2, 1) := by decide +kernel
theorem dX11_nextToTry_38 : decode cX11_nextToTry 38 = .ok (.invokevirtual 301, 3) := by decide +kernel
theorem dX11_nextToTry_41 : decode cX11_nextToTry 41 = .ok (.istore 6, 2) := by decide +kernel
theorem dX11_nextToTry_43 : decode cX11_nextToTry 43 = .ok (.iload 6, 2) := by decide +kernel
theorem dX11_nextToTry_45 : decode cX11_nextToTry 45 = .ok (.iload 4, 2) := by decide +kernel
theorem dX11_nextToTry_47 : decode cX11_nextToTry 47 = .ok (.if_icmp .ge 10, 3) := by decide +kernel
theorem dX11_nextToTry_50 : decode cX11_nextToTry 50 = .ok (.iload 6, 2) := by decide +kernel
theorem dX11_nextToTry_52 : decode cX11_nextToTry 52 = .ok (.istore 4, 2) := by decide +kernel
theorem dX11_nextToTry_54 : decode cX11_nextToTry 54 = .ok (.iload 5, 2) := by decide +kernel
theorem dX11_nextToTry_56 : decode cX11_nextToTry 56 = .ok (.istore_n 3, 1) := by decide +kernel
theorem dX11_nextToTry_57 : decode cX11_nextToTry 57 = .ok (.iinc 5 1, 3) := by decide +kernel
theorem dX11_nextToTry_60 : decode cX11_nextToTry 60 = .ok (.goto (-39), 3) := by decide +kernel
theorem dX11_nextToTry_63 : decode cX11_nextToTry 63 = .ok (.iload_n 3, 1) := by decide +kernel
theorem dX11_nextToTry_64 : decode cX11_nextToTry 64 = .ok (.ireturn, 1) := by decide +kernel
theorem dX11_leftAtWorst_0 : decode cX11_leftAtWorst 0 = .ok (.aload_n 0, 1) := by decide +kernel
theorem dX11_leftAtWorst_1 : decode cX11_leftAtWorst 1 = .ok (.getfield 19, 3) := by decide +kernel
theorem dX11_leftAtWorst_4 : decode cX11_leftAtWorst 4 = .ok (.iload_n 1, 1) := by decide +kernel
theorem dX11_leftAtWorst_5 : decode cX11_leftAtWorst 5 = .ok (.invokevirtual 83, 3) := by decide +kernel
theorem dX11_leftAtWorst_8 : decode cX11_leftAtWorst 8 = .ok (.astore 4, 2) := by decide +kernel
theorem dX11_leftAtWorst_10 : decode cX11_leftAtWorst 10 = .ok (.aload_n 0, 1) := by decide +kernel
theorem dX11_leftAtWorst_11 : decode cX11_leftAtWorst 11 = .ok (.getfield 19, 3) := by decide +kernel
theorem dX11_leftAtWorst_14 : decode cX11_leftAtWorst 14 = .ok (.iload_n 2, 1) := by decide +kernel
theorem dX11_leftAtWorst_15 : decode cX11_leftAtWorst 15 = .ok (.invokevirtual 122, 3) := by decide +kernel
theorem dX11_leftAtWorst_18 : decode cX11_leftAtWorst 18 = .ok (.astore 5, 2) := by decide +kernel
theorem dX11_leftAtWorst_20 : decode cX11_leftAtWorst 20 = .ok (.aload 4, 2) := by decide +kernel
theorem dX11_leftAtWorst_22 : decode cX11_leftAtWorst 22 = .ok (.ifnull 8, 3) := by decide +kernel
theorem dX11_leftAtWorst_25 : decode cX11_leftAtWorst 25 = .ok (.aload 5, 2) := by decide +kernel
theorem dX11_leftAtWorst_27 : decode cX11_leftAtWorst 27 = .ok (.ifnonnull 6, 3) := by decide +kernel
theorem dX11_leftAtWorst_30 : decode cX11_leftAtWorst 30 = .ok (.bipush 9, 2) := by decide +kernel
theorem dX11_leftAtWorst_32 : decode cX11_leftAtWorst 32 = .ok (.ireturn, 1) := by decide +kernel
theorem dX11_leftAtWorst_33 : decode cX11_leftAtWorst 33 = .ok (.iconst 0, 1) := by decide +kernel
theorem dX11_leftAtWorst_34 : decode cX11_leftAtWorst 34 = .ok (.istore 6, 2) := by decide +kernel
theorem dX11_leftAtWorst_36 : decode cX11_leftAtWorst 36 = .ok (.iconst 1, 1) := by decide +kernel
theorem dX11_leftAtWorst_37 : decode cX11_leftAtWorst 37 = .ok (.istore 7, 2) := by decide +kernel
theorem dX11_leftAtWorst_39 : decode cX11_leftAtWorst 39 = .ok (.iload 7, 2) := by decide +kernel
theorem dX11_leftAtWorst_41 : decode cX11_leftAtWorst 41 = .ok (.bipush 9, 2) := by decide +kernel
theorem dX11_leftAtWorst_43 : decode cX11_leftAtWorst 43 = .ok (.if_icmp .gt 57, 3) := by decide +kernel
theorem dX11_leftAtWorst_46 : decode cX11_leftAtWorst 46 = .ok (.iload_n 3, 1) := by decide +kernel
theorem dX11_leftAtWorst_47 : decode cX11_leftAtWorst 47 = .ok (.iload 7, 2) := by decide +kernel
theorem dX11_leftAtWorst_49 : decode cX11_leftAtWorst 49 = .ok (.invokestatic 298, 3) := by decide +kernel
theorem dX11_leftAtWorst_52 : decode cX11_leftAtWorst 52 = .ok (.iand, 1) := by decide +kernel
theorem dX11_leftAtWorst_53 : decode cX11_leftAtWorst 53 = .ok (.ifCond .eq 7, 3) := by decide +kernel
theorem dX11_leftAtWorst_56 : decode cX11_leftAtWorst 56 = .ok (.iconst 1, 1) := by decide +kernel
theorem dX11_leftAtWorst_57 : decode cX11_leftAtWorst 57 = .ok (.goto 4, 3) := by decide +kernel
theorem dX11_leftAtWorst_60 : decode cX11_leftAtWorst 60 = .ok (.iconst 0, 1) := by decide +kernel
theorem dX11_leftAtWorst_61 : decode cX11_leftAtWorst 61 = .ok (.istore 8, 2) := by decide +kernel
theorem dX11_leftAtWorst_63 : decode cX11_leftAtWorst 63 = .ok (.iload 8, 2) := by decide +kernel
theorem dX11_leftAtWorst_65 : decode cX11_leftAtWorst 65 = .ok (.ifCond .eq 29, 3) := by decide +kernel
theorem dX11_leftAtWorst_68 : decode cX11_leftAtWorst 68 = .ok (.aload 4, 2) := by decide +kernel
theorem dX11_leftAtWorst_70 : decode cX11_leftAtWorst 70 = .ok (.iload 7, 2) := by decide +kernel
theorem dX11_leftAtWorst_72 : decode cX11_leftAtWorst 72 = .ok (.aload_n 0, 1) := by decide +kernel
theorem dX11_leftAtWorst_73 : decode cX11_leftAtWorst 73 = .ok (.getfield 26, 3) := by decide +kernel
theorem dX11_leftAtWorst_76 : decode cX11_leftAtWorst 76 = .ok (.iload_n 2, 1) := by decide +kernel
theorem dX11_leftAtWorst_77 : decode cX11_leftAtWorst 77 = .ok (.invokevirtual 126, 3) := by decide +kernel
theorem dX11_leftAtWorst_80 : decode cX11_leftAtWorst 80 = .ok (.aload 5, 2) := by decide +kernel
theorem dX11_leftAtWorst_82 : decode cX11_leftAtWorst 82 = .ok (.getfield 129, 3) := by decide +kernel
theorem dX11_leftAtWorst_85 : decode cX11_leftAtWorst 85 = .ok (.invokevirtual 250, 3) := by decide +kernel
theorem dX11_leftAtWorst_88 : decode cX11_leftAtWorst 88 = .ok (.ifCond .eq 6, 3) := by decide +kernel
theorem dX11_leftAtWorst_91 : decode cX11_leftAtWorst 91 = .ok (.iinc 6 1, 3) := by decide +kernel
theorem dX11_leftAtWorst_94 : decode cX11_leftAtWorst 94 = .ok (.iinc 7 1, 3) := by decide +kernel
theorem dX11_leftAtWorst_97 : decode cX11_leftAtWorst 97 = .ok (.goto (-58), 3) := by decide +kernel
theorem dX11_leftAtWorst_100 : decode cX11_leftAtWorst 100 = .ok (.iload 6, 2) := by decide +kernel
theorem dX11_leftAtWorst_102 : decode cX11_leftAtWorst 102 = .ok (.iload_n 3, 1) := by decide +kernel
theorem dX11_leftAtWorst_103 : decode cX11_leftAtWorst 103 = .ok (.invokestatic 305, 3) := by decide +kernel
theorem dX11_leftAtWorst_106 : decode cX11_leftAtWorst 106 = .ok (.iload 6, 2) := by decide +kernel
theorem dX11_leftAtWorst_108 : decode cX11_leftAtWorst 108 = .ok (.isub, 1) := by decide +kernel
theorem dX11_leftAtWorst_109 : decode cX11_leftAtWorst 109 = .ok (.invokestatic 310, 3) := by decide +kernel
theorem dX11_leftAtWorst_112 : decode cX11_leftAtWorst 112 = .ok (.ireturn, 1) := by decide +kernel
theorem dX11_seedAfter_0 : decode cX11_seedAfter 0 = .ok (.ldc2_w 315, 3) := by decide +kernel
theorem dX11_seedAfter_3 : decode cX11_seedAfter 3 = .ok (.iload_n 0, 1) := by decide +kernel
theorem dX11_seedAfter_4 : decode cX11_seedAfter 4 = .ok (.i2l, 1) := by decide +kernel
theorem dX11_seedAfter_5 : decode cX11_seedAfter 5 = .ok (.lmul, 1) := by decide +kernel
theorem dX11_seedAfter_6 : decode cX11_seedAfter 6 = .ok (.ldc2_w 317, 3) := by decide +kernel
theorem dX11_seedAfter_9 : decode cX11_seedAfter 9 = .ok (.ladd, 1) := by decide +kernel
theorem dX11_seedAfter_10 : decode cX11_seedAfter 10 = .ok (.ldc2_w 319, 3) := by decide +kernel
theorem dX11_seedAfter_13 : decode cX11_seedAfter 13 = .ok (.land, 1) := by decide +kernel
theorem dX11_seedAfter_14 : decode cX11_seedAfter 14 = .ok (.l2i, 1) := by decide +kernel
theorem dX11_seedAfter_15 : decode cX11_seedAfter 15 = .ok (.ireturn, 1) := by decide +kernel
theorem dX11_drawn_0 : decode cX11_drawn 0 = .ok (.iload_n 1, 1) := by decide +kernel
theorem dX11_drawn_1 : decode cX11_drawn 1 = .ok (.iconst 1, 1) := by decide +kernel
theorem dX11_drawn_2 : decode cX11_drawn 2 = .ok (.if_icmp .ge 7, 3) := by decide +kernel
theorem dX11_drawn_5 : decode cX11_drawn 5 = .ok (.iconst 0, 1) := by decide +kernel
theorem dX11_drawn_6 : decode cX11_drawn 6 = .ok (.goto 10, 3) := by decide +kernel
theorem dX11_drawn_9 : decode cX11_drawn 9 = .ok (.iload_n 0, 1) := by decide +kernel
theorem dX11_drawn_10 : decode cX11_drawn 10 = .ok (.ldc_w 321, 3) := by decide +kernel
theorem dX11_drawn_13 : decode cX11_drawn 13 = .ok (.idiv, 1) := by decide +kernel
theorem dX11_drawn_14 : decode cX11_drawn 14 = .ok (.iload_n 1, 1) := by decide +kernel
theorem dX11_drawn_15 : decode cX11_drawn 15 = .ok (.irem, 1) := by decide +kernel
theorem dX11_drawn_16 : decode cX11_drawn 16 = .ok (.ireturn, 1) := by decide +kernel
theorem dX11_comesFor_0 : decode cX11_comesFor 0 = .ok (.aload_n 0, 1) := by decide +kernel
theorem dX11_comesFor_1 : decode cX11_comesFor 1 = .ok (.getfield 33, 3) := by decide +kernel
theorem dX11_comesFor_4 : decode cX11_comesFor 4 = .ok (.iload_n 1, 1) := by decide +kernel
theorem dX11_comesFor_5 : decode cX11_comesFor 5 = .ok (.invokevirtual 101, 3) := by decide +kernel
theorem dX11_comesFor_8 : decode cX11_comesFor 8 = .ok (.iconst (-1), 1) := by decide +kernel
theorem dX11_comesFor_9 : decode cX11_comesFor 9 = .ok (.if_icmp .eq 15, 3) := by decide +kernel
theorem dX11_comesFor_12 : decode cX11_comesFor 12 = .ok (.aload_n 0, 1) := by decide +kernel
theorem dX11_comesFor_13 : decode cX11_comesFor 13 = .ok (.getfield 33, 3) := by decide +kernel
theorem dX11_comesFor_16 : decode cX11_comesFor 16 = .ok (.iload_n 1, 1) := by decide +kernel
theorem dX11_comesFor_17 : decode cX11_comesFor 17 = .ok (.iconst (-1), 1) := by decide +kernel
theorem dX11_comesFor_18 : decode cX11_comesFor 18 = .ok (.invokevirtual 148, 3) := by decide +kernel
theorem dX11_comesFor_21 : decode cX11_comesFor 21 = .ok (.goto 25, 3) := by decide +kernel
theorem dX11_comesFor_24 : decode cX11_comesFor 24 = .ok (.aload_n 0, 1) := by decide +kernel
theorem dX11_comesFor_25 : decode cX11_comesFor 25 = .ok (.aload_n 0, 1) := by decide +kernel
theorem dX11_comesFor_26 : decode cX11_comesFor 26 = .ok (.getfield 33, 3) := by decide +kernel
theorem dX11_comesFor_29 : decode cX11_comesFor 29 = .ok (.iload_n 1, 1) := by decide +kernel
theorem dX11_comesFor_30 : decode cX11_comesFor 30 = .ok (.iload_n 2, 1) := by decide +kernel
theorem dX11_comesFor_31 : decode cX11_comesFor 31 = .ok (.invokevirtual 144, 3) := by decide +kernel
theorem dX11_comesFor_34 : decode cX11_comesFor 34 = .ok (.ifCond .eq 12, 3) := by decide +kernel
theorem dX11_comesFor_37 : decode cX11_comesFor 37 = .ok (.aload_n 0, 1) := by decide +kernel
theorem dX11_comesFor_38 : decode cX11_comesFor 38 = .ok (.getfield 33, 3) := by decide +kernel
theorem dX11_comesFor_41 : decode cX11_comesFor 41 = .ok (.iload_n 1, 1) := by decide +kernel
theorem dX11_comesFor_42 : decode cX11_comesFor 42 = .ok (.iload_n 2, 1) := by decide +kernel
theorem dX11_comesFor_43 : decode cX11_comesFor 43 = .ok (.invokevirtual 148, 3) := by decide +kernel
theorem dX11_comesFor_46 : decode cX11_comesFor 46 = .ok (.return_, 1) := by decide +kernel
theorem dX12_init_0 : decode cX12_init 0 = .ok (.aload_n 0, 1) := by decide +kernel
theorem dX12_init_1 : decode cX12_init 1 = .ok (.invokespecial 1, 3) := by decide +kernel
theorem dX12_init_4 : decode cX12_init 4 = .ok (.aload_n 0, 1) := by decide +kernel
theorem dX12_init_5 : decode cX12_init 5 = .ok (.iconst 4, 1) := by decide +kernel
theorem dX12_init_6 : decode cX12_init 6 = .ok (.newarray .int, 2) := by decide +kernel
theorem dX12_init_8 : decode cX12_init 8 = .ok (.putfield 7, 3) := by decide +kernel
theorem dX12_init_11 : decode cX12_init 11 = .ok (.aload_n 0, 1) := by decide +kernel
theorem dX12_init_12 : decode cX12_init 12 = .ok (.iconst 4, 1) := by decide +kernel
theorem dX12_init_13 : decode cX12_init 13 = .ok (.newarray .int, 2) := by decide +kernel
theorem dX12_init_15 : decode cX12_init 15 = .ok (.putfield 13, 3) := by decide +kernel
theorem dX12_init_18 : decode cX12_init 18 = .ok (.aload_n 0, 1) := by decide +kernel
theorem dX12_init_19 : decode cX12_init 19 = .ok (.iconst 4, 1) := by decide +kernel
theorem dX12_init_20 : decode cX12_init 20 = .ok (.newarray .int, 2) := by decide +kernel
theorem dX12_init_22 : decode cX12_init 22 = .ok (.putfield 16, 3) := by decide +kernel
theorem dX12_init_25 : decode cX12_init 25 = .ok (.aload_n 0, 1) := by decide +kernel
theorem dX12_init_26 : decode cX12_init 26 = .ok (.iconst 4, 1) := by decide +kernel
theorem dX12_init_27 : decode cX12_init 27 = .ok (.newarray .int, 2) := by decide +kernel
theorem dX12_init_29 : decode cX12_init 29 = .ok (.putfield 19, 3) := by decide +kernel
theorem dX12_init_32 : decode cX12_init 32 = .ok (.aload_n 0, 1) := by decide +kernel
theorem dX12_init_33 : decode cX12_init 33 = .ok (.iconst 4, 1) := by decide +kernel
theorem dX12_init_34 : decode cX12_init 34 = .ok (.newarray .int, 2) := by decide +kernel
theorem dX12_init_36 : decode cX12_init 36 = .ok (.putfield 22, 3) := by decide +kernel
theorem dX12_init_39 : decode cX12_init 39 = .ok (.aload_n 0, 1) := by decide +kernel
theorem dX12_init_40 : decode cX12_init 40 = .ok (.iconst 4, 1) := by decide +kernel
theorem dX12_init_41 : decode cX12_init 41 = .ok (.newarray .int, 2) := by decide +kernel
theorem dX12_init_43 : decode cX12_init 43 = .ok (.putfield 25, 3) := by decide +kernel
theorem dX12_init_46 : decode cX12_init 46 = .ok (.aload_n 0, 1) := by decide +kernel
theorem dX12_init_47 : decode cX12_init 47 = .ok (.iconst 4, 1) := by decide +kernel
theorem dX12_init_48 : decode cX12_init 48 = .ok (.newarray .int, 2) := by decide +kernel
theorem dX12_init_50 : decode cX12_init 50 = .ok (.putfield 28, 3) := by decide +kernel
theorem dX12_init_53 : decode cX12_init 53 = .ok (.aload_n 0, 1) := by decide +kernel
theorem dX12_init_54 : decode cX12_init 54 = .ok (.bipush 6, 2) := by decide +kernel
theorem dX12_init_56 : decode cX12_init 56 = .ok (.newarray .int, 2) := by decide +kernel
theorem dX12_init_58 : decode cX12_init 58 = .ok (.putfield 31, 3) := by decide +kernel
theorem dX12_init_61 : decode cX12_init 61 = .ok (.aload_n 0, 1) := by decide +kernel
theorem dX12_init_62 : decode cX12_init 62 = .ok (.bipush 6, 2) := by decide +kernel
theorem dX12_init_64 : decode cX12_init 64 = .ok (.newarray .int, 2) := by decide +kernel
theorem dX12_init_66 : decode cX12_init 66 = .ok (.putfield 34, 3) := by decide +kernel
theorem dX12_init_69 : decode cX12_init 69 = .ok (.aload_n 0, 1) := by decide +kernel
theorem dX12_init_70 : decode cX12_init 70 = .ok (.bipush 6, 2) := by decide +kernel
theorem dX12_init_72 : decode cX12_init 72 = .ok (.newarray .int, 2) := by decide +kernel
theorem dX12_init_74 : decode cX12_init 74 = .ok (.putfield 37, 3) := by decide +kernel
theorem dX12_init_77 : decode cX12_init 77 = .ok (.aload_n 0, 1) := by decide +kernel
theorem dX12_init_78 : decode cX12_init 78 = .ok (.bipush 6, 2) := by decide +kernel
theorem dX12_init_80 : decode cX12_init 80 = .ok (.newarray .int, 2) := by decide +kernel
theorem dX12_init_82 : decode cX12_init 82 = .ok (.putfield 40, 3) := by decide +kernel
theorem dX12_init_85 : decode cX12_init 85 = .ok (.aload_n 0, 1) := by decide +kernel
theorem dX12_init_86 : decode cX12_init 86 = .ok (.bipush 30, 2) := by decide +kernel
theorem dX12_init_88 : decode cX12_init 88 = .ok (.newarray .byte, 2) := by decide +kernel
theorem dX12_init_90 : decode cX12_init 90 = .ok (.putfield 43, 3) := by decide +kernel
theorem dX12_init_93 : decode cX12_init 93 = .ok (.aload_n 0, 1) := by decide +kernel
theorem dX12_init_94 : decode cX12_init 94 = .ok (.iconst 4, 1) := by decide +kernel
theorem dX12_init_95 : decode cX12_init 95 = .ok (.newarray .int, 2) := by decide +kernel
theorem dX12_init_97 : decode cX12_init 97 = .ok (.putfield 47, 3) := by decide +kernel
theorem dX12_init_100 : decode cX12_init 100 = .ok (.aload_n 0, 1) := by decide +kernel
theorem dX12_init_101 : decode cX12_init 101 = .ok (.iconst 4, 1) := by decide +kernel
theorem dX12_init_102 : decode cX12_init 102 = .ok (.newarray .int, 2) := by decide +kernel
theorem dX12_init_104 : decode cX12_init 104 = .ok (.putfield 50, 3) := by decide +kernel
theorem dX12_init_107 : decode cX12_init 107 = .ok (.aload_n 0, 1) := by decide +kernel
theorem dX12_init_108 : decode cX12_init 108 = .ok (.iconst 4, 1) := by decide +kernel
theorem dX12_init_109 : decode cX12_init 109 = .ok (.newarray .int, 2) := by decide +kernel
theorem dX12_init_111 : decode cX12_init 111 = .ok (.putfield 53, 3) := by decide +kernel
theorem dX12_init_114 : decode cX12_init 114 = .ok (.aload_n 0, 1) := by decide +kernel
theorem dX12_init_115 : decode cX12_init 115 = .ok (.iconst 4, 1) := by decide +kernel
theorem dX12_init_116 : decode cX12_init 116 = .ok (.newarray .int, 2) := by decide +kernel
theorem dX12_init_118 : decode cX12_init 118 = .ok (.putfield 56, 3) := by decide +kernel
theorem dX12_init_121 : decode cX12_init 121 = .ok (.aload_n 0, 1) := by decide +kernel
theorem dX12_init_122 : decode cX12_init 122 = .ok (.bipush 6, 2) := by decide +kernel
theorem dX12_init_124 : decode cX12_init 124 = .ok (.newarray .int, 2) := by decide +kernel
theorem dX12_init_126 : decode cX12_init 126 = .ok (.putfield 59, 3) := by decide +kernel
theorem dX12_init_129 : decode cX12_init 129 = .ok (.aload_n 0, 1) := by decide +kernel
theorem dX12_init_130 : decode cX12_init 130 = .ok (.bipush 6, 2) := by decide +kernel
theorem dX12_init_132 : decode cX12_init 132 = .ok (.newarray .int, 2) := by decide +kernel
theorem dX12_init_134 : decode cX12_init 134 = .ok (.putfield 62, 3) := by decide +kernel
theorem dX12_init_137 : decode cX12_init 137 = .ok (.aload_n 0, 1) := by decide +kernel
theorem dX12_init_138 : decode cX12_init 138 = .ok (.bipush 6, 2) := by decide +kernel
theorem dX12_init_140 : decode cX12_init 140 = .ok (.newarray .int, 2) := by decide +kernel
theorem dX12_init_142 : decode cX12_init 142 = .ok (.putfield 65, 3) := by decide +kernel
theorem dX12_init_145 : decode cX12_init 145 = .ok (.aload_n 0, 1) := by decide +kernel
theorem dX12_init_146 : decode cX12_init 146 = .ok (.bipush 6, 2) := by decide +kernel
theorem dX12_init_148 : decode cX12_init 148 = .ok (.newarray .int, 2) := by decide +kernel
theorem dX12_init_150 : decode cX12_init 150 = .ok (.putfield 68, 3) := by decide +kernel
theorem dX12_init_153 : decode cX12_init 153 = .ok (.return_, 1) := by decide +kernel
theorem dX12_within_0 : decode cX12_within 0 = .ok (.iload_n 0, 1) := by decide +kernel
theorem dX12_within_1 : decode cX12_within 1 = .ok (.iload_n 1, 1) := by decide +kernel
theorem dX12_within_2 : decode cX12_within 2 = .ok (.if_icmp .lt 12, 3) := by decide +kernel
theorem dX12_within_5 : decode cX12_within 5 = .ok (.iload_n 0, 1) := by decide +kernel
theorem dX12_within_6 : decode cX12_within 6 = .ok (.iload_n 2, 1) := by decide +kernel
theorem dX12_within_7 : decode cX12_within 7 = .ok (.if_icmp .gt 7, 3) := by decide +kernel
theorem dX12_within_10 : decode cX12_within 10 = .ok (.iconst 1, 1) := by decide +kernel
theorem dX12_within_11 : decode cX12_within 11 = .ok (.goto 4, 3) := by decide +kernel
theorem dX12_within_14 : decode cX12_within 14 = .ok (.iconst 0, 1) := by decide +kernel
theorem dX12_within_15 : decode cX12_within 15 = .ok (.ireturn, 1) := by decide +kernel
theorem dX12_isIn_0 : decode cX12_isIn 0 = .ok (.iload_n 0, 1) := by decide +kernel
theorem dX12_isIn_1 : decode cX12_isIn 1 = .ok (.iload_n 1, 1) := by decide +kernel
theorem dX12_isIn_2 : decode cX12_isIn 2 = .ok (.ishr, 1) := by decide +kernel
theorem dX12_isIn_3 : decode cX12_isIn 3 = .ok (.iconst 1, 1) := by decide +kernel
theorem dX12_isIn_4 : decode cX12_isIn 4 = .ok (.iand, 1) := by decide +kernel
theorem dX12_isIn_5 : decode cX12_isIn 5 = .ok (.iconst 1, 1) := by decide +kernel
theorem dX12_isIn_6 : decode cX12_isIn 6 = .ok (.if_icmp .ne 7, 3) := by decide +kernel
theorem dX12_isIn_9 : decode cX12_isIn 9 = .ok (.iconst 1, 1) := by decide +kernel
theorem dX12_isIn_10 : decode cX12_isIn 10 = .ok (.goto 4, 3) := by decide +kernel
theorem dX12_isIn_13 : decode cX12_isIn 13 = .ok (.iconst 0, 1) := by decide +kernel
theorem dX12_isIn_14 : decode cX12_isIn 14 = .ok (.ireturn, 1) := by decide +kernel
theorem dX12_letter_0 : decode cX12_letter 0 = .ok (.iload_n 1, 1) := by decide +kernel
theorem dX12_letter_1 : decode cX12_letter 1 = .ok (.bipush 32, 2) := by decide +kernel
theorem dX12_letter_3 : decode cX12_letter 3 = .ok (.bipush 126, 2) := by decide +kernel
theorem dX12_letter_5 : decode cX12_letter 5 = .ok (.invokestatic 71, 3) := by decide +kernel
theorem dX12_letter_8 : decode cX12_letter 8 = .ok (.ifCond .ne 6, 3) := by decide +kernel
theorem dX12_letter_11 : decode cX12_letter 11 = .ok (.bipush (-102), 2) := by decide +kernel
theorem dX12_letter_13 : decode cX12_letter 13 = .ok (.ireturn, 1) := by decide +kernel
theorem dX12_letter_14 : decode cX12_letter 14 = .ok (.aload_n 0, 1) := by decide +kernel
theorem dX12_letter_15 : decode cX12_letter 15 = .ok (.getfield 75, 3) := by decide +kernel
theorem dX12_letter_18 : decode cX12_letter 18 = .ok (.bipush 30, 2) := by decide +kernel
theorem dX12_letter_20 : decode cX12_letter 20 = .ok (.if_icmp .ne 6, 3) := by decide +kernel
theorem dX12_letter_23 : decode cX12_letter 23 = .ok (.bipush (-104), 2) := by decide +kernel
theorem dX12_letter_25 : decode cX12_letter 25 = .ok (.ireturn, 1) := by decide +kernel
theorem dX12_letter_26 : decode cX12_letter 26 = .ok (.aload_n 0, 1) := by decide +kernel
theorem dX12_letter_27 : decode cX12_letter 27 = .ok (.getfield 43, 3) := by decide +kernel
theorem dX12_letter_30 : decode cX12_letter 30 = .ok (.aload_n 0, 1) := by decide +kernel
theorem dX12_letter_31 : decode cX12_letter 31 = .ok (.getfield 75, 3) := by decide +kernel
theorem dX12_letter_34 : decode cX12_letter 34 = .ok (.iload_n 1, 1) := by decide +kernel
theorem dX12_letter_35 : decode cX12_letter 35 = .ok (.i2b, 1) := by decide +kernel
theorem dX12_letter_36 : decode cX12_letter 36 = .ok (.bastore, 1) := by decide +kernel
theorem dX12_letter_37 : decode cX12_letter 37 = .ok (.aload_n 0, 1) := by decide +kernel
theorem dX12_letter_38 : decode cX12_letter 38 = .ok (.dup, 1) := by decide +kernel
theorem dX12_letter_39 : decode cX12_letter 39 = .ok (.getfield 75, 3) := by decide +kernel
theorem dX12_letter_42 : decode cX12_letter 42 = .ok (.iconst 1, 1) := by decide +kernel
theorem dX12_letter_43 : decode cX12_letter 43 = .ok (.iadd, 1) := by decide +kernel
theorem dX12_letter_44 : decode cX12_letter 44 = .ok (.putfield 75, 3) := by decide +kernel
theorem dX12_letter_47 : decode cX12_letter 47 = .ok (.aload_n 0, 1) := by decide +kernel
theorem dX12_letter_48 : decode cX12_letter 48 = .ok (.getfield 75, 3) := by decide +kernel
theorem dX12_letter_51 : decode cX12_letter 51 = .ok (.ireturn, 1) := by decide +kernel
theorem dX12_blank_0 : decode cX12_blank 0 = .ok (.aload_n 0, 1) := by decide +kernel
theorem dX12_blank_1 : decode cX12_blank 1 = .ok (.getfield 75, 3) := by decide +kernel
theorem dX12_blank_4 : decode cX12_blank 4 = .ok (.istore_n 1, 1) := by decide +kernel
theorem dX12_blank_5 : decode cX12_blank 5 = .ok (.aload_n 0, 1) := by decide +kernel
theorem dX12_blank_6 : decode cX12_blank 6 = .ok (.iconst 0, 1) := by decide +kernel
theorem dX12_blank_7 : decode cX12_blank 7 = .ok (.putfield 75, 3) := by decide +kernel
theorem dX12_blank_10 : decode cX12_blank 10 = .ok (.iload_n 1, 1) := by decide +kernel
theorem dX12_blank_11 : decode cX12_blank 11 = .ok (.ireturn, 1) := by decide +kernel
theorem dX12_kindBy_0 : decode cX12_kindBy 0 = .ok (.iload_n 0, 1) := by decide +kernel
theorem dX12_kindBy_1 : decode cX12_kindBy 1 = .ok (.lookupswitch 61 #[(98, 55), (104, 59), (105, 57), (109, 51), (116, 53)], 51) := by decide +kernel
theorem dX12_kindBy_52 : decode cX12_kindBy 52 = .ok (.iconst 0, 1) := by decide +kernel
theorem dX12_kindBy_53 : decode cX12_kindBy 53 = .ok (.ireturn, 1) := by decide +kernel
theorem dX12_kindBy_54 : decode cX12_kindBy 54 = .ok (.iconst 1, 1) := by decide +kernel
theorem dX12_kindBy_55 : decode cX12_kindBy 55 = .ok (.ireturn, 1) := by decide +kernel
theorem dX12_kindBy_56 : decode cX12_kindBy 56 = .ok (.iconst 2, 1) := by decide +kernel
theorem dX12_kindBy_57 : decode cX12_kindBy 57 = .ok (.ireturn, 1) := by decide +kernel
theorem dX12_kindBy_58 : decode cX12_kindBy 58 = .ok (.iconst 3, 1) := by decide +kernel
theorem dX12_kindBy_59 : decode cX12_kindBy 59 = .ok (.ireturn, 1) := by decide +kernel
theorem dX12_kindBy_60 : decode cX12_kindBy 60 = .ok (.iconst 4, 1) := by decide +kernel
theorem dX12_kindBy_61 : decode cX12_kindBy 61 = .ok (.ireturn, 1) := by decide +kernel
theorem dX12_kindBy_62 : decode cX12_kindBy 62 = .ok (.iconst (-1), 1) := by decide +kernel
theorem dX12_kindBy_63 : decode cX12_kindBy 63 = .ok (.ireturn, 1) := by decide +kernel
theorem dX12_isFigure_0 : decode cX12_isFigure 0 = .ok (.iload_n 1, 1) := by decide +kernel
theorem dX12_isFigure_1 : decode cX12_isFigure 1 = .ok (.aload_n 0, 1) := by decide +kernel
theorem dX12_isFigure_2 : decode cX12_isFigure 2 = .ok (.getfield 75, 3) := by decide +kernel
theorem dX12_isFigure_5 : decode cX12_isFigure 5 = .ok (.if_icmp .ge 24, 3) := by decide +kernel
theorem dX12_isFigure_8 : decode cX12_isFigure 8 = .ok (.aload_n 0, 1) := by decide +kernel
theorem dX12_isFigure_9 : decode cX12_isFigure 9 = .ok (.getfield 43, 3) := by decide +kernel
theorem dX12_isFigure_12 : decode cX12_isFigure 12 = .ok (.iload_n 1, 1) := by decide +kernel
theorem dX12_isFigure_13 : decode cX12_isFigure 13 = .ok (.baload, 1) := by decide +kernel
theorem dX12_isFigure_14 : decode cX12_isFigure 14 = .ok (.bipush 48, 2) := by decide +kernel
theorem dX12_isFigure_16 : decode cX12_isFigure 16 = .ok (.isub, 1) := by decide +kernel
theorem dX12_isFigure_17 : decode cX12_isFigure 17 = .ok (.iload_n 2, 1) := by decide +kernel
theorem dX12_isFigure_18 : decode cX12_isFigure 18 = .ok (.iload_n 3, 1) := by decide +kernel
theorem dX12_isFigure_19 : decode cX12_isFigure 19 = .ok (.invokestatic 71, 3) := by decide +kernel
theorem dX12_isFigure_22 : decode cX12_isFigure 22 = .ok (.ifCond .eq 7, 3) := by decide +kernel
theorem dX12_isFigure_25 : decode cX12_isFigure 25 = .ok (.iconst 1, 1) := by decide +kernel
theorem dX12_isFigure_26 : decode cX12_isFigure 26 = .ok (.goto 4, 3) := by decide +kernel
theorem dX12_isFigure_29 : decode cX12_isFigure 29 = .ok (.iconst 0, 1) := by decide +kernel
theorem dX12_isFigure_30 : decode cX12_isFigure 30 = .ok (.ireturn, 1) := by decide +kernel
theorem dX12_readOne_0 : decode cX12_readOne 0 = .ok (.iload_n 1, 1) := by decide +kernel
theorem dX12_readOne_1 : decode cX12_readOne 1 = .ok (.aload_n 0, 1) := by decide +kernel
theorem dX12_readOne_2 : decode cX12_readOne 2 = .ok (.getfield 75, 3) := by decide +kernel
theorem dX12_readOne_5 : decode cX12_readOne 5 = .ok (.if_icmp .eq 16, 3) := by decide +kernel
theorem dX12_readOne_8 : decode cX12_readOne 8 = .ok (.aload_n 0, 1) := by decide +kernel
theorem dX12_readOne_9 : decode cX12_readOne 9 = .ok (.getfield 43, 3) := by decide +kernel
theorem dX12_readOne_12 : decode cX12_readOne 12 = .ok (.iload_n 1, 1) := by decide +kernel
theorem dX12_readOne_13 : decode cX12_readOne 13 = .ok (.baload, 1) := by decide +kernel
theorem dX12_readOne_14 : decode cX12_readOne 14 = .ok (.invokestatic 79, 3) := by decide +kernel
theorem dX12_readOne_17 : decode cX12_readOne 17 = .ok (.iconst (-1), 1) := by decide +kernel
theorem dX12_readOne_18 : decode cX12_readOne 18 = .ok (.if_icmp .ne 5, 3) := by decide +kernel
theorem dX12_readOne_21 : decode cX12_readOne 21 = .ok (.iload_n 1, 1) := by decide +kernel
theorem dX12_readOne_22 : decode cX12_readOne 22 = .ok (.ireturn, 1) := by decide +kernel
theorem dX12_readOne_23 : decode cX12_readOne 23 = .ok (.aload_n 0, 1) := by decide +kernel
theorem dX12_readOne_24 : decode cX12_readOne 24 = .ok (.iload_n 1, 1) := by decide +kernel
theorem dX12_readOne_25 : decode cX12_readOne 25 = .ok (.iconst 1, 1) := by decide +kernel
theorem dX12_readOne_26 : decode cX12_readOne 26 = .ok (.iadd, 1) := by decide +kernel
theorem dX12_readOne_27 : decode cX12_readOne 27 = .ok (.iconst 1, 1) := by decide +kernel
theorem dX12_readOne_28 : decode cX12_readOne 28 = .ok (.bipush 9, 2) := by decide +kernel
theorem dX12_readOne_30 : decode cX12_readOne 30 = .ok (.invokevirtual 83, 3) := by decide +kernel
theorem dX12_readOne_33 : decode cX12_readOne 33 = .ok (.ifCond .ne 9, 3) := by decide +kernel
theorem dX12_readOne_36 : decode cX12_readOne 36 = .ok (.iload_n 1, 1) := by decide +kernel
theorem dX12_readOne_37 : decode cX12_readOne 37 = .ok (.iconst 1, 1) := by decide +kernel
theorem dX12_readOne_38 : decode cX12_readOne 38 = .ok (.iadd, 1) := by decide +kernel
theorem dX12_readOne_39 : decode cX12_readOne 39 = .ok (.goto 24, 3) := by decide +kernel
theorem dX12_readOne_42 : decode cX12_readOne 42 = .ok (.aload_n 0, 1) := by decide +kernel
theorem dX12_readOne_43 : decode cX12_readOne 43 = .ok (.iload_n 1, 1) := by decide +kernel
theorem dX12_readOne_44 : decode cX12_readOne 44 = .ok (.iconst 2, 1) := by decide +kernel
theorem dX12_readOne_45 : decode cX12_readOne 45 = .ok (.iadd, 1) := by decide +kernel
theorem dX12_readOne_46 : decode cX12_readOne 46 = .ok (.iconst 0, 1) := by decide +kernel
theorem dX12_readOne_47 : decode cX12_readOne 47 = .ok (.iconst 3, 1) := by decide +kernel
theorem dX12_readOne_48 : decode cX12_readOne 48 = .ok (.invokevirtual 83, 3) := by decide +kernel
end
section
theorem dX12_readOne_51 : decode cX12_readOne 51 = .ok (.ifCond .ne 9, 3) := by decide +kernel
theorem dX12_readOne_54 : decode cX12_readOne 54 = .ok (.iload_n 1, 1) := by decide +kernel
theorem dX12_readOne_55 : decode cX12_readOne 55 = .ok (.iconst 2, 1) := by decide +kernel
theorem dX12_readOne_56 : decode cX12_readOne 56 = .ok (.iadd, 1) := by decide +kernel
theorem dX12_readOne_57 : decode cX12_readOne 57 = .ok (.goto 6, 3) := by decide +kernel
theorem dX12_readOne_60 : decode cX12_readOne 60 = .ok (.iload_n 1, 1) := by decide +kernel
theorem dX12_readOne_61 : decode cX12_readOne 61 = .ok (.iconst 3, 1) := by decide +kernel
theorem dX12_readOne_62 : decode cX12_readOne 62 = .ok (.iadd, 1) := by decide +kernel
theorem dX12_readOne_63 : decode cX12_readOne 63 = .ok (.ireturn, 1) := by decide +kernel
theorem dX12_readCrimes_0 : decode cX12_readCrimes 0 = .ok (.iload_n 1, 1) := by decide +kernel
theorem dX12_readCrimes_1 : decode cX12_readCrimes 1 = .ok (.istore_n 2, 1) := by decide +kernel
theorem dX12_readCrimes_2 : decode cX12_readCrimes 2 = .ok (.iload_n 2, 1) := by decide +kernel
theorem dX12_readCrimes_3 : decode cX12_readCrimes 3 = .ok (.iload_n 1, 1) := by decide +kernel
theorem dX12_readCrimes_4 : decode cX12_readCrimes 4 = .ok (.bipush 12, 2) := by decide +kernel
theorem dX12_readCrimes_6 : decode cX12_readCrimes 6 = .ok (.iadd, 1) := by decide +kernel
theorem dX12_readCrimes_7 : decode cX12_readCrimes 7 = .ok (.if_icmp .ge 46, 3) := by decide +kernel
theorem dX12_readCrimes_10 : decode cX12_readCrimes 10 = .ok (.aload_n 0, 1) := by decide +kernel
theorem dX12_readCrimes_11 : decode cX12_readCrimes 11 = .ok (.iload_n 2, 1) := by decide +kernel
theorem dX12_readCrimes_12 : decode cX12_readCrimes 12 = .ok (.iload_n 2, 1) := by decide +kernel
theorem dX12_readCrimes_13 : decode cX12_readCrimes 13 = .ok (.iload_n 1, 1) := by decide +kernel
theorem dX12_readCrimes_14 : decode cX12_readCrimes 14 = .ok (.isub, 1) := by decide +kernel
theorem dX12_readCrimes_15 : decode cX12_readCrimes 15 = .ok (.iconst 3, 1) := by decide +kernel
theorem dX12_readCrimes_16 : decode cX12_readCrimes 16 = .ok (.irem, 1) := by decide +kernel
theorem dX12_readCrimes_17 : decode cX12_readCrimes 17 = .ok (.iconst 1, 1) := by decide +kernel
theorem dX12_readCrimes_18 : decode cX12_readCrimes 18 = .ok (.if_icmp .ne 7, 3) := by decide +kernel
theorem dX12_readCrimes_21 : decode cX12_readCrimes 21 = .ok (.iconst 0, 1) := by decide +kernel
theorem dX12_readCrimes_22 : decode cX12_readCrimes 22 = .ok (.goto 4, 3) := by decide +kernel
theorem dX12_readCrimes_25 : decode cX12_readCrimes 25 = .ok (.iconst 1, 1) := by decide +kernel
theorem dX12_readCrimes_26 : decode cX12_readCrimes 26 = .ok (.iload_n 2, 1) := by decide +kernel
theorem dX12_readCrimes_27 : decode cX12_readCrimes 27 = .ok (.iload_n 1, 1) := by decide +kernel
theorem dX12_readCrimes_28 : decode cX12_readCrimes 28 = .ok (.isub, 1) := by decide +kernel
theorem dX12_readCrimes_29 : decode cX12_readCrimes 29 = .ok (.iconst 3, 1) := by decide +kernel
theorem dX12_readCrimes_30 : decode cX12_readCrimes 30 = .ok (.irem, 1) := by decide +kernel
theorem dX12_readCrimes_31 : decode cX12_readCrimes 31 = .ok (.iconst 1, 1) := by decide +kernel
theorem dX12_readCrimes_32 : decode cX12_readCrimes 32 = .ok (.if_icmp .ne 7, 3) := by decide +kernel
theorem dX12_readCrimes_35 : decode cX12_readCrimes 35 = .ok (.iconst 3, 1) := by decide +kernel
theorem dX12_readCrimes_36 : decode cX12_readCrimes 36 = .ok (.goto 5, 3) := by decide +kernel
theorem dX12_readCrimes_39 : decode cX12_readCrimes 39 = .ok (.bipush 9, 2) := by decide +kernel
theorem dX12_readCrimes_41 : decode cX12_readCrimes 41 = .ok (.invokevirtual 83, 3) := by decide +kernel
theorem dX12_readCrimes_44 : decode cX12_readCrimes 44 = .ok (.ifCond .eq 9, 3) := by decide +kernel
theorem dX12_readCrimes_47 : decode cX12_readCrimes 47 = .ok (.iinc 2 1, 3) := by decide +kernel
theorem dX12_readCrimes_50 : decode cX12_readCrimes 50 = .ok (.goto (-48), 3) := by decide +kernel
theorem dX12_readCrimes_53 : decode cX12_readCrimes 53 = .ok (.aload_n 0, 1) := by decide +kernel
theorem dX12_readCrimes_54 : decode cX12_readCrimes 54 = .ok (.iload_n 2, 1) := by decide +kernel
theorem dX12_readCrimes_55 : decode cX12_readCrimes 55 = .ok (.iload_n 1, 1) := by decide +kernel
theorem dX12_readCrimes_56 : decode cX12_readCrimes 56 = .ok (.isub, 1) := by decide +kernel
theorem dX12_readCrimes_57 : decode cX12_readCrimes 57 = .ok (.iconst 3, 1) := by decide +kernel
theorem dX12_readCrimes_58 : decode cX12_readCrimes 58 = .ok (.idiv, 1) := by decide +kernel
theorem dX12_readCrimes_59 : decode cX12_readCrimes 59 = .ok (.putfield 86, 3) := by decide +kernel
theorem dX12_readCrimes_62 : decode cX12_readCrimes 62 = .ok (.aload_n 0, 1) := by decide +kernel
theorem dX12_readCrimes_63 : decode cX12_readCrimes 63 = .ok (.iload_n 2, 1) := by decide +kernel
theorem dX12_readCrimes_64 : decode cX12_readCrimes 64 = .ok (.aload_n 0, 1) := by decide +kernel
theorem dX12_readCrimes_65 : decode cX12_readCrimes 65 = .ok (.getfield 75, 3) := by decide +kernel
theorem dX12_readCrimes_68 : decode cX12_readCrimes 68 = .ok (.if_icmp .ne 22, 3) := by decide +kernel
theorem dX12_readCrimes_71 : decode cX12_readCrimes 71 = .ok (.aload_n 0, 1) := by decide +kernel
theorem dX12_readCrimes_72 : decode cX12_readCrimes 72 = .ok (.getfield 86, 3) := by decide +kernel
theorem dX12_readCrimes_75 : decode cX12_readCrimes 75 = .ok (.ifCond .le 15, 3) := by decide +kernel
theorem dX12_readCrimes_78 : decode cX12_readCrimes 78 = .ok (.iload_n 2, 1) := by decide +kernel
theorem dX12_readCrimes_79 : decode cX12_readCrimes 79 = .ok (.iload_n 1, 1) := by decide +kernel
theorem dX12_readCrimes_80 : decode cX12_readCrimes 80 = .ok (.isub, 1) := by decide +kernel
theorem dX12_readCrimes_81 : decode cX12_readCrimes 81 = .ok (.iconst 3, 1) := by decide +kernel
theorem dX12_readCrimes_82 : decode cX12_readCrimes 82 = .ok (.irem, 1) := by decide +kernel
theorem dX12_readCrimes_83 : decode cX12_readCrimes 83 = .ok (.ifCond .ne 7, 3) := by decide +kernel
theorem dX12_readCrimes_86 : decode cX12_readCrimes 86 = .ok (.iconst 1, 1) := by decide +kernel
theorem dX12_readCrimes_87 : decode cX12_readCrimes 87 = .ok (.goto 4, 3) := by decide +kernel
theorem dX12_readCrimes_90 : decode cX12_readCrimes 90 = .ok (.iconst 0, 1) := by decide +kernel
theorem dX12_readCrimes_91 : decode cX12_readCrimes 91 = .ok (.putfield 89, 3) := by decide +kernel
theorem dX12_readCrimes_94 : decode cX12_readCrimes 94 = .ok (.iload_n 2, 1) := by decide +kernel
theorem dX12_readCrimes_95 : decode cX12_readCrimes 95 = .ok (.ireturn, 1) := by decide +kernel
theorem dX12_read_0 : decode cX12_read 0 = .ok (.aload_n 0, 1) := by decide +kernel
theorem dX12_read_1 : decode cX12_read 1 = .ok (.iconst 0, 1) := by decide +kernel
theorem dX12_read_2 : decode cX12_read 2 = .ok (.putfield 89, 3) := by decide +kernel
theorem dX12_read_5 : decode cX12_read 5 = .ok (.aload_n 0, 1) := by decide +kernel
theorem dX12_read_6 : decode cX12_read 6 = .ok (.iconst 0, 1) := by decide +kernel
theorem dX12_read_7 : decode cX12_read 7 = .ok (.putfield 93, 3) := by decide +kernel
theorem dX12_read_10 : decode cX12_read 10 = .ok (.iconst 0, 1) := by decide +kernel
theorem dX12_read_11 : decode cX12_read 11 = .ok (.istore_n 1, 1) := by decide +kernel
theorem dX12_read_12 : decode cX12_read 12 = .ok (.aload_n 0, 1) := by decide +kernel
theorem dX12_read_13 : decode cX12_read 13 = .ok (.getfield 93, 3) := by decide +kernel
theorem dX12_read_16 : decode cX12_read 16 = .ok (.iconst 4, 1) := by decide +kernel
theorem dX12_read_17 : decode cX12_read 17 = .ok (.if_icmp .ge 100, 3) := by decide +kernel
theorem dX12_read_20 : decode cX12_read 20 = .ok (.aload_n 0, 1) := by decide +kernel
theorem dX12_read_21 : decode cX12_read 21 = .ok (.iload_n 1, 1) := by decide +kernel
theorem dX12_read_22 : decode cX12_read 22 = .ok (.invokevirtual 96, 3) := by decide +kernel
theorem dX12_read_25 : decode cX12_read 25 = .ok (.istore_n 2, 1) := by decide +kernel
theorem dX12_read_26 : decode cX12_read 26 = .ok (.iload_n 2, 1) := by decide +kernel
theorem dX12_read_27 : decode cX12_read 27 = .ok (.iload_n 1, 1) := by decide +kernel
theorem dX12_read_28 : decode cX12_read 28 = .ok (.iconst 3, 1) := by decide +kernel
theorem dX12_read_29 : decode cX12_read 29 = .ok (.iadd, 1) := by decide +kernel
theorem dX12_read_30 : decode cX12_read 30 = .ok (.if_icmp .eq 5, 3) := by decide +kernel
theorem dX12_read_33 : decode cX12_read 33 = .ok (.iload_n 2, 1) := by decide +kernel
theorem dX12_read_34 : decode cX12_read 34 = .ok (.ireturn, 1) := by decide +kernel
theorem dX12_read_35 : decode cX12_read 35 = .ok (.aload_n 0, 1) := by decide +kernel
theorem dX12_read_36 : decode cX12_read 36 = .ok (.dup, 1) := by decide +kernel
theorem dX12_read_37 : decode cX12_read 37 = .ok (.getfield 93, 3) := by decide +kernel
theorem dX12_read_40 : decode cX12_read 40 = .ok (.iconst 1, 1) := by decide +kernel
theorem dX12_read_41 : decode cX12_read 41 = .ok (.iadd, 1) := by decide +kernel
theorem dX12_read_42 : decode cX12_read 42 = .ok (.putfield 93, 3) := by decide +kernel
theorem dX12_read_45 : decode cX12_read 45 = .ok (.iload_n 2, 1) := by decide +kernel
theorem dX12_read_46 : decode cX12_read 46 = .ok (.istore_n 1, 1) := by decide +kernel
theorem dX12_read_47 : decode cX12_read 47 = .ok (.iload_n 1, 1) := by decide +kernel
theorem dX12_read_48 : decode cX12_read 48 = .ok (.aload_n 0, 1) := by decide +kernel
theorem dX12_read_49 : decode cX12_read 49 = .ok (.getfield 75, 3) := by decide +kernel
theorem dX12_read_52 : decode cX12_read 52 = .ok (.if_icmp .ge 30, 3) := by decide +kernel
theorem dX12_read_55 : decode cX12_read 55 = .ok (.aload_n 0, 1) := by decide +kernel
theorem dX12_read_56 : decode cX12_read 56 = .ok (.getfield 43, 3) := by decide +kernel
theorem dX12_read_59 : decode cX12_read 59 = .ok (.iload_n 1, 1) := by decide +kernel
theorem dX12_read_60 : decode cX12_read 60 = .ok (.baload, 1) := by decide +kernel
theorem dX12_read_61 : decode cX12_read 61 = .ok (.bipush 59, 2) := by decide +kernel
theorem dX12_read_63 : decode cX12_read 63 = .ok (.if_icmp .ne 19, 3) := by decide +kernel
theorem dX12_read_66 : decode cX12_read 66 = .ok (.aload_n 0, 1) := by decide +kernel
theorem dX12_read_67 : decode cX12_read 67 = .ok (.getfield 93, 3) := by decide +kernel
theorem dX12_read_70 : decode cX12_read 70 = .ok (.iconst 1, 1) := by decide +kernel
theorem dX12_read_71 : decode cX12_read 71 = .ok (.if_icmp .le 11, 3) := by decide +kernel
theorem dX12_read_74 : decode cX12_read 74 = .ok (.aload_n 0, 1) := by decide +kernel
theorem dX12_read_75 : decode cX12_read 75 = .ok (.iload_n 1, 1) := by decide +kernel
theorem dX12_read_76 : decode cX12_read 76 = .ok (.iconst 1, 1) := by decide +kernel
theorem dX12_read_77 : decode cX12_read 77 = .ok (.iadd, 1) := by decide +kernel
theorem dX12_read_78 : decode cX12_read 78 = .ok (.invokevirtual 99, 3) := by decide +kernel
theorem dX12_read_81 : decode cX12_read 81 = .ok (.ireturn, 1) := by decide +kernel
theorem dX12_read_82 : decode cX12_read 82 = .ok (.iload_n 1, 1) := by decide +kernel
theorem dX12_read_83 : decode cX12_read 83 = .ok (.aload_n 0, 1) := by decide +kernel
theorem dX12_read_84 : decode cX12_read 84 = .ok (.getfield 75, 3) := by decide +kernel
theorem dX12_read_87 : decode cX12_read 87 = .ok (.if_icmp .eq 22, 3) := by decide +kernel
theorem dX12_read_90 : decode cX12_read 90 = .ok (.aload_n 0, 1) := by decide +kernel
theorem dX12_read_91 : decode cX12_read 91 = .ok (.getfield 93, 3) := by decide +kernel
theorem dX12_read_94 : decode cX12_read 94 = .ok (.iconst 4, 1) := by decide +kernel
theorem dX12_read_95 : decode cX12_read 95 = .ok (.if_icmp .eq 14, 3) := by decide +kernel
theorem dX12_read_98 : decode cX12_read 98 = .ok (.aload_n 0, 1) := by decide +kernel
theorem dX12_read_99 : decode cX12_read 99 = .ok (.getfield 43, 3) := by decide +kernel
theorem dX12_read_102 : decode cX12_read 102 = .ok (.iload_n 1, 1) := by decide +kernel
theorem dX12_read_103 : decode cX12_read 103 = .ok (.baload, 1) := by decide +kernel
theorem dX12_read_104 : decode cX12_read 104 = .ok (.bipush 44, 2) := by decide +kernel
theorem dX12_read_106 : decode cX12_read 106 = .ok (.if_icmp .eq 5, 3) := by decide +kernel
theorem dX12_read_109 : decode cX12_read 109 = .ok (.iload_n 1, 1) := by decide +kernel
theorem dX12_read_110 : decode cX12_read 110 = .ok (.ireturn, 1) := by decide +kernel
theorem dX12_read_111 : decode cX12_read 111 = .ok (.iinc 1 1, 3) := by decide +kernel
theorem dX12_read_114 : decode cX12_read 114 = .ok (.goto (-102), 3) := by decide +kernel
theorem dX12_read_117 : decode cX12_read 117 = .ok (.iload_n 1, 1) := by decide +kernel
theorem dX12_read_118 : decode cX12_read 118 = .ok (.ireturn, 1) := by decide +kernel
theorem dX12_fault_0 : decode cX12_fault 0 = .ok (.aload_n 0, 1) := by decide +kernel
theorem dX12_fault_1 : decode cX12_fault 1 = .ok (.invokevirtual 102, 3) := by decide +kernel
theorem dX12_fault_4 : decode cX12_fault 4 = .ok (.ireturn, 1) := by decide +kernel
theorem dX12_station_0 : decode cX12_station 0 = .ok (.aload_n 0, 1) := by decide +kernel
theorem dX12_station_1 : decode cX12_station 1 = .ok (.invokevirtual 102, 3) := by decide +kernel
theorem dX12_station_4 : decode cX12_station 4 = .ok (.istore_n 1, 1) := by decide +kernel
theorem dX12_station_5 : decode cX12_station 5 = .ok (.aload_n 0, 1) := by decide +kernel
theorem dX12_station_6 : decode cX12_station 6 = .ok (.getfield 89, 3) := by decide +kernel
theorem dX12_station_9 : decode cX12_station 9 = .ok (.ifCond .ne 6, 3) := by decide +kernel
theorem dX12_station_12 : decode cX12_station 12 = .ok (.bipush (-103), 2) := by decide +kernel
theorem dX12_station_14 : decode cX12_station 14 = .ok (.ireturn, 1) := by decide +kernel
theorem dX12_station_15 : decode cX12_station 15 = .ok (.aload_n 0, 1) := by decide +kernel
theorem dX12_station_16 : decode cX12_station 16 = .ok (.aload_n 0, 1) := by decide +kernel
theorem dX12_station_17 : decode cX12_station 17 = .ok (.getfield 93, 3) := by decide +kernel
theorem dX12_station_20 : decode cX12_station 20 = .ok (.putfield 106, 3) := by decide +kernel
theorem dX12_station_23 : decode cX12_station 23 = .ok (.aload_n 0, 1) := by decide +kernel
theorem dX12_station_24 : decode cX12_station 24 = .ok (.aload_n 0, 1) := by decide +kernel
theorem dX12_station_25 : decode cX12_station 25 = .ok (.getfield 86, 3) := by decide +kernel
theorem dX12_station_28 : decode cX12_station 28 = .ok (.putfield 109, 3) := by decide +kernel
theorem dX12_station_31 : decode cX12_station 31 = .ok (.iconst 0, 1) := by decide +kernel
theorem dX12_station_32 : decode cX12_station 32 = .ok (.istore_n 2, 1) := by decide +kernel
theorem dX12_station_33 : decode cX12_station 33 = .ok (.iload_n 2, 1) := by decide +kernel
theorem dX12_station_34 : decode cX12_station 34 = .ok (.aload_n 0, 1) := by decide +kernel
theorem dX12_station_35 : decode cX12_station 35 = .ok (.getfield 106, 3) := by decide +kernel
theorem dX12_station_38 : decode cX12_station 38 = .ok (.if_icmp .ge 71, 3) := by decide +kernel
theorem dX12_station_41 : decode cX12_station 41 = .ok (.aload_n 0, 1) := by decide +kernel
theorem dX12_station_42 : decode cX12_station 42 = .ok (.getfield 7, 3) := by decide +kernel
theorem dX12_station_45 : decode cX12_station 45 = .ok (.iload_n 2, 1) := by decide +kernel
theorem dX12_station_46 : decode cX12_station 46 = .ok (.aload_n 0, 1) := by decide +kernel
theorem dX12_station_47 : decode cX12_station 47 = .ok (.getfield 43, 3) := by decide +kernel
theorem dX12_station_50 : decode cX12_station 50 = .ok (.iconst 4, 1) := by decide +kernel
theorem dX12_station_51 : decode cX12_station 51 = .ok (.iload_n 2, 1) := by decide +kernel
theorem dX12_station_52 : decode cX12_station 52 = .ok (.imul, 1) := by decide +kernel
theorem dX12_station_53 : decode cX12_station 53 = .ok (.baload, 1) := by decide +kernel
theorem dX12_station_54 : decode cX12_station 54 = .ok (.invokestatic 79, 3) := by decide +kernel
theorem dX12_station_57 : decode cX12_station 57 = .ok (.iastore, 1) := by decide +kernel
theorem dX12_station_58 : decode cX12_station 58 = .ok (.aload_n 0, 1) := by decide +kernel
theorem dX12_station_59 : decode cX12_station 59 = .ok (.getfield 13, 3) := by decide +kernel
theorem dX12_station_62 : decode cX12_station 62 = .ok (.iload_n 2, 1) := by decide +kernel
theorem dX12_station_63 : decode cX12_station 63 = .ok (.aload_n 0, 1) := by decide +kernel
theorem dX12_station_64 : decode cX12_station 64 = .ok (.getfield 43, 3) := by decide +kernel
theorem dX12_station_67 : decode cX12_station 67 = .ok (.iconst 4, 1) := by decide +kernel
theorem dX12_station_68 : decode cX12_station 68 = .ok (.iload_n 2, 1) := by decide +kernel
theorem dX12_station_69 : decode cX12_station 69 = .ok (.imul, 1) := by decide +kernel
theorem dX12_station_70 : decode cX12_station 70 = .ok (.iconst 1, 1) := by decide +kernel
theorem dX12_station_71 : decode cX12_station 71 = .ok (.iadd, 1) := by decide +kernel
theorem dX12_station_72 : decode cX12_station 72 = .ok (.baload, 1) := by decide +kernel
theorem dX12_station_73 : decode cX12_station 73 = .ok (.bipush 48, 2) := by decide +kernel
theorem dX12_station_75 : decode cX12_station 75 = .ok (.isub, 1) := by decide +kernel
theorem dX12_station_76 : decode cX12_station 76 = .ok (.iastore, 1) := by decide +kernel
theorem dX12_station_77 : decode cX12_station 77 = .ok (.aload_n 0, 1) := by decide +kernel
theorem dX12_station_78 : decode cX12_station 78 = .ok (.getfield 16, 3) := by decide +kernel
theorem dX12_station_81 : decode cX12_station 81 = .ok (.iload_n 2, 1) := by decide +kernel
theorem dX12_station_82 : decode cX12_station 82 = .ok (.aload_n 0, 1) := by decide +kernel
theorem dX12_station_83 : decode cX12_station 83 = .ok (.getfield 43, 3) := by decide +kernel
theorem dX12_station_86 : decode cX12_station 86 = .ok (.iconst 4, 1) := by decide +kernel
theorem dX12_station_87 : decode cX12_station 87 = .ok (.iload_n 2, 1) := by decide +kernel
theorem dX12_station_88 : decode cX12_station 88 = .ok (.imul, 1) := by decide +kernel
theorem dX12_station_89 : decode cX12_station 89 = .ok (.iconst 2, 1) := by decide +kernel
theorem dX12_station_90 : decode cX12_station 90 = .ok (.iadd, 1) := by decide +kernel
theorem dX12_station_91 : decode cX12_station 91 = .ok (.baload, 1) := by decide +kernel
theorem dX12_station_92 : decode cX12_station 92 = .ok (.bipush 48, 2) := by decide +kernel
theorem dX12_station_94 : decode cX12_station 94 = .ok (.isub, 1) := by decide +kernel
theorem dX12_station_95 : decode cX12_station 95 = .ok (.iastore, 1) := by decide +kernel
theorem dX12_station_96 : decode cX12_station 96 = .ok (.aload_n 0, 1) := by decide +kernel
theorem dX12_station_97 : decode cX12_station 97 = .ok (.getfield 28, 3) := by decide +kernel
theorem dX12_station_100 : decode cX12_station 100 = .ok (.iload_n 2, 1) := by decide +kernel
theorem dX12_station_101 : decode cX12_station 101 = .ok (.iconst (-1), 1) := by decide +kernel
theorem dX12_station_102 : decode cX12_station 102 = .ok (.iastore, 1) := by decide +kernel
theorem dX12_station_103 : decode cX12_station 103 = .ok (.iinc 2 1, 3) := by decide +kernel
theorem dX12_station_106 : decode cX12_station 106 = .ok (.goto (-73), 3) := by decide +kernel
theorem dX12_station_109 : decode cX12_station 109 = .ok (.iconst 0, 1) := by decide +kernel
theorem dX12_station_110 : decode cX12_station 110 = .ok (.istore_n 2, 1) := by decide +kernel
theorem dX12_station_111 : decode cX12_station 111 = .ok (.iload_n 2, 1) := by decide +kernel
theorem dX12_station_112 : decode cX12_station 112 = .ok (.aload_n 0, 1) := by decide +kernel
theorem dX12_station_113 : decode cX12_station 113 = .ok (.getfield 109, 3) := by decide +kernel
theorem dX12_station_116 : decode cX12_station 116 = .ok (.if_icmp .ge 69, 3) := by decide +kernel
theorem dX12_station_119 : decode cX12_station 119 = .ok (.iload_n 1, 1) := by decide +kernel
theorem dX12_station_120 : decode cX12_station 120 = .ok (.iconst 3, 1) := by decide +kernel
theorem dX12_station_121 : decode cX12_station 121 = .ok (.aload_n 0, 1) := by decide +kernel
theorem dX12_station_122 : decode cX12_station 122 = .ok (.getfield 109, 3) := by decide +kernel
theorem dX12_station_125 : decode cX12_station 125 = .ok (.iload_n 2, 1) := by decide +kernel
theorem dX12_station_126 : decode cX12_station 126 = .ok (.isub, 1) := by decide +kernel
theorem dX12_station_127 : decode cX12_station 127 = .ok (.imul, 1) := by decide +kernel
theorem dX12_station_128 : decode cX12_station 128 = .ok (.isub, 1) := by decide +kernel
theorem dX12_station_129 : decode cX12_station 129 = .ok (.istore_n 3, 1) := by decide +kernel
theorem dX12_station_130 : decode cX12_station 130 = .ok (.aload_n 0, 1) := by decide +kernel
theorem dX12_station_131 : decode cX12_station 131 = .ok (.getfield 19, 3) := by decide +kernel
theorem dX12_station_134 : decode cX12_station 134 = .ok (.iload_n 2, 1) := by decide +kernel
theorem dX12_station_135 : decode cX12_station 135 = .ok (.aload_n 0, 1) := by decide +kernel
theorem dX12_station_136 : decode cX12_station 136 = .ok (.getfield 43, 3) := by decide +kernel
theorem dX12_station_139 : decode cX12_station 139 = .ok (.iload_n 3, 1) := by decide +kernel
theorem dX12_station_140 : decode cX12_station 140 = .ok (.baload, 1) := by decide +kernel
theorem dX12_station_141 : decode cX12_station 141 = .ok (.bipush 48, 2) := by decide +kernel
theorem dX12_station_143 : decode cX12_station 143 = .ok (.isub, 1) := by decide +kernel
theorem dX12_station_144 : decode cX12_station 144 = .ok (.iastore, 1) := by decide +kernel
theorem dX12_station_145 : decode cX12_station 145 = .ok (.aload_n 0, 1) := by decide +kernel
theorem dX12_station_146 : decode cX12_station 146 = .ok (.getfield 22, 3) := by decide +kernel
theorem dX12_station_149 : decode cX12_station 149 = .ok (.iload_n 2, 1) := by decide +kernel
theorem dX12_station_150 : decode cX12_station 150 = .ok (.aload_n 0, 1) := by decide +kernel
theorem dX12_station_151 : decode cX12_station 151 = .ok (.getfield 43, 3) := by decide +kernel
theorem dX12_station_154 : decode cX12_station 154 = .ok (.iload_n 3, 1) := by decide +kernel
theorem dX12_station_155 : decode cX12_station 155 = .ok (.iconst 1, 1) := by decide +kernel
theorem dX12_station_156 : decode cX12_station 156 = .ok (.iadd, 1) := by decide +kernel
theorem dX12_station_157 : decode cX12_station 157 = .ok (.baload, 1) := by decide +kernel
theorem dX12_station_158 : decode cX12_station 158 = .ok (.bipush 48, 2) := by decide +kernel
theorem dX12_station_160 : decode cX12_station 160 = .ok (.isub, 1) := by decide +kernel
theorem dX12_station_161 : decode cX12_station 161 = .ok (.iastore, 1) := by decide +kernel
theorem dX12_station_162 : decode cX12_station 162 = .ok (.aload_n 0, 1) := by decide +kernel
theorem dX12_station_163 : decode cX12_station 163 = .ok (.getfield 25, 3) := by decide +kernel
theorem dX12_station_166 : decode cX12_station 166 = .ok (.iload_n 2, 1) := by decide +kernel
theorem dX12_station_167 : decode cX12_station 167 = .ok (.aload_n 0, 1) := by decide +kernel
theorem dX12_station_168 : decode cX12_station 168 = .ok (.getfield 43, 3) := by decide +kernel
theorem dX12_station_171 : decode cX12_station 171 = .ok (.iload_n 3, 1) := by decide +kernel
theorem dX12_station_172 : decode cX12_station 172 = .ok (.iconst 2, 1) := by decide +kernel
theorem dX12_station_173 : decode cX12_station 173 = .ok (.iadd, 1) := by decide +kernel
theorem dX12_station_174 : decode cX12_station 174 = .ok (.baload, 1) := by decide +kernel
theorem dX12_station_175 : decode cX12_station 175 = .ok (.bipush 48, 2) := by decide +kernel
theorem dX12_station_177 : decode cX12_station 177 = .ok (.isub, 1) := by decide +kernel
theorem dX12_station_178 : decode cX12_station 178 = .ok (.iastore, 1) := by decide +kernel
theorem dX12_station_179 : decode cX12_station 179 = .ok (.iinc 2 1, 3) := by decide +kernel
theorem dX12_station_182 : decode cX12_station 182 = .ok (.goto (-71), 3) := by decide +kernel
theorem dX12_station_185 : decode cX12_station 185 = .ok (.aload_n 0, 1) := by decide +kernel
theorem dX12_station_186 : decode cX12_station 186 = .ok (.dup, 1) := by decide +kernel
theorem dX12_station_187 : decode cX12_station 187 = .ok (.getfield 112, 3) := by decide +kernel
theorem dX12_station_190 : decode cX12_station 190 = .ok (.iconst 1, 1) := by decide +kernel
theorem dX12_station_191 : decode cX12_station 191 = .ok (.iadd, 1) := by decide +kernel
theorem dX12_station_192 : decode cX12_station 192 = .ok (.putfield 112, 3) := by decide +kernel
theorem dX12_station_195 : decode cX12_station 195 = .ok (.aload_n 0, 1) := by decide +kernel
theorem dX12_station_196 : decode cX12_station 196 = .ok (.iconst 0, 1) := by decide +kernel
theorem dX12_station_197 : decode cX12_station 197 = .ok (.putfield 115, 3) := by decide +kernel
theorem dX12_station_200 : decode cX12_station 200 = .ok (.aload_n 0, 1) := by decide +kernel
theorem dX12_station_201 : decode cX12_station 201 = .ok (.iconst 0, 1) := by decide +kernel
theorem dX12_station_202 : decode cX12_station 202 = .ok (.putfield 118, 3) := by decide +kernel
theorem dX12_station_205 : decode cX12_station 205 = .ok (.aload_n 0, 1) := by decide +kernel
theorem dX12_station_206 : decode cX12_station 206 = .ok (.iconst 0, 1) := by decide +kernel
theorem dX12_station_207 : decode cX12_station 207 = .ok (.putfield 121, 3) := by decide +kernel
theorem dX12_station_210 : decode cX12_station 210 = .ok (.aload_n 0, 1) := by decide +kernel
theorem dX12_station_211 : decode cX12_station 211 = .ok (.iconst 0, 1) := by decide +kernel
theorem dX12_station_212 : decode cX12_station 212 = .ok (.putfield 75, 3) := by decide +kernel
theorem dX12_station_215 : decode cX12_station 215 = .ok (.aload_n 0, 1) := by decide +kernel
theorem dX12_station_216 : decode cX12_station 216 = .ok (.getfield 109, 3) := by decide +kernel
theorem dX12_station_219 : decode cX12_station 219 = .ok (.ireturn, 1) := by decide +kernel
theorem dX12_isOne_0 : decode cX12_isOne 0 = .ok (.iload_n 1, 1) := by decide +kernel
theorem dX12_isOne_1 : decode cX12_isOne 1 = .ok (.iconst 0, 1) := by decide +kernel
theorem dX12_isOne_2 : decode cX12_isOne 2 = .ok (.aload_n 0, 1) := by decide +kernel
theorem dX12_isOne_3 : decode cX12_isOne 3 = .ok (.getfield 106, 3) := by decide +kernel
theorem dX12_isOne_6 : decode cX12_isOne 6 = .ok (.iconst 1, 1) := by decide +kernel
theorem dX12_isOne_7 : decode cX12_isOne 7 = .ok (.isub, 1) := by decide +kernel
theorem dX12_isOne_8 : decode cX12_isOne 8 = .ok (.invokestatic 71, 3) := by decide +kernel
theorem dX12_isOne_11 : decode cX12_isOne 11 = .ok (.ireturn, 1) := by decide +kernel
theorem dX12_isCrime_0 : decode cX12_isCrime 0 = .ok (.iload_n 1, 1) := by decide +kernel
theorem dX12_isCrime_1 : decode cX12_isCrime 1 = .ok (.iconst 0, 1) := by decide +kernel
theorem dX12_isCrime_2 : decode cX12_isCrime 2 = .ok (.aload_n 0, 1) := by decide +kernel
theorem dX12_isCrime_3 : decode cX12_isCrime 3 = .ok (.getfield 109, 3) := by decide +kernel
theorem dX12_isCrime_6 : decode cX12_isCrime 6 = .ok (.iconst 1, 1) := by decide +kernel
theorem dX12_isCrime_7 : decode cX12_isCrime 7 = .ok (.isub, 1) := by decide +kernel
theorem dX12_isCrime_8 : decode cX12_isCrime 8 = .ok (.invokestatic 71, 3) := by decide +kernel
theorem dX12_isCrime_11 : decode cX12_isCrime 11 = .ok (.ireturn, 1) := by decide +kernel
theorem dX12_bears_0 : decode cX12_bears 0 = .ok (.aload_n 0, 1) := by decide +kernel
theorem dX12_bears_1 : decode cX12_bears 1 = .ok (.getfield 7, 3) := by decide +kernel
theorem dX12_bears_4 : decode cX12_bears 4 = .ok (.iload_n 1, 1) := by decide +kernel
theorem dX12_bears_5 : decode cX12_bears 5 = .ok (.iaload, 1) := by decide +kernel
theorem dX12_bears_6 : decode cX12_bears 6 = .ok (.tableswitch 34 1 4 #[30, 32, 34, 30], 30) := by decide +kernel
theorem dX12_bears_36 : decode cX12_bears 36 = .ok (.iconst 2, 1) := by decide +kernel
theorem dX12_bears_37 : decode cX12_bears 37 = .ok (.ireturn, 1) := by decide +kernel
theorem dX12_bears_38 : decode cX12_bears 38 = .ok (.iconst 0, 1) := by decide +kernel
theorem dX12_bears_39 : decode cX12_bears 39 = .ok (.ireturn, 1) := by decide +kernel
theorem dX12_bears_40 : decode cX12_bears 40 = .ok (.iconst 1, 1) := by decide +kernel
theorem dX12_bears_41 : decode cX12_bears 41 = .ok (.ireturn, 1) := by decide +kernel
theorem dX12_counts_0 : decode cX12_counts 0 = .ok (.aload_n 0, 1) := by decide +kernel
theorem dX12_counts_1 : decode cX12_counts 1 = .ok (.getfield 7, 3) := by decide +kernel
theorem dX12_counts_4 : decode cX12_counts 4 = .ok (.iload_n 1, 1) := by decide +kernel
theorem dX12_counts_5 : decode cX12_counts 5 = .ok (.iaload, 1) := by decide +kernel
theorem dX12_counts_6 : decode cX12_counts 6 = .ok (.iconst 3, 1) := by decide +kernel
theorem dX12_counts_7 : decode cX12_counts 7 = .ok (.if_icmp .ne 9, 3) := by decide +kernel
theorem dX12_counts_10 : decode cX12_counts 10 = .ok (.iload_n 2, 1) := by decide +kernel
theorem dX12_counts_11 : decode cX12_counts 11 = .ok (.iconst 1, 1) := by decide +kernel
theorem dX12_counts_12 : decode cX12_counts 12 = .ok (.iadd, 1) := by decide +kernel
theorem dX12_counts_13 : decode cX12_counts 13 = .ok (.goto 4, 3) := by decide +kernel
theorem dX12_counts_16 : decode cX12_counts 16 = .ok (.iload_n 2, 1) := by decide +kernel
theorem dX12_counts_17 : decode cX12_counts 17 = .ok (.ireturn, 1) := by decide +kernel
theorem dX12_isHand_0 : decode cX12_isHand 0 = .ok (.aload_n 0, 1) := by decide +kernel
theorem dX12_isHand_1 : decode cX12_isHand 1 = .ok (.getfield 7, 3) := by decide +kernel
theorem dX12_isHand_4 : decode cX12_isHand 4 = .ok (.iload_n 1, 1) := by decide +kernel
theorem dX12_isHand_5 : decode cX12_isHand 5 = .ok (.iaload, 1) := by decide +kernel
theorem dX12_isHand_6 : decode cX12_isHand 6 = .ok (.iconst 4, 1) := by decide +kernel
theorem dX12_isHand_7 : decode cX12_isHand 7 = .ok (.if_icmp .eq 13, 3) := by decide +kernel
theorem dX12_isHand_10 : decode cX12_isHand 10 = .ok (.aload_n 0, 1) := by decide +kernel
theorem dX12_isHand_11 : decode cX12_isHand 11 = .ok (.getfield 16, 3) := by decide +kernel
theorem dX12_isHand_14 : decode cX12_isHand 14 = .ok (.iload_n 1, 1) := by decide +kernel
theorem dX12_isHand_15 : decode cX12_isHand 15 = .ok (.iaload, 1) := by decide +kernel
theorem dX12_isHand_16 : decode cX12_isHand 16 = .ok (.iload_n 2, 1) := by decide +kernel
theorem dX12_isHand_17 : decode cX12_isHand 17 = .ok (.if_icmp .ne 7, 3) := by decide +kernel
theorem dX12_isHand_20 : decode cX12_isHand 20 = .ok (.iconst 1, 1) := by decide +kernel
theorem dX12_isHand_21 : decode cX12_isHand 21 = .ok (.goto 4, 3) := by decide +kernel
theorem dX12_isHand_24 : decode cX12_isHand 24 = .ok (.iconst 0, 1) := by decide +kernel
theorem dX12_isHand_25 : decode cX12_isHand 25 = .ok (.ireturn, 1) := by decide +kernel
theorem dX12_fitsBy_0 : decode cX12_fitsBy 0 = .ok (.iload_n 3, 1) := by decide +kernel
theorem dX12_fitsBy_1 : decode cX12_fitsBy 1 = .ok (.aload_n 0, 1) := by decide +kernel
theorem dX12_fitsBy_2 : decode cX12_fitsBy 2 = .ok (.iload_n 1, 1) := by decide +kernel
theorem dX12_fitsBy_3 : decode cX12_fitsBy 3 = .ok (.iload_n 2, 1) := by decide +kernel
theorem dX12_fitsBy_4 : decode cX12_fitsBy 4 = .ok (.invokevirtual 124, 3) := by decide +kernel
theorem dX12_fitsBy_7 : decode cX12_fitsBy 7 = .ok (.isub, 1) := by decide +kernel
theorem dX12_fitsBy_8 : decode cX12_fitsBy 8 = .ok (.istore 5, 2) := by decide +kernel
theorem dX12_fitsBy_10 : decode cX12_fitsBy 10 = .ok (.aload_n 0, 1) := by decide +kernel
theorem dX12_fitsBy_11 : decode cX12_fitsBy 11 = .ok (.iload_n 1, 1) := by decide +kernel
theorem dX12_fitsBy_12 : decode cX12_fitsBy 12 = .ok (.iload 4, 2) := by decide +kernel
theorem dX12_fitsBy_14 : decode cX12_fitsBy 14 = .ok (.invokevirtual 128, 3) := by decide +kernel
theorem dX12_fitsBy_17 : decode cX12_fitsBy 17 = .ok (.ifCond .eq 26, 3) := by decide +kernel
theorem dX12_fitsBy_20 : decode cX12_fitsBy 20 = .ok (.iload 5, 2) := by decide +kernel
theorem dX12_fitsBy_22 : decode cX12_fitsBy 22 = .ok (.aload_n 0, 1) := by decide +kernel
theorem dX12_fitsBy_23 : decode cX12_fitsBy 23 = .ok (.iload_n 1, 1) := by decide +kernel
theorem dX12_fitsBy_24 : decode cX12_fitsBy 24 = .ok (.invokevirtual 132, 3) := by decide +kernel
theorem dX12_fitsBy_27 : decode cX12_fitsBy 27 = .ok (.ineg, 1) := by decide +kernel
theorem dX12_fitsBy_28 : decode cX12_fitsBy 28 = .ok (.aload_n 0, 1) := by decide +kernel
theorem dX12_fitsBy_29 : decode cX12_fitsBy 29 = .ok (.iload_n 1, 1) := by decide +kernel
theorem dX12_fitsBy_30 : decode cX12_fitsBy 30 = .ok (.invokevirtual 132, 3) := by decide +kernel
theorem dX12_fitsBy_33 : decode cX12_fitsBy 33 = .ok (.invokestatic 71, 3) := by decide +kernel
theorem dX12_fitsBy_36 : decode cX12_fitsBy 36 = .ok (.ifCond .eq 7, 3) := by decide +kernel
theorem dX12_fitsBy_39 : decode cX12_fitsBy 39 = .ok (.iconst 1, 1) := by decide +kernel
theorem dX12_fitsBy_40 : decode cX12_fitsBy 40 = .ok (.goto 4, 3) := by decide +kernel
theorem dX12_fitsBy_43 : decode cX12_fitsBy 43 = .ok (.iconst 0, 1) := by decide +kernel
theorem dX12_fitsBy_44 : decode cX12_fitsBy 44 = .ok (.ireturn, 1) := by decide +kernel
theorem dX12_fits_0 : decode cX12_fits 0 = .ok (.aload_n 0, 1) := by decide +kernel
theorem dX12_fits_1 : decode cX12_fits 1 = .ok (.iload_n 1, 1) := by decide +kernel
theorem dX12_fits_2 : decode cX12_fits 2 = .ok (.aload_n 0, 1) := by decide +kernel
theorem dX12_fits_3 : decode cX12_fits 3 = .ok (.getfield 13, 3) := by decide +kernel
theorem dX12_fits_6 : decode cX12_fits 6 = .ok (.iload_n 1, 1) := by decide +kernel
theorem dX12_fits_7 : decode cX12_fits 7 = .ok (.iaload, 1) := by decide +kernel
theorem dX12_fits_8 : decode cX12_fits 8 = .ok (.aload_n 0, 1) := by decide +kernel
theorem dX12_fits_9 : decode cX12_fits 9 = .ok (.getfield 19, 3) := by decide +kernel
theorem dX12_fits_12 : decode cX12_fits 12 = .ok (.iload_n 2, 1) := by decide +kernel
theorem dX12_fits_13 : decode cX12_fits 13 = .ok (.iaload, 1) := by decide +kernel
theorem dX12_fits_14 : decode cX12_fits 14 = .ok (.aload_n 0, 1) := by decide +kernel
theorem dX12_fits_15 : decode cX12_fits 15 = .ok (.getfield 22, 3) := by decide +kernel
theorem dX12_fits_18 : decode cX12_fits 18 = .ok (.iload_n 2, 1) := by decide +kernel
theorem dX12_fits_19 : decode cX12_fits 19 = .ok (.iaload, 1) := by decide +kernel
theorem dX12_fits_20 : decode cX12_fits 20 = .ok (.invokevirtual 135, 3) := by decide +kernel
theorem dX12_fits_23 : decode cX12_fits 23 = .ok (.ireturn, 1) := by decide +kernel
theorem dX12_fitting_0 : decode cX12_fitting 0 = .ok (.iconst 0, 1) := by decide +kernel
theorem dX12_fitting_1 : decode cX12_fitting 1 = .ok (.istore_n 2, 1) := by decide +kernel
theorem dX12_fitting_2 : decode cX12_fitting 2 = .ok (.iconst 0, 1) := by decide +kernel
theorem dX12_fitting_3 : decode cX12_fitting 3 = .ok (.istore_n 3, 1) := by decide +kernel
theorem dX12_fitting_4 : decode cX12_fitting 4 = .ok (.iload_n 3, 1) := by decide +kernel
theorem dX12_fitting_5 : decode cX12_fitting 5 = .ok (.aload_n 0, 1) := by decide +kernel
theorem dX12_fitting_6 : decode cX12_fitting 6 = .ok (.getfield 109, 3) := by decide +kernel
theorem dX12_fitting_9 : decode cX12_fitting 9 = .ok (.if_icmp .ge 28, 3) := by decide +kernel
theorem dX12_fitting_12 : decode cX12_fitting 12 = .ok (.iload_n 2, 1) := by decide +kernel
theorem dX12_fitting_13 : decode cX12_fitting 13 = .ok (.aload_n 0, 1) := by decide +kernel
theorem dX12_fitting_14 : decode cX12_fitting 14 = .ok (.iload_n 1, 1) := by decide +kernel
theorem dX12_fitting_15 : decode cX12_fitting 15 = .ok (.iload_n 3, 1) := by decide +kernel
theorem dX12_fitting_16 : decode cX12_fitting 16 = .ok (.invokevirtual 139, 3) := by decide +kernel
theorem dX12_fitting_19 : decode cX12_fitting 19 = .ok (.ifCond .eq 9, 3) := by decide +kernel
theorem dX12_fitting_22 : decode cX12_fitting 22 = .ok (.iconst 1, 1) := by decide +kernel
theorem dX12_fitting_23 : decode cX12_fitting 23 = .ok (.iload_n 3, 1) := by decide +kernel
theorem dX12_fitting_24 : decode cX12_fitting 24 = .ok (.ishl, 1) := by decide +kernel
theorem dX12_fitting_25 : decode cX12_fitting 25 = .ok (.goto 4, 3) := by decide +kernel
theorem dX12_fitting_28 : decode cX12_fitting 28 = .ok (.iconst 0, 1) := by decide +kernel
theorem dX12_fitting_29 : decode cX12_fitting 29 = .ok (.ior, 1) := by decide +kernel
theorem dX12_fitting_30 : decode cX12_fitting 30 = .ok (.istore_n 2, 1) := by decide +kernel
theorem dX12_fitting_31 : decode cX12_fitting 31 = .ok (.iinc 3 1, 3) := by decide +kernel
theorem dX12_fitting_34 : decode cX12_fitting 34 = .ok (.goto (-30), 3) := by decide +kernel
theorem dX12_fitting_37 : decode cX12_fitting 37 = .ok (.iload_n 2, 1) := by decide +kernel
theorem dX12_fitting_38 : decode cX12_fitting 38 = .ok (.ireturn, 1) := by decide +kernel
theorem dX12_fitted_0 : decode cX12_fitted 0 = .ok (.iconst 0, 1) := by decide +kernel
theorem dX12_fitted_1 : decode cX12_fitted 1 = .ok (.istore_n 2, 1) := by decide +kernel
theorem dX12_fitted_2 : decode cX12_fitted 2 = .ok (.iconst 0, 1) := by decide +kernel
theorem dX12_fitted_3 : decode cX12_fitted 3 = .ok (.istore_n 3, 1) := by decide +kernel
theorem dX12_fitted_4 : decode cX12_fitted 4 = .ok (.iload_n 3, 1) := by decide +kernel
theorem dX12_fitted_5 : decode cX12_fitted 5 = .ok (.aload_n 0, 1) := by decide +kernel
theorem dX12_fitted_6 : decode cX12_fitted 6 = .ok (.getfield 106, 3) := by decide +kernel
theorem dX12_fitted_9 : decode cX12_fitted 9 = .ok (.if_icmp .ge 28, 3) := by decide +kernel
theorem dX12_fitted_12 : decode cX12_fitted 12 = .ok (.iload_n 2, 1) := by decide +kernel
theorem dX12_fitted_13 : decode cX12_fitted 13 = .ok (.aload_n 0, 1) := by decide +kernel
theorem dX12_fitted_14 : decode cX12_fitted 14 = .ok (.iload_n 3, 1) := by decide +kernel
theorem dX12_fitted_15 : decode cX12_fitted 15 = .ok (.iload_n 1, 1) := by decide +kernel
theorem dX12_fitted_16 : decode cX12_fitted 16 = .ok (.invokevirtual 139, 3) := by decide +kernel
theorem dX12_fitted_19 : decode cX12_fitted 19 = .ok (.ifCond .eq 9, 3) := by decide +kernel
theorem dX12_fitted_22 : decode cX12_fitted 22 = .ok (.iconst 1, 1) := by decide +kernel
theorem dX12_fitted_23 : decode cX12_fitted 23 = .ok (.iload_n 3, 1) := by decide +kernel
theorem dX12_fitted_24 : decode cX12_fitted 24 = .ok (.ishl, 1) := by decide +kernel
theorem dX12_fitted_25 : decode cX12_fitted 25 = .ok (.goto 4, 3) := by decide +kernel
theorem dX12_fitted_28 : decode cX12_fitted 28 = .ok (.iconst 0, 1) := by decide +kernel
theorem dX12_fitted_29 : decode cX12_fitted 29 = .ok (.ior, 1) := by decide +kernel
theorem dX12_fitted_30 : decode cX12_fitted 30 = .ok (.istore_n 2, 1) := by decide +kernel
theorem dX12_fitted_31 : decode cX12_fitted 31 = .ok (.iinc 3 1, 3) := by decide +kernel
theorem dX12_fitted_34 : decode cX12_fitted 34 = .ok (.goto (-30), 3) := by decide +kernel
theorem dX12_fitted_37 : decode cX12_fitted 37 = .ok (.iload_n 2, 1) := by decide +kernel
theorem dX12_fitted_38 : decode cX12_fitted 38 = .ok (.ireturn, 1) := by decide +kernel
theorem dX12_hangsOn_0 : decode cX12_hangsOn 0 = .ok (.iconst (-1), 1) := by decide +kernel
theorem dX12_hangsOn_1 : decode cX12_hangsOn 1 = .ok (.istore_n 2, 1) := by decide +kernel
theorem dX12_hangsOn_2 : decode cX12_hangsOn 2 = .ok (.iconst 0, 1) := by decide +kernel
theorem dX12_hangsOn_3 : decode cX12_hangsOn 3 = .ok (.istore_n 3, 1) := by decide +kernel
theorem dX12_hangsOn_4 : decode cX12_hangsOn 4 = .ok (.iload_n 3, 1) := by decide +kernel
theorem dX12_hangsOn_5 : decode cX12_hangsOn 5 = .ok (.aload_n 0, 1) := by decide +kernel
theorem dX12_hangsOn_6 : decode cX12_hangsOn 6 = .ok (.getfield 106, 3) := by decide +kernel
theorem dX12_hangsOn_9 : decode cX12_hangsOn 9 = .ok (.if_icmp .ge 25, 3) := by decide +kernel
theorem dX12_hangsOn_12 : decode cX12_hangsOn 12 = .ok (.aload_n 0, 1) := by decide +kernel
theorem dX12_hangsOn_13 : decode cX12_hangsOn 13 = .ok (.getfield 28, 3) := by decide +kernel
theorem dX12_hangsOn_16 : decode cX12_hangsOn 16 = .ok (.iload_n 3, 1) := by decide +kernel
theorem dX12_hangsOn_17 : decode cX12_hangsOn 17 = .ok (.iaload, 1) := by decide +kernel
theorem dX12_hangsOn_18 : decode cX12_hangsOn 18 = .ok (.iload_n 1, 1) := by decide +kernel
theorem dX12_hangsOn_19 : decode cX12_hangsOn 19 = .ok (.if_icmp .ne 7, 3) := by decide +kernel
theorem dX12_hangsOn_22 : decode cX12_hangsOn 22 = .ok (.iload_n 3, 1) := by decide +kernel
theorem dX12_hangsOn_23 : decode cX12_hangsOn 23 = .ok (.goto 4, 3) := by decide +kernel
theorem dX12_hangsOn_26 : decode cX12_hangsOn 26 = .ok (.iload_n 2, 1) := by decide +kernel
theorem dX12_hangsOn_27 : decode cX12_hangsOn 27 = .ok (.istore_n 2, 1) := by decide +kernel
theorem dX12_hangsOn_28 : decode cX12_hangsOn 28 = .ok (.iinc 3 1, 3) := by decide +kernel
theorem dX12_hangsOn_31 : decode cX12_hangsOn 31 = .ok (.goto (-27), 3) := by decide +kernel
theorem dX12_hangsOn_34 : decode cX12_hangsOn 34 = .ok (.iload_n 2, 1) := by decide +kernel
theorem dX12_hangsOn_35 : decode cX12_hangsOn 35 = .ok (.ireturn, 1) := by decide +kernel
theorem dX12_paid_0 : decode cX12_paid 0 = .ok (.aload_n 0, 1) := by decide +kernel
theorem dX12_paid_1 : decode cX12_paid 1 = .ok (.getfield 28, 3) := by decide +kernel
theorem dX12_paid_4 : decode cX12_paid 4 = .ok (.iload_n 1, 1) := by decide +kernel
theorem dX12_paid_5 : decode cX12_paid 5 = .ok (.iaload, 1) := by decide +kernel
theorem dX12_paid_6 : decode cX12_paid 6 = .ok (.iconst (-1), 1) := by decide +kernel
theorem dX12_paid_7 : decode cX12_paid 7 = .ok (.if_icmp .ne 7, 3) := by decide +kernel
theorem dX12_paid_10 : decode cX12_paid 10 = .ok (.iconst 0, 1) := by decide +kernel
theorem dX12_paid_11 : decode cX12_paid 11 = .ok (.goto 14, 3) := by decide +kernel
theorem dX12_paid_14 : decode cX12_paid 14 = .ok (.aload_n 0, 1) := by decide +kernel
theorem dX12_paid_15 : decode cX12_paid 15 = .ok (.getfield 25, 3) := by decide +kernel
theorem dX12_paid_18 : decode cX12_paid 18 = .ok (.aload_n 0, 1) := by decide +kernel
theorem dX12_paid_19 : decode cX12_paid 19 = .ok (.getfield 28, 3) := by decide +kernel
theorem dX12_paid_22 : decode cX12_paid 22 = .ok (.iload_n 1, 1) := by decide +kernel
theorem dX12_paid_23 : decode cX12_paid 23 = .ok (.iaload, 1) := by decide +kernel
theorem dX12_paid_24 : decode cX12_paid 24 = .ok (.iaload, 1) := by decide +kernel
theorem dX12_paid_25 : decode cX12_paid 25 = .ok (.ireturn, 1) := by decide +kernel
theorem dX12_halvesOf_0 : decode cX12_halvesOf 0 = .ok (.iconst (-1), 1) := by decide +kernel
theorem dX12_halvesOf_1 : decode cX12_halvesOf 1 = .ok (.istore_n 2, 1) := by decide +kernel
theorem dX12_halvesOf_2 : decode cX12_halvesOf 2 = .ok (.bipush 15, 2) := by decide +kernel
theorem dX12_halvesOf_4 : decode cX12_halvesOf 4 = .ok (.istore_n 3, 1) := by decide +kernel
theorem dX12_halvesOf_5 : decode cX12_halvesOf 5 = .ok (.iload_n 3, 1) := by decide +kernel
theorem dX12_halvesOf_6 : decode cX12_halvesOf 6 = .ok (.ifCond .lt 126, 3) := by decide +kernel
theorem dX12_halvesOf_9 : decode cX12_halvesOf 9 = .ok (.iload_n 3, 1) := by decide +kernel
theorem dX12_halvesOf_10 : decode cX12_halvesOf 10 = .ok (.iconst 4, 1) := by decide +kernel
theorem dX12_halvesOf_11 : decode cX12_halvesOf 11 = .ok (.idiv, 1) := by decide +kernel
theorem dX12_halvesOf_12 : decode cX12_halvesOf 12 = .ok (.istore 4, 2) := by decide +kernel
theorem dX12_halvesOf_14 : decode cX12_halvesOf 14 = .ok (.iload_n 3, 1) := by decide +kernel
theorem dX12_halvesOf_15 : decode cX12_halvesOf 15 = .ok (.iconst 4, 1) := by decide +kernel
theorem dX12_halvesOf_16 : decode cX12_halvesOf 16 = .ok (.irem, 1) := by decide +kernel
theorem dX12_halvesOf_17 : decode cX12_halvesOf 17 = .ok (.istore 5, 2) := by decide +kernel
theorem dX12_halvesOf_19 : decode cX12_halvesOf 19 = .ok (.iload 4, 2) := by decide +kernel
theorem dX12_halvesOf_21 : decode cX12_halvesOf 21 = .ok (.iload 5, 2) := by decide +kernel
theorem dX12_halvesOf_23 : decode cX12_halvesOf 23 = .ok (.if_icmp .ge 103, 3) := by decide +kernel
theorem dX12_halvesOf_26 : decode cX12_halvesOf 26 = .ok (.iload 5, 2) := by decide +kernel
theorem dX12_halvesOf_28 : decode cX12_halvesOf 28 = .ok (.aload_n 0, 1) := by decide +kernel
theorem dX12_halvesOf_29 : decode cX12_halvesOf 29 = .ok (.getfield 106, 3) := by decide +kernel
theorem dX12_halvesOf_32 : decode cX12_halvesOf 32 = .ok (.if_icmp .ge 94, 3) := by decide +kernel
theorem dX12_halvesOf_35 : decode cX12_halvesOf 35 = .ok (.aload_n 0, 1) := by decide +kernel
theorem dX12_halvesOf_36 : decode cX12_halvesOf 36 = .ok (.iload 4, 2) := by decide +kernel
theorem dX12_halvesOf_38 : decode cX12_halvesOf 38 = .ok (.aload_n 0, 1) := by decide +kernel
theorem dX12_halvesOf_39 : decode cX12_halvesOf 39 = .ok (.getfield 13, 3) := by decide +kernel
theorem dX12_halvesOf_42 : decode cX12_halvesOf 42 = .ok (.iload 4, 2) := by decide +kernel
theorem dX12_halvesOf_44 : decode cX12_halvesOf 44 = .ok (.iaload, 1) := by decide +kernel
theorem dX12_halvesOf_45 : decode cX12_halvesOf 45 = .ok (.invokevirtual 124, 3) := by decide +kernel
theorem dX12_halvesOf_48 : decode cX12_halvesOf 48 = .ok (.aload_n 0, 1) := by decide +kernel
theorem dX12_halvesOf_49 : decode cX12_halvesOf 49 = .ok (.iload 5, 2) := by decide +kernel
theorem dX12_halvesOf_51 : decode cX12_halvesOf 51 = .ok (.aload_n 0, 1) := by decide +kernel
theorem dX12_halvesOf_52 : decode cX12_halvesOf 52 = .ok (.getfield 13, 3) := by decide +kernel
theorem dX12_halvesOf_55 : decode cX12_halvesOf 55 = .ok (.iload 5, 2) := by decide +kernel
theorem dX12_halvesOf_57 : decode cX12_halvesOf 57 = .ok (.iaload, 1) := by decide +kernel
theorem dX12_halvesOf_58 : decode cX12_halvesOf 58 = .ok (.invokevirtual 124, 3) := by decide +kernel
theorem dX12_halvesOf_61 : decode cX12_halvesOf 61 = .ok (.iadd, 1) := by decide +kernel
theorem dX12_halvesOf_62 : decode cX12_halvesOf 62 = .ok (.aload_n 0, 1) := by decide +kernel
theorem dX12_halvesOf_63 : decode cX12_halvesOf 63 = .ok (.getfield 19, 3) := by decide +kernel
theorem dX12_halvesOf_66 : decode cX12_halvesOf 66 = .ok (.iload_n 1, 1) := by decide +kernel
theorem dX12_halvesOf_67 : decode cX12_halvesOf 67 = .ok (.iaload, 1) := by decide +kernel
theorem dX12_halvesOf_68 : decode cX12_halvesOf 68 = .ok (.if_icmp .ne 37, 3) := by decide +kernel
theorem dX12_halvesOf_71 : decode cX12_halvesOf 71 = .ok (.aload_n 0, 1) := by decide +kernel
theorem dX12_halvesOf_72 : decode cX12_halvesOf 72 = .ok (.iload 4, 2) := by decide +kernel
theorem dX12_halvesOf_74 : decode cX12_halvesOf 74 = .ok (.aload_n 0, 1) := by decide +kernel
theorem dX12_halvesOf_75 : decode cX12_halvesOf 75 = .ok (.getfield 22, 3) := by decide +kernel
theorem dX12_halvesOf_78 : decode cX12_halvesOf 78 = .ok (.iload_n 1, 1) := by decide +kernel
theorem dX12_halvesOf_79 : decode cX12_halvesOf 79 = .ok (.iaload, 1) := by decide +kernel
theorem dX12_halvesOf_80 : decode cX12_halvesOf 80 = .ok (.invokevirtual 128, 3) := by decide +kernel
theorem dX12_halvesOf_83 : decode cX12_halvesOf 83 = .ok (.ifCond .ne 18, 3) := by decide +kernel
theorem dX12_halvesOf_86 : decode cX12_halvesOf 86 = .ok (.aload_n 0, 1) := by decide +kernel
theorem dX12_halvesOf_87 : decode cX12_halvesOf 87 = .ok (.iload 5, 2) := by decide +kernel
theorem dX12_halvesOf_89 : decode cX12_halvesOf 89 = .ok (.aload_n 0, 1) := by decide +kernel
theorem dX12_halvesOf_90 : decode cX12_halvesOf 90 = .ok (.getfield 22, 3) := by decide +kernel
theorem dX12_halvesOf_93 : decode cX12_halvesOf 93 = .ok (.iload_n 1, 1) := by decide +kernel
theorem dX12_halvesOf_94 : decode cX12_halvesOf 94 = .ok (.iaload, 1) := by decide +kernel
theorem dX12_halvesOf_95 : decode cX12_halvesOf 95 = .ok (.invokevirtual 128, 3) := by decide +kernel
theorem dX12_halvesOf_98 : decode cX12_halvesOf 98 = .ok (.ifCond .eq 7, 3) := by decide +kernel
theorem dX12_halvesOf_101 : decode cX12_halvesOf 101 = .ok (.iconst 1, 1) := by decide +kernel
theorem dX12_halvesOf_102 : decode cX12_halvesOf 102 = .ok (.goto 4, 3) := by decide +kernel
theorem dX12_halvesOf_105 : decode cX12_halvesOf 105 = .ok (.iconst 0, 1) := by decide +kernel
theorem dX12_halvesOf_106 : decode cX12_halvesOf 106 = .ok (.istore 6, 2) := by decide +kernel
theorem dX12_halvesOf_108 : decode cX12_halvesOf 108 = .ok (.iload 6, 2) := by decide +kernel
theorem dX12_halvesOf_110 : decode cX12_halvesOf 110 = .ok (.ifCond .eq 14, 3) := by decide +kernel
theorem dX12_halvesOf_113 : decode cX12_halvesOf 113 = .ok (.bipush 10, 2) := by decide +kernel
theorem dX12_halvesOf_115 : decode cX12_halvesOf 115 = .ok (.iload 4, 2) := by decide +kernel
theorem dX12_halvesOf_117 : decode cX12_halvesOf 117 = .ok (.imul, 1) := by decide +kernel
theorem dX12_halvesOf_118 : decode cX12_halvesOf 118 = .ok (.iload 5, 2) := by decide +kernel
theorem dX12_halvesOf_120 : decode cX12_halvesOf 120 = .ok (.iadd, 1) := by decide +kernel
theorem dX12_halvesOf_121 : decode cX12_halvesOf 121 = .ok (.goto 4, 3) := by decide +kernel
theorem dX12_halvesOf_124 : decode cX12_halvesOf 124 = .ok (.iload_n 2, 1) := by decide +kernel
theorem dX12_halvesOf_125 : decode cX12_halvesOf 125 = .ok (.istore_n 2, 1) := by decide +kernel
theorem dX12_halvesOf_126 : decode cX12_halvesOf 126 = .ok (.iinc 3 (-1), 3) := by decide +kernel
theorem dX12_halvesOf_129 : decode cX12_halvesOf 129 = .ok (.goto (-124), 3) := by decide +kernel
theorem dX12_halvesOf_132 : decode cX12_halvesOf 132 = .ok (.iload_n 2, 1) := by decide +kernel
theorem dX12_halvesOf_133 : decode cX12_halvesOf 133 = .ok (.ireturn, 1) := by decide +kernel
theorem dX12_oneNow_0 : decode cX12_oneNow 0 = .ok (.iload_n 2, 1) := by decide +kernel
theorem dX12_oneNow_1 : decode cX12_oneNow 1 = .ok (.tableswitch 99 0 7 #[47, 54, 61, 68, 74, 81, 87, 93], 47) := by decide +kernel
theorem dX12_oneNow_48 : decode cX12_oneNow 48 = .ok (.aload_n 0, 1) := by decide +kernel
theorem dX12_oneNow_49 : decode cX12_oneNow 49 = .ok (.getfield 7, 3) := by decide +kernel
theorem dX12_oneNow_52 : decode cX12_oneNow 52 = .ok (.iload_n 1, 1) := by decide +kernel
theorem dX12_oneNow_53 : decode cX12_oneNow 53 = .ok (.iaload, 1) := by decide +kernel
theorem dX12_oneNow_54 : decode cX12_oneNow 54 = .ok (.ireturn, 1) := by decide +kernel
theorem dX12_oneNow_55 : decode cX12_oneNow 55 = .ok (.aload_n 0, 1) := by decide +kernel
theorem dX12_oneNow_56 : decode cX12_oneNow 56 = .ok (.getfield 13, 3) := by decide +kernel
theorem dX12_oneNow_59 : decode cX12_oneNow 59 = .ok (.iload_n 1, 1) := by decide +kernel
theorem dX12_oneNow_60 : decode cX12_oneNow 60 = .ok (.iaload, 1) := by decide +kernel
theorem dX12_oneNow_61 : decode cX12_oneNow 61 = .ok (.ireturn, 1) := by decide +kernel
theorem dX12_oneNow_62 : decode cX12_oneNow 62 = .ok (.aload_n 0, 1) := by decide +kernel
theorem dX12_oneNow_63 : decode cX12_oneNow 63 = .ok (.getfield 16, 3) := by decide +kernel
theorem dX12_oneNow_66 : decode cX12_oneNow 66 = .ok (.iload_n 1, 1) := by decide +kernel
theorem dX12_oneNow_67 : decode cX12_oneNow 67 = .ok (.iaload, 1) := by decide +kernel
theorem dX12_oneNow_68 : decode cX12_oneNow 68 = .ok (.ireturn, 1) := by decide +kernel
theorem dX12_oneNow_69 : decode cX12_oneNow 69 = .ok (.aload_n 0, 1) := by decide +kernel
theorem dX12_oneNow_70 : decode cX12_oneNow 70 = .ok (.iload_n 1, 1) := by decide +kernel
theorem dX12_oneNow_71 : decode cX12_oneNow 71 = .ok (.invokevirtual 132, 3) := by decide +kernel
theorem dX12_oneNow_74 : decode cX12_oneNow 74 = .ok (.ireturn, 1) := by decide +kernel
theorem dX12_oneNow_75 : decode cX12_oneNow 75 = .ok (.aload_n 0, 1) := by decide +kernel
theorem dX12_oneNow_76 : decode cX12_oneNow 76 = .ok (.getfield 28, 3) := by decide +kernel
theorem dX12_oneNow_79 : decode cX12_oneNow 79 = .ok (.iload_n 1, 1) := by decide +kernel
theorem dX12_oneNow_80 : decode cX12_oneNow 80 = .ok (.iaload, 1) := by decide +kernel
theorem dX12_oneNow_81 : decode cX12_oneNow 81 = .ok (.ireturn, 1) := by decide +kernel
theorem dX12_oneNow_82 : decode cX12_oneNow 82 = .ok (.aload_n 0, 1) := by decide +kernel
theorem dX12_oneNow_83 : decode cX12_oneNow 83 = .ok (.iload_n 1, 1) := by decide +kernel
theorem dX12_oneNow_84 : decode cX12_oneNow 84 = .ok (.invokevirtual 142, 3) := by decide +kernel
theorem dX12_oneNow_87 : decode cX12_oneNow 87 = .ok (.ireturn, 1) := by decide +kernel
theorem dX12_oneNow_88 : decode cX12_oneNow 88 = .ok (.aload_n 0, 1) := by decide +kernel
theorem dX12_oneNow_89 : decode cX12_oneNow 89 = .ok (.iload_n 1, 1) := by decide +kernel
theorem dX12_oneNow_90 : decode cX12_oneNow 90 = .ok (.invokevirtual 145, 3) := by decide +kernel
theorem dX12_oneNow_93 : decode cX12_oneNow 93 = .ok (.ireturn, 1) := by decide +kernel
theorem dX12_oneNow_94 : decode cX12_oneNow 94 = .ok (.aload_n 0, 1) := by decide +kernel
theorem dX12_oneNow_95 : decode cX12_oneNow 95 = .ok (.iload_n 1, 1) := by decide +kernel
theorem dX12_oneNow_96 : decode cX12_oneNow 96 = .ok (.invokevirtual 148, 3) := by decide +kernel
theorem dX12_oneNow_99 : decode cX12_oneNow 99 = .ok (.ireturn, 1) := by decide +kernel
theorem dX12_oneNow_100 : decode cX12_oneNow 100 = .ok (.aload_n 0, 1) := by decide +kernel
theorem dX12_oneNow_101 : decode cX12_oneNow 101 = .ok (.iload_n 1, 1) := by decide +kernel
theorem dX12_oneNow_102 : decode cX12_oneNow 102 = .ok (.invokevirtual 151, 3) := by decide +kernel
theorem dX12_oneNow_105 : decode cX12_oneNow 105 = .ok (.ireturn, 1) := by decide +kernel
theorem dX12_about_0 : decode cX12_about 0 = .ok (.aload_n 0, 1) := by decide +kernel
theorem dX12_about_1 : decode cX12_about 1 = .ok (.iload_n 1, 1) := by decide +kernel
theorem dX12_about_2 : decode cX12_about 2 = .ok (.invokevirtual 154, 3) := by decide +kernel
theorem dX12_about_5 : decode cX12_about 5 = .ok (.ifCond .ne 8, 3) := by decide +kernel
theorem dX12_about_8 : decode cX12_about 8 = .ok (.bipush (-101), 2) := by decide +kernel
theorem dX12_about_10 : decode cX12_about 10 = .ok (.goto 24, 3) := by decide +kernel
theorem dX12_about_13 : decode cX12_about 13 = .ok (.iload_n 2, 1) := by decide +kernel
theorem dX12_about_14 : decode cX12_about 14 = .ok (.iconst 0, 1) := by decide +kernel
theorem dX12_about_15 : decode cX12_about 15 = .ok (.bipush 8, 2) := by decide +kernel
theorem dX12_about_17 : decode cX12_about 17 = .ok (.invokestatic 71, 3) := by decide +kernel
theorem dX12_about_20 : decode cX12_about 20 = .ok (.ifCond .eq 12, 3) := by decide +kernel
theorem dX12_about_23 : decode cX12_about 23 = .ok (.aload_n 0, 1) := by decide +kernel
theorem dX12_about_24 : decode cX12_about 24 = .ok (.iload_n 1, 1) := by decide +kernel
theorem dX12_about_25 : decode cX12_about 25 = .ok (.iload_n 2, 1) := by decide +kernel
theorem dX12_about_26 : decode cX12_about 26 = .ok (.invokevirtual 158, 3) := by decide +kernel
theorem dX12_about_29 : decode cX12_about 29 = .ok (.goto 5, 3) := by decide +kernel
theorem dX12_about_32 : decode cX12_about 32 = .ok (.bipush (-102), 2) := by decide +kernel
theorem dX12_about_34 : decode cX12_about 34 = .ok (.ireturn, 1) := by decide +kernel
theorem dX12_as_0 : decode cX12_as 0 = .ok (.aload_n 0, 1) := by decide +kernel
theorem dX12_as_1 : decode cX12_as 1 = .ok (.iload_n 1, 1) := by decide +kernel
theorem dX12_as_2 : decode cX12_as 2 = .ok (.invokevirtual 154, 3) := by decide +kernel
theorem dX12_as_5 : decode cX12_as 5 = .ok (.ifCond .ne 6, 3) := by decide +kernel
theorem dX12_as_8 : decode cX12_as 8 = .ok (.bipush (-101), 2) := by decide +kernel
theorem dX12_as_10 : decode cX12_as 10 = .ok (.ireturn, 1) := by decide +kernel
theorem dX12_as_11 : decode cX12_as 11 = .ok (.iload_n 2, 1) := by decide +kernel
theorem dX12_as_12 : decode cX12_as 12 = .ok (.iconst 0, 1) := by decide +kernel
theorem dX12_as_13 : decode cX12_as 13 = .ok (.iconst 4, 1) := by decide +kernel
theorem dX12_as_14 : decode cX12_as 14 = .ok (.invokestatic 71, 3) := by decide +kernel
theorem dX12_as_17 : decode cX12_as 17 = .ok (.ifCond .ne 6, 3) := by decide +kernel
theorem dX12_as_20 : decode cX12_as 20 = .ok (.bipush (-102), 2) := by decide +kernel
theorem dX12_as_22 : decode cX12_as 22 = .ok (.ireturn, 1) := by decide +kernel
theorem dX12_as_23 : decode cX12_as 23 = .ok (.aload_n 0, 1) := by decide +kernel
theorem dX12_as_24 : decode cX12_as 24 = .ok (.getfield 7, 3) := by decide +kernel
theorem dX12_as_27 : decode cX12_as 27 = .ok (.iload_n 1, 1) := by decide +kernel
theorem dX12_as_28 : decode cX12_as 28 = .ok (.iaload, 1) := by decide +kernel
theorem dX12_as_29 : decode cX12_as 29 = .ok (.istore_n 3, 1) := by decide +kernel
theorem dX12_as_30 : decode cX12_as 30 = .ok (.iload_n 2, 1) := by decide +kernel
theorem dX12_as_31 : decode cX12_as 31 = .ok (.ifCond .eq 18, 3) := by decide +kernel
theorem dX12_as_34 : decode cX12_as 34 = .ok (.iload_n 3, 1) := by decide +kernel
theorem dX12_as_35 : decode cX12_as 35 = .ok (.iload_n 2, 1) := by decide +kernel
theorem dX12_as_36 : decode cX12_as 36 = .ok (.if_icmp .eq 13, 3) := by decide +kernel
theorem dX12_as_39 : decode cX12_as 39 = .ok (.iload_n 2, 1) := by decide +kernel
theorem dX12_as_40 : decode cX12_as 40 = .ok (.iconst 1, 1) := by decide +kernel
theorem dX12_as_41 : decode cX12_as 41 = .ok (.if_icmp .ne 12, 3) := by decide +kernel
theorem dX12_as_44 : decode cX12_as 44 = .ok (.iload_n 3, 1) := by decide +kernel
theorem dX12_as_45 : decode cX12_as 45 = .ok (.iconst 4, 1) := by decide +kernel
theorem dX12_as_46 : decode cX12_as 46 = .ok (.if_icmp .ne 7, 3) := by decide +kernel
theorem dX12_as_49 : decode cX12_as 49 = .ok (.iload_n 1, 1) := by decide +kernel
theorem dX12_as_50 : decode cX12_as 50 = .ok (.goto 4, 3) := by decide +kernel
theorem dX12_as_53 : decode cX12_as 53 = .ok (.iconst (-1), 1) := by decide +kernel
theorem dX12_as_54 : decode cX12_as 54 = .ok (.ireturn, 1) := by decide +kernel
theorem dX12_crimeNow_0 : decode cX12_crimeNow 0 = .ok (.iload_n 2, 1) := by decide +kernel
theorem dX12_crimeNow_1 : decode cX12_crimeNow 1 = .ok (.tableswitch 68 0 4 #[35, 42, 49, 56, 62], 35) := by decide +kernel
theorem dX12_crimeNow_36 : decode cX12_crimeNow 36 = .ok (.aload_n 0, 1) := by decide +kernel
theorem dX12_crimeNow_37 : decode cX12_crimeNow 37 = .ok (.getfield 19, 3) := by decide +kernel
theorem dX12_crimeNow_40 : decode cX12_crimeNow 40 = .ok (.iload_n 1, 1) := by decide +kernel
theorem dX12_crimeNow_41 : decode cX12_crimeNow 41 = .ok (.iaload, 1) := by decide +kernel
theorem dX12_crimeNow_42 : decode cX12_crimeNow 42 = .ok (.ireturn, 1) := by decide +kernel
theorem dX12_crimeNow_43 : decode cX12_crimeNow 43 = .ok (.aload_n 0, 1) := by decide +kernel
theorem dX12_crimeNow_44 : decode cX12_crimeNow 44 = .ok (.getfield 22, 3) := by decide +kernel
theorem dX12_crimeNow_47 : decode cX12_crimeNow 47 = .ok (.iload_n 1, 1) := by decide +kernel
theorem dX12_crimeNow_48 : decode cX12_crimeNow 48 = .ok (.iaload, 1) := by decide +kernel
theorem dX12_crimeNow_49 : decode cX12_crimeNow 49 = .ok (.ireturn, 1) := by decide +kernel
theorem dX12_crimeNow_50 : decode cX12_crimeNow 50 = .ok (.aload_n 0, 1) := by decide +kernel
theorem dX12_crimeNow_51 : decode cX12_crimeNow 51 = .ok (.getfield 25, 3) := by decide +kernel
theorem dX12_crimeNow_54 : decode cX12_crimeNow 54 = .ok (.iload_n 1, 1) := by decide +kernel
theorem dX12_crimeNow_55 : decode cX12_crimeNow 55 = .ok (.iaload, 1) := by decide +kernel
theorem dX12_crimeNow_56 : decode cX12_crimeNow 56 = .ok (.ireturn, 1) := by decide +kernel
theorem dX12_crimeNow_57 : decode cX12_crimeNow 57 = .ok (.aload_n 0, 1) := by decide +kernel
theorem dX12_crimeNow_58 : decode cX12_crimeNow 58 = .ok (.iload_n 1, 1) := by decide +kernel
theorem dX12_crimeNow_59 : decode cX12_crimeNow 59 = .ok (.invokevirtual 161, 3) := by decide +kernel
theorem dX12_crimeNow_62 : decode cX12_crimeNow 62 = .ok (.ireturn, 1) := by decide +kernel
theorem dX12_crimeNow_63 : decode cX12_crimeNow 63 = .ok (.aload_n 0, 1) := by decide +kernel
theorem dX12_crimeNow_64 : decode cX12_crimeNow 64 = .ok (.iload_n 1, 1) := by decide +kernel
theorem dX12_crimeNow_65 : decode cX12_crimeNow 65 = .ok (.invokevirtual 164, 3) := by decide +kernel
theorem dX12_crimeNow_68 : decode cX12_crimeNow 68 = .ok (.ireturn, 1) := by decide +kernel
theorem dX12_crimeNow_69 : decode cX12_crimeNow 69 = .ok (.aload_n 0, 1) := by decide +kernel
theorem dX12_crimeNow_70 : decode cX12_crimeNow 70 = .ok (.iload_n 1, 1) := by decide +kernel
theorem dX12_crimeNow_71 : decode cX12_crimeNow 71 = .ok (.invokevirtual 167, 3) := by decide +kernel
theorem dX12_crimeNow_74 : decode cX12_crimeNow 74 = .ok (.ireturn, 1) := by decide +kernel
theorem dX12_crime_0 : decode cX12_crime 0 = .ok (.aload_n 0, 1) := by decide +kernel
theorem dX12_crime_1 : decode cX12_crime 1 = .ok (.iload_n 1, 1) := by decide +kernel
theorem dX12_crime_2 : decode cX12_crime 2 = .ok (.invokevirtual 170, 3) := by decide +kernel
theorem dX12_crime_5 : decode cX12_crime 5 = .ok (.ifCond .ne 8, 3) := by decide +kernel
theorem dX12_crime_8 : decode cX12_crime 8 = .ok (.bipush (-101), 2) := by decide +kernel
theorem dX12_crime_10 : decode cX12_crime 10 = .ok (.goto 23, 3) := by decide +kernel
theorem dX12_crime_13 : decode cX12_crime 13 = .ok (.iload_n 2, 1) := by decide +kernel
theorem dX12_crime_14 : decode cX12_crime 14 = .ok (.iconst 0, 1) := by decide +kernel
theorem dX12_crime_15 : decode cX12_crime 15 = .ok (.iconst 5, 1) := by decide +kernel
theorem dX12_crime_16 : decode cX12_crime 16 = .ok (.invokestatic 71, 3) := by decide +kernel
theorem dX12_crime_19 : decode cX12_crime 19 = .ok (.ifCond .eq 12, 3) := by decide +kernel
theorem dX12_crime_22 : decode cX12_crime 22 = .ok (.aload_n 0, 1) := by decide +kernel
theorem dX12_crime_23 : decode cX12_crime 23 = .ok (.iload_n 1, 1) := by decide +kernel
theorem dX12_crime_24 : decode cX12_crime 24 = .ok (.iload_n 2, 1) := by decide +kernel
theorem dX12_crime_25 : decode cX12_crime 25 = .ok (.invokevirtual 173, 3) := by decide +kernel
theorem dX12_crime_28 : decode cX12_crime 28 = .ok (.goto 5, 3) := by decide +kernel
theorem dX12_crime_31 : decode cX12_crime 31 = .ok (.bipush (-102), 2) := by decide +kernel
theorem dX12_crime_33 : decode cX12_crime 33 = .ok (.ireturn, 1) := by decide +kernel
theorem dX12_isFree_0 : decode cX12_isFree 0 = .ok (.aload_n 0, 1) := by decide +kernel
theorem dX12_isFree_1 : decode cX12_isFree 1 = .ok (.getfield 7, 3) := by decide +kernel
theorem dX12_isFree_4 : decode cX12_isFree 4 = .ok (.iload_n 1, 1) := by decide +kernel
theorem dX12_isFree_5 : decode cX12_isFree 5 = .ok (.iaload, 1) := by decide +kernel
theorem dX12_isFree_6 : decode cX12_isFree 6 = .ok (.iconst 2, 1) := by decide +kernel
theorem dX12_isFree_7 : decode cX12_isFree 7 = .ok (.if_icmp .eq 17, 3) := by decide +kernel
theorem dX12_isFree_10 : decode cX12_isFree 10 = .ok (.aload_n 0, 1) := by decide +kernel
theorem dX12_isFree_11 : decode cX12_isFree 11 = .ok (.getfield 28, 3) := by decide +kernel
theorem dX12_isFree_14 : decode cX12_isFree 14 = .ok (.iload_n 1, 1) := by decide +kernel
theorem dX12_isFree_15 : decode cX12_isFree 15 = .ok (.iaload, 1) := by decide +kernel
theorem dX12_isFree_16 : decode cX12_isFree 16 = .ok (.iconst (-1), 1) := by decide +kernel
theorem dX12_isFree_17 : decode cX12_isFree 17 = .ok (.if_icmp .ne 7, 3) := by decide +kernel
theorem dX12_isFree_20 : decode cX12_isFree 20 = .ok (.iconst 1, 1) := by decide +kernel
theorem dX12_isFree_21 : decode cX12_isFree 21 = .ok (.goto 4, 3) := by decide +kernel
theorem dX12_isFree_24 : decode cX12_isFree 24 = .ok (.iconst 0, 1) := by decide +kernel
theorem dX12_isFree_25 : decode cX12_isFree 25 = .ok (.ireturn, 1) := by decide +kernel
theorem dX12_confess_0 : decode cX12_confess 0 = .ok (.aload_n 0, 1) := by decide +kernel
theorem dX12_confess_1 : decode cX12_confess 1 = .ok (.iload_n 1, 1) := by decide +kernel
theorem dX12_confess_2 : decode cX12_confess 2 = .ok (.invokevirtual 154, 3) := by decide +kernel
theorem dX12_confess_5 : decode cX12_confess 5 = .ok (.ifCond .eq 11, 3) := by decide +kernel
theorem dX12_confess_8 : decode cX12_confess 8 = .ok (.aload_n 0, 1) := by decide +kernel
theorem dX12_confess_9 : decode cX12_confess 9 = .ok (.iload_n 2, 1) := by decide +kernel
theorem dX12_confess_10 : decode cX12_confess 10 = .ok (.invokevirtual 170, 3) := by decide +kernel
theorem dX12_confess_13 : decode cX12_confess 13 = .ok (.ifCond .ne 6, 3) := by decide +kernel
theorem dX12_confess_16 : decode cX12_confess 16 = .ok (.bipush (-101), 2) := by decide +kernel
theorem dX12_confess_18 : decode cX12_confess 18 = .ok (.ireturn, 1) := by decide +kernel
theorem dX12_confess_19 : decode cX12_confess 19 = .ok (.aload_n 0, 1) := by decide +kernel
theorem dX12_confess_20 : decode cX12_confess 20 = .ok (.iload_n 1, 1) := by decide +kernel
theorem dX12_confess_21 : decode cX12_confess 21 = .ok (.iload_n 2, 1) := by decide +kernel
theorem dX12_confess_22 : decode cX12_confess 22 = .ok (.invokevirtual 139, 3) := by decide +kernel
theorem dX12_confess_25 : decode cX12_confess 25 = .ok (.ifCond .eq 20, 3) := by decide +kernel
theorem dX12_confess_28 : decode cX12_confess 28 = .ok (.aload_n 0, 1) := by decide +kernel
theorem dX12_confess_29 : decode cX12_confess 29 = .ok (.iload_n 2, 1) := by decide +kernel
theorem dX12_confess_30 : decode cX12_confess 30 = .ok (.invokevirtual 161, 3) := by decide +kernel
theorem dX12_confess_33 : decode cX12_confess 33 = .ok (.iconst (-1), 1) := by decide +kernel
theorem dX12_confess_34 : decode cX12_confess 34 = .ok (.if_icmp .ne 11, 3) := by decide +kernel
theorem dX12_confess_37 : decode cX12_confess 37 = .ok (.aload_n 0, 1) := by decide +kernel
theorem dX12_confess_38 : decode cX12_confess 38 = .ok (.iload_n 1, 1) := by decide +kernel
theorem dX12_confess_39 : decode cX12_confess 39 = .ok (.invokevirtual 176, 3) := by decide +kernel
theorem dX12_confess_42 : decode cX12_confess 42 = .ok (.ifCond .ne 6, 3) := by decide +kernel
theorem dX12_confess_45 : decode cX12_confess 45 = .ok (.bipush (-103), 2) := by decide +kernel
theorem dX12_confess_47 : decode cX12_confess 47 = .ok (.ireturn, 1) := by decide +kernel
theorem dX12_confess_48 : decode cX12_confess 48 = .ok (.aload_n 0, 1) := by decide +kernel
theorem dX12_confess_49 : decode cX12_confess 49 = .ok (.getfield 28, 3) := by decide +kernel
theorem dX12_confess_52 : decode cX12_confess 52 = .ok (.iload_n 1, 1) := by decide +kernel
theorem dX12_confess_53 : decode cX12_confess 53 = .ok (.iload_n 2, 1) := by decide +kernel
theorem dX12_confess_54 : decode cX12_confess 54 = .ok (.iastore, 1) := by decide +kernel
theorem dX12_confess_55 : decode cX12_confess 55 = .ok (.aload_n 0, 1) := by decide +kernel
theorem dX12_confess_56 : decode cX12_confess 56 = .ok (.dup, 1) := by decide +kernel
theorem dX12_confess_57 : decode cX12_confess 57 = .ok (.getfield 118, 3) := by decide +kernel
theorem dX12_confess_60 : decode cX12_confess 60 = .ok (.iconst 1, 1) := by decide +kernel
theorem dX12_confess_61 : decode cX12_confess 61 = .ok (.iadd, 1) := by decide +kernel
theorem dX12_confess_62 : decode cX12_confess 62 = .ok (.putfield 118, 3) := by decide +kernel
theorem dX12_confess_65 : decode cX12_confess 65 = .ok (.aload_n 0, 1) := by decide +kernel
theorem dX12_confess_66 : decode cX12_confess 66 = .ok (.getfield 25, 3) := by decide +kernel
theorem dX12_confess_69 : decode cX12_confess 69 = .ok (.iload_n 2, 1) := by decide +kernel
theorem dX12_confess_70 : decode cX12_confess 70 = .ok (.iaload, 1) := by decide +kernel
theorem dX12_confess_71 : decode cX12_confess 71 = .ok (.ireturn, 1) := by decide +kernel
theorem dX12_recant_0 : decode cX12_recant 0 = .ok (.aload_n 0, 1) := by decide +kernel
theorem dX12_recant_1 : decode cX12_recant 1 = .ok (.iload_n 1, 1) := by decide +kernel
theorem dX12_recant_2 : decode cX12_recant 2 = .ok (.invokevirtual 154, 3) := by decide +kernel
theorem dX12_recant_5 : decode cX12_recant 5 = .ok (.ifCond .ne 6, 3) := by decide +kernel
theorem dX12_recant_8 : decode cX12_recant 8 = .ok (.bipush (-101), 2) := by decide +kernel
theorem dX12_recant_10 : decode cX12_recant 10 = .ok (.ireturn, 1) := by decide +kernel
theorem dX12_recant_11 : decode cX12_recant 11 = .ok (.aload_n 0, 1) := by decide +kernel
theorem dX12_recant_12 : decode cX12_recant 12 = .ok (.getfield 28, 3) := by decide +kernel
theorem dX12_recant_15 : decode cX12_recant 15 = .ok (.iload_n 1, 1) := by decide +kernel
theorem dX12_recant_16 : decode cX12_recant 16 = .ok (.iaload, 1) := by decide +kernel
theorem dX12_recant_17 : decode cX12_recant 17 = .ok (.iconst (-1), 1) := by decide +kernel
theorem dX12_recant_18 : decode cX12_recant 18 = .ok (.if_icmp .ne 6, 3) := by decide +kernel
theorem dX12_recant_21 : decode cX12_recant 21 = .ok (.bipush (-103), 2) := by decide +kernel
theorem dX12_recant_23 : decode cX12_recant 23 = .ok (.ireturn, 1) := by decide +kernel
theorem dX12_recant_24 : decode cX12_recant 24 = .ok (.aload_n 0, 1) := by decide +kernel
theorem dX12_recant_25 : decode cX12_recant 25 = .ok (.getfield 28, 3) := by decide +kernel
theorem dX12_recant_28 : decode cX12_recant 28 = .ok (.iload_n 1, 1) := by decide +kernel
theorem dX12_recant_29 : decode cX12_recant 29 = .ok (.iaload, 1) := by decide +kernel
theorem dX12_recant_30 : decode cX12_recant 30 = .ok (.istore_n 2, 1) := by decide +kernel
theorem dX12_recant_31 : decode cX12_recant 31 = .ok (.aload_n 0, 1) := by decide +kernel
theorem dX12_recant_32 : decode cX12_recant 32 = .ok (.getfield 28, 3) := by decide +kernel
theorem dX12_recant_35 : decode cX12_recant 35 = .ok (.iload_n 1, 1) := by decide +kernel
theorem dX12_recant_36 : decode cX12_recant 36 = .ok (.iconst (-1), 1) := by decide +kernel
theorem dX12_recant_37 : decode cX12_recant 37 = .ok (.iastore, 1) := by decide +kernel
theorem dX12_recant_38 : decode cX12_recant 38 = .ok (.iload_n 2, 1) := by decide +kernel
theorem dX12_recant_39 : decode cX12_recant 39 = .ok (.ireturn, 1) := by decide +kernel
theorem dX12_alter_0 : decode cX12_alter 0 = .ok (.aload_n 0, 1) := by decide +kernel
theorem dX12_alter_1 : decode cX12_alter 1 = .ok (.iload_n 1, 1) := by decide +kernel
theorem dX12_alter_2 : decode cX12_alter 2 = .ok (.invokevirtual 170, 3) := by decide +kernel
theorem dX12_alter_5 : decode cX12_alter 5 = .ok (.ifCond .ne 6, 3) := by decide +kernel
theorem dX12_alter_8 : decode cX12_alter 8 = .ok (.bipush (-101), 2) := by decide +kernel
theorem dX12_alter_10 : decode cX12_alter 10 = .ok (.ireturn, 1) := by decide +kernel
theorem dX12_alter_11 : decode cX12_alter 11 = .ok (.aload_n 0, 1) := by decide +kernel
theorem dX12_alter_12 : decode cX12_alter 12 = .ok (.getfield 19, 3) := by decide +kernel
theorem dX12_alter_15 : decode cX12_alter 15 = .ok (.iload_n 1, 1) := by decide +kernel
theorem dX12_alter_16 : decode cX12_alter 16 = .ok (.iaload, 1) := by decide +kernel
theorem dX12_alter_17 : decode cX12_alter 17 = .ok (.iload_n 2, 1) := by decide +kernel
theorem dX12_alter_18 : decode cX12_alter 18 = .ok (.ifCond .eq 7, 3) := by decide +kernel
theorem dX12_alter_21 : decode cX12_alter 21 = .ok (.iconst 1, 1) := by decide +kernel
theorem dX12_alter_22 : decode cX12_alter 22 = .ok (.goto 4, 3) := by decide +kernel
theorem dX12_alter_25 : decode cX12_alter 25 = .ok (.iconst (-1), 1) := by decide +kernel
theorem dX12_alter_26 : decode cX12_alter 26 = .ok (.iadd, 1) := by decide +kernel
theorem dX12_alter_27 : decode cX12_alter 27 = .ok (.istore_n 3, 1) := by decide +kernel
theorem dX12_alter_28 : decode cX12_alter 28 = .ok (.aload_n 0, 1) := by decide +kernel
theorem dX12_alter_29 : decode cX12_alter 29 = .ok (.iload_n 1, 1) := by decide +kernel
theorem dX12_alter_30 : decode cX12_alter 30 = .ok (.invokevirtual 161, 3) := by decide +kernel
theorem dX12_alter_33 : decode cX12_alter 33 = .ok (.iconst (-1), 1) := by decide +kernel
theorem dX12_alter_34 : decode cX12_alter 34 = .ok (.if_icmp .ne 13, 3) := by decide +kernel
theorem dX12_alter_37 : decode cX12_alter 37 = .ok (.iload_n 3, 1) := by decide +kernel
theorem dX12_alter_38 : decode cX12_alter 38 = .ok (.iconst 1, 1) := by decide +kernel
theorem dX12_alter_39 : decode cX12_alter 39 = .ok (.bipush 9, 2) := by decide +kernel
theorem dX12_alter_41 : decode cX12_alter 41 = .ok (.invokestatic 71, 3) := by decide +kernel
theorem dX12_alter_44 : decode cX12_alter 44 = .ok (.ifCond .ne 6, 3) := by decide +kernel
theorem dX12_alter_47 : decode cX12_alter 47 = .ok (.bipush (-103), 2) := by decide +kernel
theorem dX12_alter_49 : decode cX12_alter 49 = .ok (.ireturn, 1) := by decide +kernel
theorem dX12_alter_50 : decode cX12_alter 50 = .ok (.aload_n 0, 1) := by decide +kernel
theorem dX12_alter_51 : decode cX12_alter 51 = .ok (.getfield 19, 3) := by decide +kernel
theorem dX12_alter_54 : decode cX12_alter 54 = .ok (.iload_n 1, 1) := by decide +kernel
theorem dX12_alter_55 : decode cX12_alter 55 = .ok (.iload_n 3, 1) := by decide +kernel
theorem dX12_alter_56 : decode cX12_alter 56 = .ok (.iastore, 1) := by decide +kernel
theorem dX12_alter_57 : decode cX12_alter 57 = .ok (.aload_n 0, 1) := by decide +kernel
theorem dX12_alter_58 : decode cX12_alter 58 = .ok (.dup, 1) := by decide +kernel
theorem dX12_alter_59 : decode cX12_alter 59 = .ok (.getfield 115, 3) := by decide +kernel
theorem dX12_alter_62 : decode cX12_alter 62 = .ok (.iconst 1, 1) := by decide +kernel
theorem dX12_alter_63 : decode cX12_alter 63 = .ok (.iadd, 1) := by decide +kernel
theorem dX12_alter_64 : decode cX12_alter 64 = .ok (.putfield 115, 3) := by decide +kernel
theorem dX12_alter_67 : decode cX12_alter 67 = .ok (.iload_n 3, 1) := by decide +kernel
theorem dX12_alter_68 : decode cX12_alter 68 = .ok (.ireturn, 1) := by decide +kernel
theorem dX12_hasBy_0 : decode cX12_hasBy 0 = .ok (.iload_n 1, 1) := by decide +kernel
theorem dX12_hasBy_1 : decode cX12_hasBy 1 = .ok (.istore_n 3, 1) := by decide +kernel
theorem dX12_hasBy_2 : decode cX12_hasBy 2 = .ok (.aload_n 0, 1) := by decide +kernel
theorem dX12_hasBy_3 : decode cX12_hasBy 3 = .ok (.getfield 106, 3) := by decide +kernel
theorem dX12_hasBy_6 : decode cX12_hasBy 6 = .ok (.iconst 1, 1) := by decide +kernel
theorem dX12_hasBy_7 : decode cX12_hasBy 7 = .ok (.isub, 1) := by decide +kernel
theorem dX12_hasBy_8 : decode cX12_hasBy 8 = .ok (.istore 4, 2) := by decide +kernel
theorem dX12_hasBy_10 : decode cX12_hasBy 10 = .ok (.iload 4, 2) := by decide +kernel
theorem dX12_hasBy_12 : decode cX12_hasBy 12 = .ok (.iload_n 2, 1) := by decide +kernel
theorem dX12_hasBy_13 : decode cX12_hasBy 13 = .ok (.if_icmp .le 13, 3) := by decide +kernel
theorem dX12_hasBy_16 : decode cX12_hasBy 16 = .ok (.iload_n 3, 1) := by decide +kernel
theorem dX12_hasBy_17 : decode cX12_hasBy 17 = .ok (.iconst 5, 1) := by decide +kernel
theorem dX12_hasBy_18 : decode cX12_hasBy 18 = .ok (.idiv, 1) := by decide +kernel
theorem dX12_hasBy_19 : decode cX12_hasBy 19 = .ok (.istore_n 3, 1) := by decide +kernel
theorem dX12_hasBy_20 : decode cX12_hasBy 20 = .ok (.iinc 4 (-1), 3) := by decide +kernel
theorem dX12_hasBy_23 : decode cX12_hasBy 23 = .ok (.goto (-13), 3) := by decide +kernel
theorem dX12_hasBy_26 : decode cX12_hasBy 26 = .ok (.iload_n 3, 1) := by decide +kernel
theorem dX12_hasBy_27 : decode cX12_hasBy 27 = .ok (.iconst 5, 1) := by decide +kernel
theorem dX12_hasBy_28 : decode cX12_hasBy 28 = .ok (.irem, 1) := by decide +kernel
theorem dX12_hasBy_29 : decode cX12_hasBy 29 = .ok (.iconst 1, 1) := by decide +kernel
theorem dX12_hasBy_30 : decode cX12_hasBy 30 = .ok (.isub, 1) := by decide +kernel
theorem dX12_hasBy_31 : decode cX12_hasBy 31 = .ok (.ireturn, 1) := by decide +kernel
theorem dX12_codes_0 : decode cX12_codes 0 = .ok (.iconst 1, 1) := by decide +kernel
theorem dX12_codes_1 : decode cX12_codes 1 = .ok (.istore_n 1, 1) := by decide +kernel
theorem dX12_codes_2 : decode cX12_codes 2 = .ok (.iconst 0, 1) := by decide +kernel
theorem dX12_codes_3 : decode cX12_codes 3 = .ok (.istore_n 2, 1) := by decide +kernel
theorem dX12_codes_4 : decode cX12_codes 4 = .ok (.iload_n 2, 1) := by decide +kernel
theorem dX12_codes_5 : decode cX12_codes 5 = .ok (.aload_n 0, 1) := by decide +kernel
theorem dX12_codes_6 : decode cX12_codes 6 = .ok (.getfield 106, 3) := by decide +kernel
theorem dX12_codes_9 : decode cX12_codes 9 = .ok (.if_icmp .ge 13, 3) := by decide +kernel
theorem dX12_codes_12 : decode cX12_codes 12 = .ok (.iload_n 1, 1) := by decide +kernel
theorem dX12_codes_13 : decode cX12_codes 13 = .ok (.iconst 5, 1) := by decide +kernel
theorem dX12_codes_14 : decode cX12_codes 14 = .ok (.imul, 1) := by decide +kernel
theorem dX12_codes_15 : decode cX12_codes 15 = .ok (.istore_n 1, 1) := by decide +kernel
theorem dX12_codes_16 : decode cX12_codes 16 = .ok (.iinc 2 1, 3) := by decide +kernel
theorem dX12_codes_19 : decode cX12_codes 19 = .ok (.goto (-15), 3) := by decide +kernel
theorem dX12_codes_22 : decode cX12_codes 22 = .ok (.iload_n 1, 1) := by decide +kernel
theorem dX12_codes_23 : decode cX12_codes 23 = .ok (.ireturn, 1) := by decide +kernel
theorem dX12_isMatch_0 : decode cX12_isMatch 0 = .ok (.aload_n 0, 1) := by decide +kernel
theorem dX12_isMatch_1 : decode cX12_isMatch 1 = .ok (.iconst 0, 1) := by decide +kernel
theorem dX12_isMatch_2 : decode cX12_isMatch 2 = .ok (.putfield 179, 3) := by decide +kernel
theorem dX12_isMatch_5 : decode cX12_isMatch 5 = .ok (.aload_n 0, 1) := by decide +kernel
theorem dX12_isMatch_6 : decode cX12_isMatch 6 = .ok (.iconst 0, 1) := by decide +kernel
theorem dX12_isMatch_7 : decode cX12_isMatch 7 = .ok (.putfield 182, 3) := by decide +kernel
theorem dX12_isMatch_10 : decode cX12_isMatch 10 = .ok (.iconst 0, 1) := by decide +kernel
theorem dX12_isMatch_11 : decode cX12_isMatch 11 = .ok (.istore_n 2, 1) := by decide +kernel
theorem dX12_isMatch_12 : decode cX12_isMatch 12 = .ok (.iconst 1, 1) := by decide +kernel
theorem dX12_isMatch_13 : decode cX12_isMatch 13 = .ok (.istore_n 3, 1) := by decide +kernel
theorem dX12_isMatch_14 : decode cX12_isMatch 14 = .ok (.iconst 0, 1) := by decide +kernel
theorem dX12_isMatch_15 : decode cX12_isMatch 15 = .ok (.istore 4, 2) := by decide +kernel
theorem dX12_isMatch_17 : decode cX12_isMatch 17 = .ok (.iload 4, 2) := by decide +kernel
theorem dX12_isMatch_19 : decode cX12_isMatch 19 = .ok (.aload_n 0, 1) := by decide +kernel
theorem dX12_isMatch_20 : decode cX12_isMatch 20 = .ok (.getfield 106, 3) := by decide +kernel
theorem dX12_isMatch_23 : decode cX12_isMatch 23 = .ok (.if_icmp .ge 123, 3) := by decide +kernel
theorem dX12_isMatch_26 : decode cX12_isMatch 26 = .ok (.iload_n 3, 1) := by decide +kernel
theorem dX12_isMatch_27 : decode cX12_isMatch 27 = .ok (.ifCond .eq 119, 3) := by decide +kernel
theorem dX12_isMatch_30 : decode cX12_isMatch 30 = .ok (.aload_n 0, 1) := by decide +kernel
theorem dX12_isMatch_31 : decode cX12_isMatch 31 = .ok (.iload_n 1, 1) := by decide +kernel
theorem dX12_isMatch_32 : decode cX12_isMatch 32 = .ok (.iload 4, 2) := by decide +kernel
theorem dX12_isMatch_34 : decode cX12_isMatch 34 = .ok (.invokevirtual 185, 3) := by decide +kernel
theorem dX12_isMatch_37 : decode cX12_isMatch 37 = .ok (.istore 5, 2) := by decide +kernel
theorem dX12_isMatch_39 : decode cX12_isMatch 39 = .ok (.iload 5, 2) := by decide +kernel
theorem dX12_isMatch_41 : decode cX12_isMatch 41 = .ok (.iconst (-1), 1) := by decide +kernel
theorem dX12_isMatch_42 : decode cX12_isMatch 42 = .ok (.if_icmp .eq 98, 3) := by decide +kernel
theorem dX12_isMatch_45 : decode cX12_isMatch 45 = .ok (.aload_n 0, 1) := by decide +kernel
theorem dX12_isMatch_46 : decode cX12_isMatch 46 = .ok (.iload 5, 2) := by decide +kernel
theorem dX12_isMatch_48 : decode cX12_isMatch 48 = .ok (.invokevirtual 170, 3) := by decide +kernel
theorem dX12_isMatch_51 : decode cX12_isMatch 51 = .ok (.ifCond .eq 46, 3) := by decide +kernel
theorem dX12_isMatch_54 : decode cX12_isMatch 54 = .ok (.iload_n 2, 1) := by decide +kernel
theorem dX12_isMatch_55 : decode cX12_isMatch 55 = .ok (.iload 5, 2) := by decide +kernel
theorem dX12_isMatch_57 : decode cX12_isMatch 57 = .ok (.invokestatic 188, 3) := by decide +kernel
theorem dX12_isMatch_60 : decode cX12_isMatch 60 = .ok (.ifCond .ne 37, 3) := by decide +kernel
theorem dX12_isMatch_63 : decode cX12_isMatch 63 = .ok (.aload_n 0, 1) := by decide +kernel
theorem dX12_isMatch_64 : decode cX12_isMatch 64 = .ok (.iload 4, 2) := by decide +kernel
theorem dX12_isMatch_66 : decode cX12_isMatch 66 = .ok (.invokevirtual 176, 3) := by decide +kernel
theorem dX12_isMatch_69 : decode cX12_isMatch 69 = .ok (.ifCond .eq 28, 3) := by decide +kernel
theorem dX12_isMatch_72 : decode cX12_isMatch 72 = .ok (.aload_n 0, 1) := by decide +kernel
theorem dX12_isMatch_73 : decode cX12_isMatch 73 = .ok (.iload 4, 2) := by decide +kernel
theorem dX12_isMatch_75 : decode cX12_isMatch 75 = .ok (.iload 5, 2) := by decide +kernel
theorem dX12_isMatch_77 : decode cX12_isMatch 77 = .ok (.invokevirtual 139, 3) := by decide +kernel
theorem dX12_isMatch_80 : decode cX12_isMatch 80 = .ok (.ifCond .eq 17, 3) := by decide +kernel
theorem dX12_isMatch_83 : decode cX12_isMatch 83 = .ok (.aload_n 0, 1) := by decide +kernel
theorem dX12_isMatch_84 : decode cX12_isMatch 84 = .ok (.iload 5, 2) := by decide +kernel
theorem dX12_isMatch_86 : decode cX12_isMatch 86 = .ok (.invokevirtual 161, 3) := by decide +kernel
theorem dX12_isMatch_89 : decode cX12_isMatch 89 = .ok (.iconst (-1), 1) := by decide +kernel
theorem dX12_isMatch_90 : decode cX12_isMatch 90 = .ok (.if_icmp .ne 7, 3) := by decide +kernel
theorem dX12_isMatch_93 : decode cX12_isMatch 93 = .ok (.iconst 1, 1) := by decide +kernel
theorem dX12_isMatch_94 : decode cX12_isMatch 94 = .ok (.goto 4, 3) := by decide +kernel
theorem dX12_isMatch_97 : decode cX12_isMatch 97 = .ok (.iconst 0, 1) := by decide +kernel
theorem dX12_isMatch_98 : decode cX12_isMatch 98 = .ok (.istore_n 3, 1) := by decide +kernel
theorem dX12_isMatch_99 : decode cX12_isMatch 99 = .ok (.iload_n 2, 1) := by decide +kernel
end
section
theorem dX12_isMatch_100 : decode cX12_isMatch 100 = .ok (.iconst 1, 1) := by decide +kernel
theorem dX12_isMatch_101 : decode cX12_isMatch 101 = .ok (.iload 5, 2) := by decide +kernel
theorem dX12_isMatch_103 : decode cX12_isMatch 103 = .ok (.ishl, 1) := by decide +kernel
theorem dX12_isMatch_104 : decode cX12_isMatch 104 = .ok (.ior, 1) := by decide +kernel
theorem dX12_isMatch_105 : decode cX12_isMatch 105 = .ok (.istore_n 2, 1) := by decide +kernel
theorem dX12_isMatch_106 : decode cX12_isMatch 106 = .ok (.aload_n 0, 1) := by decide +kernel
theorem dX12_isMatch_107 : decode cX12_isMatch 107 = .ok (.dup, 1) := by decide +kernel
theorem dX12_isMatch_108 : decode cX12_isMatch 108 = .ok (.getfield 179, 3) := by decide +kernel
theorem dX12_isMatch_111 : decode cX12_isMatch 111 = .ok (.iconst 1, 1) := by decide +kernel
theorem dX12_isMatch_112 : decode cX12_isMatch 112 = .ok (.iadd, 1) := by decide +kernel
theorem dX12_isMatch_113 : decode cX12_isMatch 113 = .ok (.putfield 179, 3) := by decide +kernel
theorem dX12_isMatch_116 : decode cX12_isMatch 116 = .ok (.aload_n 0, 1) := by decide +kernel
theorem dX12_isMatch_117 : decode cX12_isMatch 117 = .ok (.dup, 1) := by decide +kernel
theorem dX12_isMatch_118 : decode cX12_isMatch 118 = .ok (.getfield 182, 3) := by decide +kernel
theorem dX12_isMatch_121 : decode cX12_isMatch 121 = .ok (.iload_n 3, 1) := by decide +kernel
theorem dX12_isMatch_122 : decode cX12_isMatch 122 = .ok (.ifCond .eq 13, 3) := by decide +kernel
theorem dX12_isMatch_125 : decode cX12_isMatch 125 = .ok (.aload_n 0, 1) := by decide +kernel
theorem dX12_isMatch_126 : decode cX12_isMatch 126 = .ok (.getfield 25, 3) := by decide +kernel
theorem dX12_isMatch_129 : decode cX12_isMatch 129 = .ok (.iload 5, 2) := by decide +kernel
theorem dX12_isMatch_131 : decode cX12_isMatch 131 = .ok (.iaload, 1) := by decide +kernel
theorem dX12_isMatch_132 : decode cX12_isMatch 132 = .ok (.goto 4, 3) := by decide +kernel
theorem dX12_isMatch_135 : decode cX12_isMatch 135 = .ok (.iconst 0, 1) := by decide +kernel
theorem dX12_isMatch_136 : decode cX12_isMatch 136 = .ok (.iadd, 1) := by decide +kernel
theorem dX12_isMatch_137 : decode cX12_isMatch 137 = .ok (.putfield 182, 3) := by decide +kernel
theorem dX12_isMatch_140 : decode cX12_isMatch 140 = .ok (.iinc 4 1, 3) := by decide +kernel
theorem dX12_isMatch_143 : decode cX12_isMatch 143 = .ok (.goto (-126), 3) := by decide +kernel
theorem dX12_isMatch_146 : decode cX12_isMatch 146 = .ok (.iload_n 3, 1) := by decide +kernel
theorem dX12_isMatch_147 : decode cX12_isMatch 147 = .ok (.ireturn, 1) := by decide +kernel
theorem dX12_matchNow_0 : decode cX12_matchNow 0 = .ok (.iconst 0, 1) := by decide +kernel
theorem dX12_matchNow_1 : decode cX12_matchNow 1 = .ok (.istore_n 2, 1) := by decide +kernel
theorem dX12_matchNow_2 : decode cX12_matchNow 2 = .ok (.iconst 0, 1) := by decide +kernel
theorem dX12_matchNow_3 : decode cX12_matchNow 3 = .ok (.istore_n 3, 1) := by decide +kernel
theorem dX12_matchNow_4 : decode cX12_matchNow 4 = .ok (.iconst 0, 1) := by decide +kernel
theorem dX12_matchNow_5 : decode cX12_matchNow 5 = .ok (.istore 4, 2) := by decide +kernel
theorem dX12_matchNow_7 : decode cX12_matchNow 7 = .ok (.iconst 0, 1) := by decide +kernel
theorem dX12_matchNow_8 : decode cX12_matchNow 8 = .ok (.istore 5, 2) := by decide +kernel
theorem dX12_matchNow_10 : decode cX12_matchNow 10 = .ok (.iload 5, 2) := by decide +kernel
theorem dX12_matchNow_12 : decode cX12_matchNow 12 = .ok (.aload_n 0, 1) := by decide +kernel
theorem dX12_matchNow_13 : decode cX12_matchNow 13 = .ok (.invokevirtual 191, 3) := by decide +kernel
theorem dX12_matchNow_16 : decode cX12_matchNow 16 = .ok (.if_icmp .ge 92, 3) := by decide +kernel
theorem dX12_matchNow_19 : decode cX12_matchNow 19 = .ok (.aload_n 0, 1) := by decide +kernel
theorem dX12_matchNow_20 : decode cX12_matchNow 20 = .ok (.iload 5, 2) := by decide +kernel
theorem dX12_matchNow_22 : decode cX12_matchNow 22 = .ok (.invokevirtual 194, 3) := by decide +kernel
theorem dX12_matchNow_25 : decode cX12_matchNow 25 = .ok (.ifCond .eq 32, 3) := by decide +kernel
theorem dX12_matchNow_28 : decode cX12_matchNow 28 = .ok (.aload_n 0, 1) := by decide +kernel
theorem dX12_matchNow_29 : decode cX12_matchNow 29 = .ok (.getfield 179, 3) := by decide +kernel
theorem dX12_matchNow_32 : decode cX12_matchNow 32 = .ok (.iload_n 3, 1) := by decide +kernel
theorem dX12_matchNow_33 : decode cX12_matchNow 33 = .ok (.if_icmp .gt 20, 3) := by decide +kernel
theorem dX12_matchNow_36 : decode cX12_matchNow 36 = .ok (.aload_n 0, 1) := by decide +kernel
theorem dX12_matchNow_37 : decode cX12_matchNow 37 = .ok (.getfield 179, 3) := by decide +kernel
theorem dX12_matchNow_40 : decode cX12_matchNow 40 = .ok (.iload_n 3, 1) := by decide +kernel
theorem dX12_matchNow_41 : decode cX12_matchNow 41 = .ok (.if_icmp .ne 16, 3) := by decide +kernel
theorem dX12_matchNow_44 : decode cX12_matchNow 44 = .ok (.aload_n 0, 1) := by decide +kernel
theorem dX12_matchNow_45 : decode cX12_matchNow 45 = .ok (.getfield 182, 3) := by decide +kernel
theorem dX12_matchNow_48 : decode cX12_matchNow 48 = .ok (.iload 4, 2) := by decide +kernel
theorem dX12_matchNow_50 : decode cX12_matchNow 50 = .ok (.if_icmp .le 7, 3) := by decide +kernel
theorem dX12_matchNow_53 : decode cX12_matchNow 53 = .ok (.iconst 1, 1) := by decide +kernel
theorem dX12_matchNow_54 : decode cX12_matchNow 54 = .ok (.goto 4, 3) := by decide +kernel
theorem dX12_matchNow_57 : decode cX12_matchNow 57 = .ok (.iconst 0, 1) := by decide +kernel
theorem dX12_matchNow_58 : decode cX12_matchNow 58 = .ok (.istore 6, 2) := by decide +kernel
theorem dX12_matchNow_60 : decode cX12_matchNow 60 = .ok (.iload 6, 2) := by decide +kernel
theorem dX12_matchNow_62 : decode cX12_matchNow 62 = .ok (.ifCond .eq 8, 3) := by decide +kernel
theorem dX12_matchNow_65 : decode cX12_matchNow 65 = .ok (.iload 5, 2) := by decide +kernel
theorem dX12_matchNow_67 : decode cX12_matchNow 67 = .ok (.goto 4, 3) := by decide +kernel
theorem dX12_matchNow_70 : decode cX12_matchNow 70 = .ok (.iload_n 2, 1) := by decide +kernel
theorem dX12_matchNow_71 : decode cX12_matchNow 71 = .ok (.istore_n 2, 1) := by decide +kernel
theorem dX12_matchNow_72 : decode cX12_matchNow 72 = .ok (.iload 6, 2) := by decide +kernel
theorem dX12_matchNow_74 : decode cX12_matchNow 74 = .ok (.ifCond .eq 10, 3) := by decide +kernel
theorem dX12_matchNow_77 : decode cX12_matchNow 77 = .ok (.aload_n 0, 1) := by decide +kernel
theorem dX12_matchNow_78 : decode cX12_matchNow 78 = .ok (.getfield 179, 3) := by decide +kernel
theorem dX12_matchNow_81 : decode cX12_matchNow 81 = .ok (.goto 4, 3) := by decide +kernel
theorem dX12_matchNow_84 : decode cX12_matchNow 84 = .ok (.iload_n 3, 1) := by decide +kernel
theorem dX12_matchNow_85 : decode cX12_matchNow 85 = .ok (.istore_n 3, 1) := by decide +kernel
theorem dX12_matchNow_86 : decode cX12_matchNow 86 = .ok (.iload 6, 2) := by decide +kernel
theorem dX12_matchNow_88 : decode cX12_matchNow 88 = .ok (.ifCond .eq 10, 3) := by decide +kernel
theorem dX12_matchNow_91 : decode cX12_matchNow 91 = .ok (.aload_n 0, 1) := by decide +kernel
theorem dX12_matchNow_92 : decode cX12_matchNow 92 = .ok (.getfield 182, 3) := by decide +kernel
theorem dX12_matchNow_95 : decode cX12_matchNow 95 = .ok (.goto 5, 3) := by decide +kernel
theorem dX12_matchNow_98 : decode cX12_matchNow 98 = .ok (.iload 4, 2) := by decide +kernel
theorem dX12_matchNow_100 : decode cX12_matchNow 100 = .ok (.istore 4, 2) := by decide +kernel
theorem dX12_matchNow_102 : decode cX12_matchNow 102 = .ok (.iinc 5 1, 3) := by decide +kernel
theorem dX12_matchNow_105 : decode cX12_matchNow 105 = .ok (.goto (-95), 3) := by decide +kernel
theorem dX12_matchNow_108 : decode cX12_matchNow 108 = .ok (.iload_n 1, 1) := by decide +kernel
theorem dX12_matchNow_109 : decode cX12_matchNow 109 = .ok (.ifCond .ne 7, 3) := by decide +kernel
theorem dX12_matchNow_112 : decode cX12_matchNow 112 = .ok (.iload_n 3, 1) := by decide +kernel
theorem dX12_matchNow_113 : decode cX12_matchNow 113 = .ok (.goto 37, 3) := by decide +kernel
theorem dX12_matchNow_116 : decode cX12_matchNow 116 = .ok (.iload_n 1, 1) := by decide +kernel
theorem dX12_matchNow_117 : decode cX12_matchNow 117 = .ok (.iconst 1, 1) := by decide +kernel
theorem dX12_matchNow_118 : decode cX12_matchNow 118 = .ok (.if_icmp .ne 8, 3) := by decide +kernel
theorem dX12_matchNow_121 : decode cX12_matchNow 121 = .ok (.iload 4, 2) := by decide +kernel
theorem dX12_matchNow_123 : decode cX12_matchNow 123 = .ok (.goto 27, 3) := by decide +kernel
theorem dX12_matchNow_126 : decode cX12_matchNow 126 = .ok (.aload_n 0, 1) := by decide +kernel
theorem dX12_matchNow_127 : decode cX12_matchNow 127 = .ok (.iload_n 1, 1) := by decide +kernel
theorem dX12_matchNow_128 : decode cX12_matchNow 128 = .ok (.bipush 10, 2) := by decide +kernel
theorem dX12_matchNow_130 : decode cX12_matchNow 130 = .ok (.isub, 1) := by decide +kernel
theorem dX12_matchNow_131 : decode cX12_matchNow 131 = .ok (.invokevirtual 154, 3) := by decide +kernel
theorem dX12_matchNow_134 : decode cX12_matchNow 134 = .ok (.ifCond .eq 15, 3) := by decide +kernel
theorem dX12_matchNow_137 : decode cX12_matchNow 137 = .ok (.aload_n 0, 1) := by decide +kernel
theorem dX12_matchNow_138 : decode cX12_matchNow 138 = .ok (.iload_n 2, 1) := by decide +kernel
theorem dX12_matchNow_139 : decode cX12_matchNow 139 = .ok (.iload_n 1, 1) := by decide +kernel
theorem dX12_matchNow_140 : decode cX12_matchNow 140 = .ok (.bipush 10, 2) := by decide +kernel
theorem dX12_matchNow_142 : decode cX12_matchNow 142 = .ok (.isub, 1) := by decide +kernel
theorem dX12_matchNow_143 : decode cX12_matchNow 143 = .ok (.invokevirtual 185, 3) := by decide +kernel
theorem dX12_matchNow_146 : decode cX12_matchNow 146 = .ok (.goto 4, 3) := by decide +kernel
theorem dX12_matchNow_149 : decode cX12_matchNow 149 = .ok (.iconst (-1), 1) := by decide +kernel
theorem dX12_matchNow_150 : decode cX12_matchNow 150 = .ok (.ireturn, 1) := by decide +kernel
theorem dX12_match_0 : decode cX12_match 0 = .ok (.iload_n 1, 1) := by decide +kernel
theorem dX12_match_1 : decode cX12_match 1 = .ok (.iconst 0, 1) := by decide +kernel
theorem dX12_match_2 : decode cX12_match 2 = .ok (.iconst 1, 1) := by decide +kernel
theorem dX12_match_3 : decode cX12_match 3 = .ok (.invokestatic 71, 3) := by decide +kernel
theorem dX12_match_6 : decode cX12_match 6 = .ok (.ifCond .ne 17, 3) := by decide +kernel
theorem dX12_match_9 : decode cX12_match 9 = .ok (.iload_n 1, 1) := by decide +kernel
theorem dX12_match_10 : decode cX12_match 10 = .ok (.bipush 10, 2) := by decide +kernel
theorem dX12_match_12 : decode cX12_match 12 = .ok (.bipush 13, 2) := by decide +kernel
theorem dX12_match_14 : decode cX12_match 14 = .ok (.invokestatic 71, 3) := by decide +kernel
theorem dX12_match_17 : decode cX12_match 17 = .ok (.ifCond .ne 6, 3) := by decide +kernel
theorem dX12_match_20 : decode cX12_match 20 = .ok (.bipush (-102), 2) := by decide +kernel
theorem dX12_match_22 : decode cX12_match 22 = .ok (.ireturn, 1) := by decide +kernel
theorem dX12_match_23 : decode cX12_match 23 = .ok (.aload_n 0, 1) := by decide +kernel
theorem dX12_match_24 : decode cX12_match 24 = .ok (.getfield 106, 3) := by decide +kernel
theorem dX12_match_27 : decode cX12_match 27 = .ok (.ifCond .ne 8, 3) := by decide +kernel
theorem dX12_match_30 : decode cX12_match 30 = .ok (.bipush (-103), 2) := by decide +kernel
theorem dX12_match_32 : decode cX12_match 32 = .ok (.goto 8, 3) := by decide +kernel
theorem dX12_match_35 : decode cX12_match 35 = .ok (.aload_n 0, 1) := by decide +kernel
theorem dX12_match_36 : decode cX12_match 36 = .ok (.iload_n 1, 1) := by decide +kernel
theorem dX12_match_37 : decode cX12_match 37 = .ok (.invokevirtual 197, 3) := by decide +kernel
theorem dX12_match_40 : decode cX12_match 40 = .ok (.ireturn, 1) := by decide +kernel
theorem dX12_freeCrimes_0 : decode cX12_freeCrimes 0 = .ok (.iconst 0, 1) := by decide +kernel
theorem dX12_freeCrimes_1 : decode cX12_freeCrimes 1 = .ok (.istore_n 1, 1) := by decide +kernel
theorem dX12_freeCrimes_2 : decode cX12_freeCrimes 2 = .ok (.iconst 0, 1) := by decide +kernel
theorem dX12_freeCrimes_3 : decode cX12_freeCrimes 3 = .ok (.istore_n 2, 1) := by decide +kernel
theorem dX12_freeCrimes_4 : decode cX12_freeCrimes 4 = .ok (.iload_n 2, 1) := by decide +kernel
theorem dX12_freeCrimes_5 : decode cX12_freeCrimes 5 = .ok (.aload_n 0, 1) := by decide +kernel
theorem dX12_freeCrimes_6 : decode cX12_freeCrimes 6 = .ok (.getfield 109, 3) := by decide +kernel
theorem dX12_freeCrimes_9 : decode cX12_freeCrimes 9 = .ok (.if_icmp .ge 26, 3) := by decide +kernel
theorem dX12_freeCrimes_12 : decode cX12_freeCrimes 12 = .ok (.iload_n 1, 1) := by decide +kernel
theorem dX12_freeCrimes_13 : decode cX12_freeCrimes 13 = .ok (.aload_n 0, 1) := by decide +kernel
theorem dX12_freeCrimes_14 : decode cX12_freeCrimes 14 = .ok (.iload_n 2, 1) := by decide +kernel
theorem dX12_freeCrimes_15 : decode cX12_freeCrimes 15 = .ok (.invokevirtual 161, 3) := by decide +kernel
theorem dX12_freeCrimes_18 : decode cX12_freeCrimes 18 = .ok (.iconst (-1), 1) := by decide +kernel
theorem dX12_freeCrimes_19 : decode cX12_freeCrimes 19 = .ok (.if_icmp .ne 7, 3) := by decide +kernel
theorem dX12_freeCrimes_22 : decode cX12_freeCrimes 22 = .ok (.iconst 1, 1) := by decide +kernel
theorem dX12_freeCrimes_23 : decode cX12_freeCrimes 23 = .ok (.goto 4, 3) := by decide +kernel
theorem dX12_freeCrimes_26 : decode cX12_freeCrimes 26 = .ok (.iconst 0, 1) := by decide +kernel
theorem dX12_freeCrimes_27 : decode cX12_freeCrimes 27 = .ok (.iadd, 1) := by decide +kernel
theorem dX12_freeCrimes_28 : decode cX12_freeCrimes 28 = .ok (.istore_n 1, 1) := by decide +kernel
theorem dX12_freeCrimes_29 : decode cX12_freeCrimes 29 = .ok (.iinc 2 1, 3) := by decide +kernel
theorem dX12_freeCrimes_32 : decode cX12_freeCrimes 32 = .ok (.goto (-28), 3) := by decide +kernel
theorem dX12_freeCrimes_35 : decode cX12_freeCrimes 35 = .ok (.iload_n 1, 1) := by decide +kernel
theorem dX12_freeCrimes_36 : decode cX12_freeCrimes 36 = .ok (.ireturn, 1) := by decide +kernel
theorem dX12_alterBy_0 : decode cX12_alterBy 0 = .ok (.iload_n 1, 1) := by decide +kernel
theorem dX12_alterBy_1 : decode cX12_alterBy 1 = .ok (.istore_n 2, 1) := by decide +kernel
theorem dX12_alterBy_2 : decode cX12_alterBy 2 = .ok (.iconst 0, 1) := by decide +kernel
theorem dX12_alterBy_3 : decode cX12_alterBy 3 = .ok (.istore_n 3, 1) := by decide +kernel
theorem dX12_alterBy_4 : decode cX12_alterBy 4 = .ok (.iconst 1, 1) := by decide +kernel
theorem dX12_alterBy_5 : decode cX12_alterBy 5 = .ok (.istore 4, 2) := by decide +kernel
theorem dX12_alterBy_7 : decode cX12_alterBy 7 = .ok (.iconst 0, 1) := by decide +kernel
theorem dX12_alterBy_8 : decode cX12_alterBy 8 = .ok (.istore 5, 2) := by decide +kernel
theorem dX12_alterBy_10 : decode cX12_alterBy 10 = .ok (.iload 5, 2) := by decide +kernel
theorem dX12_alterBy_12 : decode cX12_alterBy 12 = .ok (.aload_n 0, 1) := by decide +kernel
theorem dX12_alterBy_13 : decode cX12_alterBy 13 = .ok (.getfield 109, 3) := by decide +kernel
theorem dX12_alterBy_16 : decode cX12_alterBy 16 = .ok (.if_icmp .ge 99, 3) := by decide +kernel
theorem dX12_alterBy_19 : decode cX12_alterBy 19 = .ok (.iload_n 2, 1) := by decide +kernel
theorem dX12_alterBy_20 : decode cX12_alterBy 20 = .ok (.iconst 5, 1) := by decide +kernel
theorem dX12_alterBy_21 : decode cX12_alterBy 21 = .ok (.irem, 1) := by decide +kernel
theorem dX12_alterBy_22 : decode cX12_alterBy 22 = .ok (.iconst 2, 1) := by decide +kernel
theorem dX12_alterBy_23 : decode cX12_alterBy 23 = .ok (.isub, 1) := by decide +kernel
theorem dX12_alterBy_24 : decode cX12_alterBy 24 = .ok (.istore 6, 2) := by decide +kernel
theorem dX12_alterBy_26 : decode cX12_alterBy 26 = .ok (.iload_n 2, 1) := by decide +kernel
theorem dX12_alterBy_27 : decode cX12_alterBy 27 = .ok (.iconst 5, 1) := by decide +kernel
theorem dX12_alterBy_28 : decode cX12_alterBy 28 = .ok (.idiv, 1) := by decide +kernel
theorem dX12_alterBy_29 : decode cX12_alterBy 29 = .ok (.istore_n 2, 1) := by decide +kernel
theorem dX12_alterBy_30 : decode cX12_alterBy 30 = .ok (.iload 4, 2) := by decide +kernel
theorem dX12_alterBy_32 : decode cX12_alterBy 32 = .ok (.ifCond .eq 41, 3) := by decide +kernel
theorem dX12_alterBy_35 : decode cX12_alterBy 35 = .ok (.iload 6, 2) := by decide +kernel
theorem dX12_alterBy_37 : decode cX12_alterBy 37 = .ok (.ifCond .eq 13, 3) := by decide +kernel
theorem dX12_alterBy_40 : decode cX12_alterBy 40 = .ok (.aload_n 0, 1) := by decide +kernel
theorem dX12_alterBy_41 : decode cX12_alterBy 41 = .ok (.iload 5, 2) := by decide +kernel
theorem dX12_alterBy_43 : decode cX12_alterBy 43 = .ok (.invokevirtual 161, 3) := by decide +kernel
theorem dX12_alterBy_46 : decode cX12_alterBy 46 = .ok (.iconst (-1), 1) := by decide +kernel
theorem dX12_alterBy_47 : decode cX12_alterBy 47 = .ok (.if_icmp .ne 26, 3) := by decide +kernel
theorem dX12_alterBy_50 : decode cX12_alterBy 50 = .ok (.aload_n 0, 1) := by decide +kernel
theorem dX12_alterBy_51 : decode cX12_alterBy 51 = .ok (.getfield 47, 3) := by decide +kernel
theorem dX12_alterBy_54 : decode cX12_alterBy 54 = .ok (.iload 5, 2) := by decide +kernel
theorem dX12_alterBy_56 : decode cX12_alterBy 56 = .ok (.iaload, 1) := by decide +kernel
theorem dX12_alterBy_57 : decode cX12_alterBy 57 = .ok (.iload 6, 2) := by decide +kernel
theorem dX12_alterBy_59 : decode cX12_alterBy 59 = .ok (.iadd, 1) := by decide +kernel
theorem dX12_alterBy_60 : decode cX12_alterBy 60 = .ok (.iconst 1, 1) := by decide +kernel
theorem dX12_alterBy_61 : decode cX12_alterBy 61 = .ok (.bipush 9, 2) := by decide +kernel
theorem dX12_alterBy_63 : decode cX12_alterBy 63 = .ok (.invokestatic 71, 3) := by decide +kernel
theorem dX12_alterBy_66 : decode cX12_alterBy 66 = .ok (.ifCond .eq 7, 3) := by decide +kernel
theorem dX12_alterBy_69 : decode cX12_alterBy 69 = .ok (.iconst 1, 1) := by decide +kernel
theorem dX12_alterBy_70 : decode cX12_alterBy 70 = .ok (.goto 4, 3) := by decide +kernel
theorem dX12_alterBy_73 : decode cX12_alterBy 73 = .ok (.iconst 0, 1) := by decide +kernel
theorem dX12_alterBy_74 : decode cX12_alterBy 74 = .ok (.istore 4, 2) := by decide +kernel
theorem dX12_alterBy_76 : decode cX12_alterBy 76 = .ok (.aload_n 0, 1) := by decide +kernel
theorem dX12_alterBy_77 : decode cX12_alterBy 77 = .ok (.getfield 19, 3) := by decide +kernel
theorem dX12_alterBy_80 : decode cX12_alterBy 80 = .ok (.iload 5, 2) := by decide +kernel
theorem dX12_alterBy_82 : decode cX12_alterBy 82 = .ok (.aload_n 0, 1) := by decide +kernel
theorem dX12_alterBy_83 : decode cX12_alterBy 83 = .ok (.getfield 47, 3) := by decide +kernel
theorem dX12_alterBy_86 : decode cX12_alterBy 86 = .ok (.iload 5, 2) := by decide +kernel
theorem dX12_alterBy_88 : decode cX12_alterBy 88 = .ok (.iaload, 1) := by decide +kernel
theorem dX12_alterBy_89 : decode cX12_alterBy 89 = .ok (.iload 6, 2) := by decide +kernel
theorem dX12_alterBy_91 : decode cX12_alterBy 91 = .ok (.iadd, 1) := by decide +kernel
theorem dX12_alterBy_92 : decode cX12_alterBy 92 = .ok (.iastore, 1) := by decide +kernel
theorem dX12_alterBy_93 : decode cX12_alterBy 93 = .ok (.iload_n 3, 1) := by decide +kernel
theorem dX12_alterBy_94 : decode cX12_alterBy 94 = .ok (.iload 6, 2) := by decide +kernel
theorem dX12_alterBy_96 : decode cX12_alterBy 96 = .ok (.ifCond .ge 9, 3) := by decide +kernel
theorem dX12_alterBy_99 : decode cX12_alterBy 99 = .ok (.iload 6, 2) := by decide +kernel
theorem dX12_alterBy_101 : decode cX12_alterBy 101 = .ok (.ineg, 1) := by decide +kernel
theorem dX12_alterBy_102 : decode cX12_alterBy 102 = .ok (.goto 5, 3) := by decide +kernel
theorem dX12_alterBy_105 : decode cX12_alterBy 105 = .ok (.iload 6, 2) := by decide +kernel
theorem dX12_alterBy_107 : decode cX12_alterBy 107 = .ok (.iadd, 1) := by decide +kernel
theorem dX12_alterBy_108 : decode cX12_alterBy 108 = .ok (.istore_n 3, 1) := by decide +kernel
theorem dX12_alterBy_109 : decode cX12_alterBy 109 = .ok (.iinc 5 1, 3) := by decide +kernel
theorem dX12_alterBy_112 : decode cX12_alterBy 112 = .ok (.goto (-102), 3) := by decide +kernel
theorem dX12_alterBy_115 : decode cX12_alterBy 115 = .ok (.iload 4, 2) := by decide +kernel
theorem dX12_alterBy_117 : decode cX12_alterBy 117 = .ok (.ifCond .eq 7, 3) := by decide +kernel
theorem dX12_alterBy_120 : decode cX12_alterBy 120 = .ok (.iload_n 3, 1) := by decide +kernel
theorem dX12_alterBy_121 : decode cX12_alterBy 121 = .ok (.goto 4, 3) := by decide +kernel
theorem dX12_alterBy_124 : decode cX12_alterBy 124 = .ok (.iconst (-1), 1) := by decide +kernel
theorem dX12_alterBy_125 : decode cX12_alterBy 125 = .ok (.ireturn, 1) := by decide +kernel
theorem dX12_stitchesNow_0 : decode cX12_stitchesNow 0 = .ok (.aload_n 0, 1) := by decide +kernel
theorem dX12_stitchesNow_1 : decode cX12_stitchesNow 1 = .ok (.invokevirtual 200, 3) := by decide +kernel
theorem dX12_stitchesNow_4 : decode cX12_stitchesNow 4 = .ok (.istore_n 1, 1) := by decide +kernel
theorem dX12_stitchesNow_5 : decode cX12_stitchesNow 5 = .ok (.ldc 203, 2) := by decide +kernel
theorem dX12_stitchesNow_7 : decode cX12_stitchesNow 7 = .ok (.istore_n 2, 1) := by decide +kernel
theorem dX12_stitchesNow_8 : decode cX12_stitchesNow 8 = .ok (.iconst 0, 1) := by decide +kernel
theorem dX12_stitchesNow_9 : decode cX12_stitchesNow 9 = .ok (.istore_n 3, 1) := by decide +kernel
theorem dX12_stitchesNow_10 : decode cX12_stitchesNow 10 = .ok (.iload_n 3, 1) := by decide +kernel
theorem dX12_stitchesNow_11 : decode cX12_stitchesNow 11 = .ok (.aload_n 0, 1) := by decide +kernel
theorem dX12_stitchesNow_12 : decode cX12_stitchesNow 12 = .ok (.getfield 109, 3) := by decide +kernel
theorem dX12_stitchesNow_15 : decode cX12_stitchesNow 15 = .ok (.if_icmp .ge 21, 3) := by decide +kernel
theorem dX12_stitchesNow_18 : decode cX12_stitchesNow 18 = .ok (.aload_n 0, 1) := by decide +kernel
theorem dX12_stitchesNow_19 : decode cX12_stitchesNow 19 = .ok (.getfield 47, 3) := by decide +kernel
theorem dX12_stitchesNow_22 : decode cX12_stitchesNow 22 = .ok (.iload_n 3, 1) := by decide +kernel
theorem dX12_stitchesNow_23 : decode cX12_stitchesNow 23 = .ok (.aload_n 0, 1) := by decide +kernel
theorem dX12_stitchesNow_24 : decode cX12_stitchesNow 24 = .ok (.getfield 19, 3) := by decide +kernel
theorem dX12_stitchesNow_27 : decode cX12_stitchesNow 27 = .ok (.iload_n 3, 1) := by decide +kernel
theorem dX12_stitchesNow_28 : decode cX12_stitchesNow 28 = .ok (.iaload, 1) := by decide +kernel
theorem dX12_stitchesNow_29 : decode cX12_stitchesNow 29 = .ok (.iastore, 1) := by decide +kernel
theorem dX12_stitchesNow_30 : decode cX12_stitchesNow 30 = .ok (.iinc 3 1, 3) := by decide +kernel
theorem dX12_stitchesNow_33 : decode cX12_stitchesNow 33 = .ok (.goto (-23), 3) := by decide +kernel
theorem dX12_stitchesNow_36 : decode cX12_stitchesNow 36 = .ok (.iconst 1, 1) := by decide +kernel
theorem dX12_stitchesNow_37 : decode cX12_stitchesNow 37 = .ok (.istore_n 3, 1) := by decide +kernel
theorem dX12_stitchesNow_38 : decode cX12_stitchesNow 38 = .ok (.iconst 0, 1) := by decide +kernel
theorem dX12_stitchesNow_39 : decode cX12_stitchesNow 39 = .ok (.istore 4, 2) := by decide +kernel
theorem dX12_stitchesNow_41 : decode cX12_stitchesNow 41 = .ok (.iload 4, 2) := by decide +kernel
theorem dX12_stitchesNow_43 : decode cX12_stitchesNow 43 = .ok (.aload_n 0, 1) := by decide +kernel
theorem dX12_stitchesNow_44 : decode cX12_stitchesNow 44 = .ok (.getfield 109, 3) := by decide +kernel
theorem dX12_stitchesNow_47 : decode cX12_stitchesNow 47 = .ok (.if_icmp .ge 13, 3) := by decide +kernel
theorem dX12_stitchesNow_50 : decode cX12_stitchesNow 50 = .ok (.iload_n 3, 1) := by decide +kernel
theorem dX12_stitchesNow_51 : decode cX12_stitchesNow 51 = .ok (.iconst 5, 1) := by decide +kernel
theorem dX12_stitchesNow_52 : decode cX12_stitchesNow 52 = .ok (.imul, 1) := by decide +kernel
theorem dX12_stitchesNow_53 : decode cX12_stitchesNow 53 = .ok (.istore_n 3, 1) := by decide +kernel
theorem dX12_stitchesNow_54 : decode cX12_stitchesNow 54 = .ok (.iinc 4 1, 3) := by decide +kernel
theorem dX12_stitchesNow_57 : decode cX12_stitchesNow 57 = .ok (.goto (-16), 3) := by decide +kernel
theorem dX12_stitchesNow_60 : decode cX12_stitchesNow 60 = .ok (.iconst 0, 1) := by decide +kernel
theorem dX12_stitchesNow_61 : decode cX12_stitchesNow 61 = .ok (.istore 4, 2) := by decide +kernel
theorem dX12_stitchesNow_63 : decode cX12_stitchesNow 63 = .ok (.iload 4, 2) := by decide +kernel
theorem dX12_stitchesNow_65 : decode cX12_stitchesNow 65 = .ok (.iload_n 3, 1) := by decide +kernel
theorem dX12_stitchesNow_66 : decode cX12_stitchesNow 66 = .ok (.if_icmp .ge 45, 3) := by decide +kernel
theorem dX12_stitchesNow_69 : decode cX12_stitchesNow 69 = .ok (.aload_n 0, 1) := by decide +kernel
theorem dX12_stitchesNow_70 : decode cX12_stitchesNow 70 = .ok (.iload 4, 2) := by decide +kernel
theorem dX12_stitchesNow_72 : decode cX12_stitchesNow 72 = .ok (.invokevirtual 204, 3) := by decide +kernel
theorem dX12_stitchesNow_75 : decode cX12_stitchesNow 75 = .ok (.istore 5, 2) := by decide +kernel
theorem dX12_stitchesNow_77 : decode cX12_stitchesNow 77 = .ok (.iload 5, 2) := by decide +kernel
theorem dX12_stitchesNow_79 : decode cX12_stitchesNow 79 = .ok (.iconst (-1), 1) := by decide +kernel
theorem dX12_stitchesNow_80 : decode cX12_stitchesNow 80 = .ok (.if_icmp .eq 23, 3) := by decide +kernel
theorem dX12_stitchesNow_83 : decode cX12_stitchesNow 83 = .ok (.iload 5, 2) := by decide +kernel
theorem dX12_stitchesNow_85 : decode cX12_stitchesNow 85 = .ok (.iload_n 2, 1) := by decide +kernel
theorem dX12_stitchesNow_86 : decode cX12_stitchesNow 86 = .ok (.if_icmp .ge 17, 3) := by decide +kernel
theorem dX12_stitchesNow_89 : decode cX12_stitchesNow 89 = .ok (.aload_n 0, 1) := by decide +kernel
theorem dX12_stitchesNow_90 : decode cX12_stitchesNow 90 = .ok (.iconst 0, 1) := by decide +kernel
theorem dX12_stitchesNow_91 : decode cX12_stitchesNow 91 = .ok (.invokevirtual 197, 3) := by decide +kernel
theorem dX12_stitchesNow_94 : decode cX12_stitchesNow 94 = .ok (.iload_n 1, 1) := by decide +kernel
theorem dX12_stitchesNow_95 : decode cX12_stitchesNow 95 = .ok (.if_icmp .ne 8, 3) := by decide +kernel
theorem dX12_stitchesNow_98 : decode cX12_stitchesNow 98 = .ok (.iload 5, 2) := by decide +kernel
theorem dX12_stitchesNow_100 : decode cX12_stitchesNow 100 = .ok (.goto 4, 3) := by decide +kernel
theorem dX12_stitchesNow_103 : decode cX12_stitchesNow 103 = .ok (.iload_n 2, 1) := by decide +kernel
theorem dX12_stitchesNow_104 : decode cX12_stitchesNow 104 = .ok (.istore_n 2, 1) := by decide +kernel
theorem dX12_stitchesNow_105 : decode cX12_stitchesNow 105 = .ok (.iinc 4 1, 3) := by decide +kernel
theorem dX12_stitchesNow_108 : decode cX12_stitchesNow 108 = .ok (.goto (-45), 3) := by decide +kernel
theorem dX12_stitchesNow_111 : decode cX12_stitchesNow 111 = .ok (.iconst 0, 1) := by decide +kernel
theorem dX12_stitchesNow_112 : decode cX12_stitchesNow 112 = .ok (.istore 4, 2) := by decide +kernel
theorem dX12_stitchesNow_114 : decode cX12_stitchesNow 114 = .ok (.iload 4, 2) := by decide +kernel
theorem dX12_stitchesNow_116 : decode cX12_stitchesNow 116 = .ok (.aload_n 0, 1) := by decide +kernel
theorem dX12_stitchesNow_117 : decode cX12_stitchesNow 117 = .ok (.getfield 109, 3) := by decide +kernel
theorem dX12_stitchesNow_120 : decode cX12_stitchesNow 120 = .ok (.if_icmp .ge 23, 3) := by decide +kernel
theorem dX12_stitchesNow_123 : decode cX12_stitchesNow 123 = .ok (.aload_n 0, 1) := by decide +kernel
theorem dX12_stitchesNow_124 : decode cX12_stitchesNow 124 = .ok (.getfield 19, 3) := by decide +kernel
theorem dX12_stitchesNow_127 : decode cX12_stitchesNow 127 = .ok (.iload 4, 2) := by decide +kernel
theorem dX12_stitchesNow_129 : decode cX12_stitchesNow 129 = .ok (.aload_n 0, 1) := by decide +kernel
theorem dX12_stitchesNow_130 : decode cX12_stitchesNow 130 = .ok (.getfield 47, 3) := by decide +kernel
theorem dX12_stitchesNow_133 : decode cX12_stitchesNow 133 = .ok (.iload 4, 2) := by decide +kernel
theorem dX12_stitchesNow_135 : decode cX12_stitchesNow 135 = .ok (.iaload, 1) := by decide +kernel
theorem dX12_stitchesNow_136 : decode cX12_stitchesNow 136 = .ok (.iastore, 1) := by decide +kernel
theorem dX12_stitchesNow_137 : decode cX12_stitchesNow 137 = .ok (.iinc 4 1, 3) := by decide +kernel
theorem dX12_stitchesNow_140 : decode cX12_stitchesNow 140 = .ok (.goto (-26), 3) := by decide +kernel
theorem dX12_stitchesNow_143 : decode cX12_stitchesNow 143 = .ok (.iload_n 2, 1) := by decide +kernel
theorem dX12_stitchesNow_144 : decode cX12_stitchesNow 144 = .ok (.ldc 203, 2) := by decide +kernel
theorem dX12_stitchesNow_146 : decode cX12_stitchesNow 146 = .ok (.if_icmp .ne 7, 3) := by decide +kernel
theorem dX12_stitchesNow_149 : decode cX12_stitchesNow 149 = .ok (.iconst (-1), 1) := by decide +kernel
theorem dX12_stitchesNow_150 : decode cX12_stitchesNow 150 = .ok (.goto 4, 3) := by decide +kernel
theorem dX12_stitchesNow_153 : decode cX12_stitchesNow 153 = .ok (.iload_n 2, 1) := by decide +kernel
theorem dX12_stitchesNow_154 : decode cX12_stitchesNow 154 = .ok (.ireturn, 1) := by decide +kernel
theorem dX12_stitches_0 : decode cX12_stitches 0 = .ok (.aload_n 0, 1) := by decide +kernel
theorem dX12_stitches_1 : decode cX12_stitches 1 = .ok (.getfield 106, 3) := by decide +kernel
theorem dX12_stitches_4 : decode cX12_stitches 4 = .ok (.ifCond .eq 12, 3) := by decide +kernel
theorem dX12_stitches_7 : decode cX12_stitches 7 = .ok (.aload_n 0, 1) := by decide +kernel
theorem dX12_stitches_8 : decode cX12_stitches 8 = .ok (.getfield 207, 3) := by decide +kernel
theorem dX12_stitches_11 : decode cX12_stitches 11 = .ok (.bipush 12, 2) := by decide +kernel
theorem dX12_stitches_13 : decode cX12_stitches 13 = .ok (.if_icmp .ne 6, 3) := by decide +kernel
theorem dX12_stitches_16 : decode cX12_stitches 16 = .ok (.bipush (-103), 2) := by decide +kernel
theorem dX12_stitches_18 : decode cX12_stitches 18 = .ok (.ireturn, 1) := by decide +kernel
theorem dX12_stitches_19 : decode cX12_stitches 19 = .ok (.aload_n 0, 1) := by decide +kernel
theorem dX12_stitches_20 : decode cX12_stitches 20 = .ok (.dup, 1) := by decide +kernel
theorem dX12_stitches_21 : decode cX12_stitches 21 = .ok (.getfield 207, 3) := by decide +kernel
theorem dX12_stitches_24 : decode cX12_stitches 24 = .ok (.iconst 1, 1) := by decide +kernel
theorem dX12_stitches_25 : decode cX12_stitches 25 = .ok (.iadd, 1) := by decide +kernel
theorem dX12_stitches_26 : decode cX12_stitches 26 = .ok (.putfield 207, 3) := by decide +kernel
theorem dX12_stitches_29 : decode cX12_stitches 29 = .ok (.aload_n 0, 1) := by decide +kernel
theorem dX12_stitches_30 : decode cX12_stitches 30 = .ok (.invokevirtual 210, 3) := by decide +kernel
theorem dX12_stitches_33 : decode cX12_stitches 33 = .ok (.ireturn, 1) := by decide +kernel
theorem dX12_tried_0 : decode cX12_tried 0 = .ok (.aload_n 0, 1) := by decide +kernel
theorem dX12_tried_1 : decode cX12_tried 1 = .ok (.iload_n 1, 1) := by decide +kernel
theorem dX12_tried_2 : decode cX12_tried 2 = .ok (.invokevirtual 154, 3) := by decide +kernel
theorem dX12_tried_5 : decode cX12_tried 5 = .ok (.ifCond .eq 11, 3) := by decide +kernel
theorem dX12_tried_8 : decode cX12_tried 8 = .ok (.aload_n 0, 1) := by decide +kernel
theorem dX12_tried_9 : decode cX12_tried 9 = .ok (.iload_n 2, 1) := by decide +kernel
theorem dX12_tried_10 : decode cX12_tried 10 = .ok (.invokevirtual 170, 3) := by decide +kernel
theorem dX12_tried_13 : decode cX12_tried 13 = .ok (.ifCond .ne 6, 3) := by decide +kernel
theorem dX12_tried_16 : decode cX12_tried 16 = .ok (.bipush (-101), 2) := by decide +kernel
theorem dX12_tried_18 : decode cX12_tried 18 = .ok (.ireturn, 1) := by decide +kernel
theorem dX12_tried_19 : decode cX12_tried 19 = .ok (.aload_n 0, 1) := by decide +kernel
theorem dX12_tried_20 : decode cX12_tried 20 = .ok (.getfield 121, 3) := by decide +kernel
theorem dX12_tried_23 : decode cX12_tried 23 = .ok (.bipush 6, 2) := by decide +kernel
theorem dX12_tried_25 : decode cX12_tried 25 = .ok (.if_icmp .ne 6, 3) := by decide +kernel
theorem dX12_tried_28 : decode cX12_tried 28 = .ok (.bipush (-104), 2) := by decide +kernel
theorem dX12_tried_30 : decode cX12_tried 30 = .ok (.ireturn, 1) := by decide +kernel
theorem dX12_tried_31 : decode cX12_tried 31 = .ok (.aload_n 0, 1) := by decide +kernel
theorem dX12_tried_32 : decode cX12_tried 32 = .ok (.getfield 31, 3) := by decide +kernel
theorem dX12_tried_35 : decode cX12_tried 35 = .ok (.aload_n 0, 1) := by decide +kernel
theorem dX12_tried_36 : decode cX12_tried 36 = .ok (.getfield 121, 3) := by decide +kernel
theorem dX12_tried_39 : decode cX12_tried 39 = .ok (.iload_n 1, 1) := by decide +kernel
theorem dX12_tried_40 : decode cX12_tried 40 = .ok (.iastore, 1) := by decide +kernel
theorem dX12_tried_41 : decode cX12_tried 41 = .ok (.aload_n 0, 1) := by decide +kernel
theorem dX12_tried_42 : decode cX12_tried 42 = .ok (.getfield 34, 3) := by decide +kernel
theorem dX12_tried_45 : decode cX12_tried 45 = .ok (.aload_n 0, 1) := by decide +kernel
theorem dX12_tried_46 : decode cX12_tried 46 = .ok (.getfield 121, 3) := by decide +kernel
theorem dX12_tried_49 : decode cX12_tried 49 = .ok (.aload_n 0, 1) := by decide +kernel
theorem dX12_tried_50 : decode cX12_tried 50 = .ok (.getfield 19, 3) := by decide +kernel
theorem dX12_tried_53 : decode cX12_tried 53 = .ok (.iload_n 2, 1) := by decide +kernel
theorem dX12_tried_54 : decode cX12_tried 54 = .ok (.iaload, 1) := by decide +kernel
theorem dX12_tried_55 : decode cX12_tried 55 = .ok (.iastore, 1) := by decide +kernel
theorem dX12_tried_56 : decode cX12_tried 56 = .ok (.aload_n 0, 1) := by decide +kernel
theorem dX12_tried_57 : decode cX12_tried 57 = .ok (.getfield 37, 3) := by decide +kernel
theorem dX12_tried_60 : decode cX12_tried 60 = .ok (.aload_n 0, 1) := by decide +kernel
theorem dX12_tried_61 : decode cX12_tried 61 = .ok (.getfield 121, 3) := by decide +kernel
theorem dX12_tried_64 : decode cX12_tried 64 = .ok (.aload_n 0, 1) := by decide +kernel
theorem dX12_tried_65 : decode cX12_tried 65 = .ok (.getfield 22, 3) := by decide +kernel
theorem dX12_tried_68 : decode cX12_tried 68 = .ok (.iload_n 2, 1) := by decide +kernel
theorem dX12_tried_69 : decode cX12_tried 69 = .ok (.iaload, 1) := by decide +kernel
theorem dX12_tried_70 : decode cX12_tried 70 = .ok (.iastore, 1) := by decide +kernel
theorem dX12_tried_71 : decode cX12_tried 71 = .ok (.aload_n 0, 1) := by decide +kernel
theorem dX12_tried_72 : decode cX12_tried 72 = .ok (.getfield 40, 3) := by decide +kernel
theorem dX12_tried_75 : decode cX12_tried 75 = .ok (.aload_n 0, 1) := by decide +kernel
theorem dX12_tried_76 : decode cX12_tried 76 = .ok (.getfield 121, 3) := by decide +kernel
theorem dX12_tried_79 : decode cX12_tried 79 = .ok (.iload_n 3, 1) := by decide +kernel
theorem dX12_tried_80 : decode cX12_tried 80 = .ok (.ifCond .eq 7, 3) := by decide +kernel
theorem dX12_tried_83 : decode cX12_tried 83 = .ok (.iconst 1, 1) := by decide +kernel
theorem dX12_tried_84 : decode cX12_tried 84 = .ok (.goto 4, 3) := by decide +kernel
theorem dX12_tried_87 : decode cX12_tried 87 = .ok (.iconst 0, 1) := by decide +kernel
theorem dX12_tried_88 : decode cX12_tried 88 = .ok (.iastore, 1) := by decide +kernel
theorem dX12_tried_89 : decode cX12_tried 89 = .ok (.aload_n 0, 1) := by decide +kernel
theorem dX12_tried_90 : decode cX12_tried 90 = .ok (.dup, 1) := by decide +kernel
theorem dX12_tried_91 : decode cX12_tried 91 = .ok (.getfield 121, 3) := by decide +kernel
theorem dX12_tried_94 : decode cX12_tried 94 = .ok (.iconst 1, 1) := by decide +kernel
theorem dX12_tried_95 : decode cX12_tried 95 = .ok (.iadd, 1) := by decide +kernel
theorem dX12_tried_96 : decode cX12_tried 96 = .ok (.putfield 121, 3) := by decide +kernel
theorem dX12_tried_99 : decode cX12_tried 99 = .ok (.aload_n 0, 1) := by decide +kernel
theorem dX12_tried_100 : decode cX12_tried 100 = .ok (.getfield 121, 3) := by decide +kernel
theorem dX12_tried_103 : decode cX12_tried 103 = .ok (.ireturn, 1) := by decide +kernel
theorem dX12_forget_0 : decode cX12_forget 0 = .ok (.aload_n 0, 1) := by decide +kernel
theorem dX12_forget_1 : decode cX12_forget 1 = .ok (.getfield 121, 3) := by decide +kernel
theorem dX12_forget_4 : decode cX12_forget 4 = .ok (.istore_n 1, 1) := by decide +kernel
theorem dX12_forget_5 : decode cX12_forget 5 = .ok (.aload_n 0, 1) := by decide +kernel
theorem dX12_forget_6 : decode cX12_forget 6 = .ok (.iconst 0, 1) := by decide +kernel
theorem dX12_forget_7 : decode cX12_forget 7 = .ok (.putfield 121, 3) := by decide +kernel
theorem dX12_forget_10 : decode cX12_forget 10 = .ok (.iload_n 1, 1) := by decide +kernel
theorem dX12_forget_11 : decode cX12_forget 11 = .ok (.ireturn, 1) := by decide +kernel
theorem dX12_couldBe_0 : decode cX12_couldBe 0 = .ok (.iconst 1, 1) := by decide +kernel
theorem dX12_couldBe_1 : decode cX12_couldBe 1 = .ok (.istore_n 3, 1) := by decide +kernel
theorem dX12_couldBe_2 : decode cX12_couldBe 2 = .ok (.iconst 0, 1) := by decide +kernel
theorem dX12_couldBe_3 : decode cX12_couldBe 3 = .ok (.istore 4, 2) := by decide +kernel
theorem dX12_couldBe_5 : decode cX12_couldBe 5 = .ok (.iload 4, 2) := by decide +kernel
theorem dX12_couldBe_7 : decode cX12_couldBe 7 = .ok (.aload_n 0, 1) := by decide +kernel
theorem dX12_couldBe_8 : decode cX12_couldBe 8 = .ok (.getfield 121, 3) := by decide +kernel
theorem dX12_couldBe_11 : decode cX12_couldBe 11 = .ok (.if_icmp .ge 69, 3) := by decide +kernel
theorem dX12_couldBe_14 : decode cX12_couldBe 14 = .ok (.iload_n 3, 1) := by decide +kernel
theorem dX12_couldBe_15 : decode cX12_couldBe 15 = .ok (.ifCond .eq 57, 3) := by decide +kernel
theorem dX12_couldBe_18 : decode cX12_couldBe 18 = .ok (.aload_n 0, 1) := by decide +kernel
theorem dX12_couldBe_19 : decode cX12_couldBe 19 = .ok (.getfield 31, 3) := by decide +kernel
theorem dX12_couldBe_22 : decode cX12_couldBe 22 = .ok (.iload 4, 2) := by decide +kernel
theorem dX12_couldBe_24 : decode cX12_couldBe 24 = .ok (.iaload, 1) := by decide +kernel
theorem dX12_couldBe_25 : decode cX12_couldBe 25 = .ok (.iload_n 1, 1) := by decide +kernel
theorem dX12_couldBe_26 : decode cX12_couldBe 26 = .ok (.if_icmp .ne 42, 3) := by decide +kernel
theorem dX12_couldBe_29 : decode cX12_couldBe 29 = .ok (.aload_n 0, 1) := by decide +kernel
theorem dX12_couldBe_30 : decode cX12_couldBe 30 = .ok (.iload_n 1, 1) := by decide +kernel
theorem dX12_couldBe_31 : decode cX12_couldBe 31 = .ok (.iload_n 2, 1) := by decide +kernel
theorem dX12_couldBe_32 : decode cX12_couldBe 32 = .ok (.aload_n 0, 1) := by decide +kernel
theorem dX12_couldBe_33 : decode cX12_couldBe 33 = .ok (.getfield 34, 3) := by decide +kernel
theorem dX12_couldBe_36 : decode cX12_couldBe 36 = .ok (.iload 4, 2) := by decide +kernel
theorem dX12_couldBe_38 : decode cX12_couldBe 38 = .ok (.iaload, 1) := by decide +kernel
theorem dX12_couldBe_39 : decode cX12_couldBe 39 = .ok (.aload_n 0, 1) := by decide +kernel
theorem dX12_couldBe_40 : decode cX12_couldBe 40 = .ok (.getfield 37, 3) := by decide +kernel
theorem dX12_couldBe_43 : decode cX12_couldBe 43 = .ok (.iload 4, 2) := by decide +kernel
theorem dX12_couldBe_45 : decode cX12_couldBe 45 = .ok (.iaload, 1) := by decide +kernel
theorem dX12_couldBe_46 : decode cX12_couldBe 46 = .ok (.invokevirtual 135, 3) := by decide +kernel
theorem dX12_couldBe_49 : decode cX12_couldBe 49 = .ok (.aload_n 0, 1) := by decide +kernel
theorem dX12_couldBe_50 : decode cX12_couldBe 50 = .ok (.getfield 40, 3) := by decide +kernel
theorem dX12_couldBe_53 : decode cX12_couldBe 53 = .ok (.iload 4, 2) := by decide +kernel
theorem dX12_couldBe_55 : decode cX12_couldBe 55 = .ok (.iaload, 1) := by decide +kernel
theorem dX12_couldBe_56 : decode cX12_couldBe 56 = .ok (.iconst 1, 1) := by decide +kernel
theorem dX12_couldBe_57 : decode cX12_couldBe 57 = .ok (.if_icmp .ne 7, 3) := by decide +kernel
theorem dX12_couldBe_60 : decode cX12_couldBe 60 = .ok (.iconst 1, 1) := by decide +kernel
theorem dX12_couldBe_61 : decode cX12_couldBe 61 = .ok (.goto 4, 3) := by decide +kernel
theorem dX12_couldBe_64 : decode cX12_couldBe 64 = .ok (.iconst 0, 1) := by decide +kernel
theorem dX12_couldBe_65 : decode cX12_couldBe 65 = .ok (.if_icmp .ne 7, 3) := by decide +kernel
theorem dX12_couldBe_68 : decode cX12_couldBe 68 = .ok (.iconst 1, 1) := by decide +kernel
theorem dX12_couldBe_69 : decode cX12_couldBe 69 = .ok (.goto 4, 3) := by decide +kernel
theorem dX12_couldBe_72 : decode cX12_couldBe 72 = .ok (.iconst 0, 1) := by decide +kernel
theorem dX12_couldBe_73 : decode cX12_couldBe 73 = .ok (.istore_n 3, 1) := by decide +kernel
theorem dX12_couldBe_74 : decode cX12_couldBe 74 = .ok (.iinc 4 1, 3) := by decide +kernel
theorem dX12_couldBe_77 : decode cX12_couldBe 77 = .ok (.goto (-72), 3) := by decide +kernel
theorem dX12_couldBe_80 : decode cX12_couldBe 80 = .ok (.iload_n 3, 1) := by decide +kernel
theorem dX12_couldBe_81 : decode cX12_couldBe 81 = .ok (.ireturn, 1) := by decide +kernel
theorem dX12_howLarge_0 : decode cX12_howLarge 0 = .ok (.iconst 0, 1) := by decide +kernel
theorem dX12_howLarge_1 : decode cX12_howLarge 1 = .ok (.istore_n 2, 1) := by decide +kernel
theorem dX12_howLarge_2 : decode cX12_howLarge 2 = .ok (.iconst 1, 1) := by decide +kernel
theorem dX12_howLarge_3 : decode cX12_howLarge 3 = .ok (.istore_n 3, 1) := by decide +kernel
theorem dX12_howLarge_4 : decode cX12_howLarge 4 = .ok (.iload_n 3, 1) := by decide +kernel
theorem dX12_howLarge_5 : decode cX12_howLarge 5 = .ok (.bipush 9, 2) := by decide +kernel
theorem dX12_howLarge_7 : decode cX12_howLarge 7 = .ok (.if_icmp .gt 30, 3) := by decide +kernel
theorem dX12_howLarge_10 : decode cX12_howLarge 10 = .ok (.iload_n 2, 1) := by decide +kernel
theorem dX12_howLarge_11 : decode cX12_howLarge 11 = .ok (.aload_n 0, 1) := by decide +kernel
theorem dX12_howLarge_12 : decode cX12_howLarge 12 = .ok (.iload_n 1, 1) := by decide +kernel
theorem dX12_howLarge_13 : decode cX12_howLarge 13 = .ok (.iload_n 3, 1) := by decide +kernel
theorem dX12_howLarge_14 : decode cX12_howLarge 14 = .ok (.invokevirtual 213, 3) := by decide +kernel
theorem dX12_howLarge_17 : decode cX12_howLarge 17 = .ok (.ifCond .eq 11, 3) := by decide +kernel
theorem dX12_howLarge_20 : decode cX12_howLarge 20 = .ok (.iconst 1, 1) := by decide +kernel
theorem dX12_howLarge_21 : decode cX12_howLarge 21 = .ok (.iload_n 3, 1) := by decide +kernel
theorem dX12_howLarge_22 : decode cX12_howLarge 22 = .ok (.iconst 1, 1) := by decide +kernel
theorem dX12_howLarge_23 : decode cX12_howLarge 23 = .ok (.isub, 1) := by decide +kernel
theorem dX12_howLarge_24 : decode cX12_howLarge 24 = .ok (.ishl, 1) := by decide +kernel
theorem dX12_howLarge_25 : decode cX12_howLarge 25 = .ok (.goto 4, 3) := by decide +kernel
theorem dX12_howLarge_28 : decode cX12_howLarge 28 = .ok (.iconst 0, 1) := by decide +kernel
theorem dX12_howLarge_29 : decode cX12_howLarge 29 = .ok (.ior, 1) := by decide +kernel
theorem dX12_howLarge_30 : decode cX12_howLarge 30 = .ok (.istore_n 2, 1) := by decide +kernel
theorem dX12_howLarge_31 : decode cX12_howLarge 31 = .ok (.iinc 3 1, 3) := by decide +kernel
theorem dX12_howLarge_34 : decode cX12_howLarge 34 = .ok (.goto (-30), 3) := by decide +kernel
theorem dX12_howLarge_37 : decode cX12_howLarge 37 = .ok (.iload_n 2, 1) := by decide +kernel
theorem dX12_howLarge_38 : decode cX12_howLarge 38 = .ok (.ireturn, 1) := by decide +kernel
theorem dX12_nextOf_0 : decode cX12_nextOf 0 = .ok (.aload_n 0, 1) := by decide +kernel
theorem dX12_nextOf_1 : decode cX12_nextOf 1 = .ok (.iload_n 1, 1) := by decide +kernel
theorem dX12_nextOf_2 : decode cX12_nextOf 2 = .ok (.invokevirtual 148, 3) := by decide +kernel
theorem dX12_nextOf_5 : decode cX12_nextOf 5 = .ok (.istore_n 2, 1) := by decide +kernel
theorem dX12_nextOf_6 : decode cX12_nextOf 6 = .ok (.iconst (-1), 1) := by decide +kernel
theorem dX12_nextOf_7 : decode cX12_nextOf 7 = .ok (.istore_n 3, 1) := by decide +kernel
theorem dX12_nextOf_8 : decode cX12_nextOf 8 = .ok (.ldc 203, 2) := by decide +kernel
theorem dX12_nextOf_10 : decode cX12_nextOf 10 = .ok (.istore 4, 2) := by decide +kernel
theorem dX12_nextOf_12 : decode cX12_nextOf 12 = .ok (.iconst 0, 1) := by decide +kernel
theorem dX12_nextOf_13 : decode cX12_nextOf 13 = .ok (.istore 5, 2) := by decide +kernel
theorem dX12_nextOf_15 : decode cX12_nextOf 15 = .ok (.iload 5, 2) := by decide +kernel
theorem dX12_nextOf_17 : decode cX12_nextOf 17 = .ok (.aload_n 0, 1) := by decide +kernel
theorem dX12_nextOf_18 : decode cX12_nextOf 18 = .ok (.getfield 109, 3) := by decide +kernel
theorem dX12_nextOf_21 : decode cX12_nextOf 21 = .ok (.if_icmp .ge 145, 3) := by decide +kernel
theorem dX12_nextOf_24 : decode cX12_nextOf 24 = .ok (.iload_n 2, 1) := by decide +kernel
theorem dX12_nextOf_25 : decode cX12_nextOf 25 = .ok (.ifCond .eq 141, 3) := by decide +kernel
theorem dX12_nextOf_28 : decode cX12_nextOf 28 = .ok (.iconst 0, 1) := by decide +kernel
theorem dX12_nextOf_29 : decode cX12_nextOf 29 = .ok (.istore 6, 2) := by decide +kernel
theorem dX12_nextOf_31 : decode cX12_nextOf 31 = .ok (.iconst 0, 1) := by decide +kernel
theorem dX12_nextOf_32 : decode cX12_nextOf 32 = .ok (.istore 7, 2) := by decide +kernel
theorem dX12_nextOf_34 : decode cX12_nextOf 34 = .ok (.iconst 1, 1) := by decide +kernel
theorem dX12_nextOf_35 : decode cX12_nextOf 35 = .ok (.istore 8, 2) := by decide +kernel
theorem dX12_nextOf_37 : decode cX12_nextOf 37 = .ok (.iload 8, 2) := by decide +kernel
theorem dX12_nextOf_39 : decode cX12_nextOf 39 = .ok (.bipush 9, 2) := by decide +kernel
theorem dX12_nextOf_41 : decode cX12_nextOf 41 = .ok (.if_icmp .gt 67, 3) := by decide +kernel
theorem dX12_nextOf_44 : decode cX12_nextOf 44 = .ok (.iload 7, 2) := by decide +kernel
theorem dX12_nextOf_46 : decode cX12_nextOf 46 = .ok (.iload_n 2, 1) := by decide +kernel
theorem dX12_nextOf_47 : decode cX12_nextOf 47 = .ok (.iload 8, 2) := by decide +kernel
theorem dX12_nextOf_49 : decode cX12_nextOf 49 = .ok (.iconst 1, 1) := by decide +kernel
theorem dX12_nextOf_50 : decode cX12_nextOf 50 = .ok (.isub, 1) := by decide +kernel
theorem dX12_nextOf_51 : decode cX12_nextOf 51 = .ok (.ishr, 1) := by decide +kernel
theorem dX12_nextOf_52 : decode cX12_nextOf 52 = .ok (.iconst 1, 1) := by decide +kernel
theorem dX12_nextOf_53 : decode cX12_nextOf 53 = .ok (.iand, 1) := by decide +kernel
theorem dX12_nextOf_54 : decode cX12_nextOf 54 = .ok (.iadd, 1) := by decide +kernel
theorem dX12_nextOf_55 : decode cX12_nextOf 55 = .ok (.istore 7, 2) := by decide +kernel
theorem dX12_nextOf_57 : decode cX12_nextOf 57 = .ok (.iload 6, 2) := by decide +kernel
theorem dX12_nextOf_59 : decode cX12_nextOf 59 = .ok (.iload_n 2, 1) := by decide +kernel
theorem dX12_nextOf_60 : decode cX12_nextOf 60 = .ok (.iload 8, 2) := by decide +kernel
theorem dX12_nextOf_62 : decode cX12_nextOf 62 = .ok (.iconst 1, 1) := by decide +kernel
theorem dX12_nextOf_63 : decode cX12_nextOf 63 = .ok (.isub, 1) := by decide +kernel
theorem dX12_nextOf_64 : decode cX12_nextOf 64 = .ok (.invokestatic 188, 3) := by decide +kernel
theorem dX12_nextOf_67 : decode cX12_nextOf 67 = .ok (.ifCond .eq 31, 3) := by decide +kernel
theorem dX12_nextOf_70 : decode cX12_nextOf 70 = .ok (.aload_n 0, 1) := by decide +kernel
theorem dX12_nextOf_71 : decode cX12_nextOf 71 = .ok (.iload_n 1, 1) := by decide +kernel
theorem dX12_nextOf_72 : decode cX12_nextOf 72 = .ok (.iload 8, 2) := by decide +kernel
theorem dX12_nextOf_74 : decode cX12_nextOf 74 = .ok (.aload_n 0, 1) := by decide +kernel
theorem dX12_nextOf_75 : decode cX12_nextOf 75 = .ok (.getfield 19, 3) := by decide +kernel
theorem dX12_nextOf_78 : decode cX12_nextOf 78 = .ok (.iload 5, 2) := by decide +kernel
theorem dX12_nextOf_80 : decode cX12_nextOf 80 = .ok (.iaload, 1) := by decide +kernel
theorem dX12_nextOf_81 : decode cX12_nextOf 81 = .ok (.aload_n 0, 1) := by decide +kernel
theorem dX12_nextOf_82 : decode cX12_nextOf 82 = .ok (.getfield 22, 3) := by decide +kernel
theorem dX12_nextOf_85 : decode cX12_nextOf 85 = .ok (.iload 5, 2) := by decide +kernel
theorem dX12_nextOf_87 : decode cX12_nextOf 87 = .ok (.iaload, 1) := by decide +kernel
theorem dX12_nextOf_88 : decode cX12_nextOf 88 = .ok (.invokevirtual 135, 3) := by decide +kernel
theorem dX12_nextOf_91 : decode cX12_nextOf 91 = .ok (.ifCond .eq 7, 3) := by decide +kernel
theorem dX12_nextOf_94 : decode cX12_nextOf 94 = .ok (.iconst 1, 1) := by decide +kernel
theorem dX12_nextOf_95 : decode cX12_nextOf 95 = .ok (.goto 4, 3) := by decide +kernel
theorem dX12_nextOf_98 : decode cX12_nextOf 98 = .ok (.iconst 0, 1) := by decide +kernel
theorem dX12_nextOf_99 : decode cX12_nextOf 99 = .ok (.iadd, 1) := by decide +kernel
theorem dX12_nextOf_100 : decode cX12_nextOf 100 = .ok (.istore 6, 2) := by decide +kernel
theorem dX12_nextOf_102 : decode cX12_nextOf 102 = .ok (.iinc 8 1, 3) := by decide +kernel
theorem dX12_nextOf_105 : decode cX12_nextOf 105 = .ok (.goto (-68), 3) := by decide +kernel
theorem dX12_nextOf_108 : decode cX12_nextOf 108 = .ok (.iload 6, 2) := by decide +kernel
theorem dX12_nextOf_110 : decode cX12_nextOf 110 = .ok (.iload 7, 2) := by decide +kernel
theorem dX12_nextOf_112 : decode cX12_nextOf 112 = .ok (.iload 6, 2) := by decide +kernel
theorem dX12_nextOf_114 : decode cX12_nextOf 114 = .ok (.isub, 1) := by decide +kernel
theorem dX12_nextOf_115 : decode cX12_nextOf 115 = .ok (.if_icmp .le 8, 3) := by decide +kernel
theorem dX12_nextOf_118 : decode cX12_nextOf 118 = .ok (.iload 6, 2) := by decide +kernel
theorem dX12_nextOf_120 : decode cX12_nextOf 120 = .ok (.goto 8, 3) := by decide +kernel
theorem dX12_nextOf_123 : decode cX12_nextOf 123 = .ok (.iload 7, 2) := by decide +kernel
theorem dX12_nextOf_125 : decode cX12_nextOf 125 = .ok (.iload 6, 2) := by decide +kernel
theorem dX12_nextOf_127 : decode cX12_nextOf 127 = .ok (.isub, 1) := by decide +kernel
theorem dX12_nextOf_128 : decode cX12_nextOf 128 = .ok (.istore 8, 2) := by decide +kernel
theorem dX12_nextOf_130 : decode cX12_nextOf 130 = .ok (.iload 8, 2) := by decide +kernel
theorem dX12_nextOf_132 : decode cX12_nextOf 132 = .ok (.iload 4, 2) := by decide +kernel
theorem dX12_nextOf_134 : decode cX12_nextOf 134 = .ok (.if_icmp .ge 8, 3) := by decide +kernel
theorem dX12_nextOf_137 : decode cX12_nextOf 137 = .ok (.iload 5, 2) := by decide +kernel
theorem dX12_nextOf_139 : decode cX12_nextOf 139 = .ok (.goto 4, 3) := by decide +kernel
theorem dX12_nextOf_142 : decode cX12_nextOf 142 = .ok (.iload_n 3, 1) := by decide +kernel
theorem dX12_nextOf_143 : decode cX12_nextOf 143 = .ok (.istore_n 3, 1) := by decide +kernel
theorem dX12_nextOf_144 : decode cX12_nextOf 144 = .ok (.iload 8, 2) := by decide +kernel
theorem dX12_nextOf_146 : decode cX12_nextOf 146 = .ok (.iload 4, 2) := by decide +kernel
theorem dX12_nextOf_148 : decode cX12_nextOf 148 = .ok (.if_icmp .ge 8, 3) := by decide +kernel
theorem dX12_nextOf_151 : decode cX12_nextOf 151 = .ok (.iload 8, 2) := by decide +kernel
theorem dX12_nextOf_153 : decode cX12_nextOf 153 = .ok (.goto 5, 3) := by decide +kernel
theorem dX12_nextOf_156 : decode cX12_nextOf 156 = .ok (.iload 4, 2) := by decide +kernel
theorem dX12_nextOf_158 : decode cX12_nextOf 158 = .ok (.istore 4, 2) := by decide +kernel
theorem dX12_nextOf_160 : decode cX12_nextOf 160 = .ok (.iinc 5 1, 3) := by decide +kernel
theorem dX12_nextOf_163 : decode cX12_nextOf 163 = .ok (.goto (-148), 3) := by decide +kernel
theorem dX12_nextOf_166 : decode cX12_nextOf 166 = .ok (.iload_n 3, 1) := by decide +kernel
theorem dX12_nextOf_167 : decode cX12_nextOf 167 = .ok (.ireturn, 1) := by decide +kernel
theorem dX12_draw_0 : decode cX12_draw 0 = .ok (.aload_n 0, 1) := by decide +kernel
theorem dX12_draw_1 : decode cX12_draw 1 = .ok (.ldc2_w 216, 3) := by decide +kernel
theorem dX12_draw_4 : decode cX12_draw 4 = .ok (.aload_n 0, 1) := by decide +kernel
theorem dX12_draw_5 : decode cX12_draw 5 = .ok (.getfield 218, 3) := by decide +kernel
theorem dX12_draw_8 : decode cX12_draw 8 = .ok (.lmul, 1) := by decide +kernel
theorem dX12_draw_9 : decode cX12_draw 9 = .ok (.ldc2_w 222, 3) := by decide +kernel
theorem dX12_draw_12 : decode cX12_draw 12 = .ok (.ladd, 1) := by decide +kernel
theorem dX12_draw_13 : decode cX12_draw 13 = .ok (.ldc2_w 224, 3) := by decide +kernel
theorem dX12_draw_16 : decode cX12_draw 16 = .ok (.land, 1) := by decide +kernel
theorem dX12_draw_17 : decode cX12_draw 17 = .ok (.putfield 218, 3) := by decide +kernel
theorem dX12_draw_20 : decode cX12_draw 20 = .ok (.aload_n 0, 1) := by decide +kernel
theorem dX12_draw_21 : decode cX12_draw 21 = .ok (.getfield 218, 3) := by decide +kernel
theorem dX12_draw_24 : decode cX12_draw 24 = .ok (.ldc2_w 226, 3) := by decide +kernel
theorem dX12_draw_27 : decode cX12_draw 27 = .ok (.ldiv, 1) := by decide +kernel
theorem dX12_draw_28 : decode cX12_draw 28 = .ok (.iload_n 1, 1) := by decide +kernel
theorem dX12_draw_29 : decode cX12_draw 29 = .ok (.i2l, 1) := by decide +kernel
theorem dX12_draw_30 : decode cX12_draw 30 = .ok (.lrem, 1) := by decide +kernel
theorem dX12_draw_31 : decode cX12_draw 31 = .ok (.l2i, 1) := by decide +kernel
theorem dX12_draw_32 : decode cX12_draw 32 = .ok (.ireturn, 1) := by decide +kernel
theorem dX12_paidAll_0 : decode cX12_paidAll 0 = .ok (.iconst 0, 1) := by decide +kernel
theorem dX12_paidAll_1 : decode cX12_paidAll 1 = .ok (.istore_n 1, 1) := by decide +kernel
theorem dX12_paidAll_2 : decode cX12_paidAll 2 = .ok (.iconst 0, 1) := by decide +kernel
theorem dX12_paidAll_3 : decode cX12_paidAll 3 = .ok (.istore_n 2, 1) := by decide +kernel
theorem dX12_paidAll_4 : decode cX12_paidAll 4 = .ok (.iload_n 2, 1) := by decide +kernel
theorem dX12_paidAll_5 : decode cX12_paidAll 5 = .ok (.aload_n 0, 1) := by decide +kernel
theorem dX12_paidAll_6 : decode cX12_paidAll 6 = .ok (.getfield 106, 3) := by decide +kernel
theorem dX12_paidAll_9 : decode cX12_paidAll 9 = .ok (.if_icmp .ge 17, 3) := by decide +kernel
theorem dX12_paidAll_12 : decode cX12_paidAll 12 = .ok (.iload_n 1, 1) := by decide +kernel
theorem dX12_paidAll_13 : decode cX12_paidAll 13 = .ok (.aload_n 0, 1) := by decide +kernel
theorem dX12_paidAll_14 : decode cX12_paidAll 14 = .ok (.iload_n 2, 1) := by decide +kernel
theorem dX12_paidAll_15 : decode cX12_paidAll 15 = .ok (.invokevirtual 142, 3) := by decide +kernel
theorem dX12_paidAll_18 : decode cX12_paidAll 18 = .ok (.iadd, 1) := by decide +kernel
theorem dX12_paidAll_19 : decode cX12_paidAll 19 = .ok (.istore_n 1, 1) := by decide +kernel
theorem dX12_paidAll_20 : decode cX12_paidAll 20 = .ok (.iinc 2 1, 3) := by decide +kernel
theorem dX12_paidAll_23 : decode cX12_paidAll 23 = .ok (.goto (-19), 3) := by decide +kernel
theorem dX12_paidAll_26 : decode cX12_paidAll 26 = .ok (.iload_n 1, 1) := by decide +kernel
theorem dX12_paidAll_27 : decode cX12_paidAll 27 = .ok (.ireturn, 1) := by decide +kernel
theorem dX12_weeksNow_0 : decode cX12_weeksNow 0 = .ok (.iconst 0, 1) := by decide +kernel
theorem dX12_weeksNow_1 : decode cX12_weeksNow 1 = .ok (.istore 4, 2) := by decide +kernel
theorem dX12_weeksNow_3 : decode cX12_weeksNow 3 = .ok (.iload 4, 2) := by decide +kernel
theorem dX12_weeksNow_5 : decode cX12_weeksNow 5 = .ok (.aload_n 0, 1) := by decide +kernel
theorem dX12_weeksNow_6 : decode cX12_weeksNow 6 = .ok (.getfield 106, 3) := by decide +kernel
theorem dX12_weeksNow_9 : decode cX12_weeksNow 9 = .ok (.if_icmp .ge 23, 3) := by decide +kernel
theorem dX12_weeksNow_12 : decode cX12_weeksNow 12 = .ok (.aload_n 0, 1) := by decide +kernel
theorem dX12_weeksNow_13 : decode cX12_weeksNow 13 = .ok (.getfield 50, 3) := by decide +kernel
theorem dX12_weeksNow_16 : decode cX12_weeksNow 16 = .ok (.iload 4, 2) := by decide +kernel
theorem dX12_weeksNow_18 : decode cX12_weeksNow 18 = .ok (.aload_n 0, 1) := by decide +kernel
theorem dX12_weeksNow_19 : decode cX12_weeksNow 19 = .ok (.getfield 28, 3) := by decide +kernel
theorem dX12_weeksNow_22 : decode cX12_weeksNow 22 = .ok (.iload 4, 2) := by decide +kernel
theorem dX12_weeksNow_24 : decode cX12_weeksNow 24 = .ok (.iaload, 1) := by decide +kernel
theorem dX12_weeksNow_25 : decode cX12_weeksNow 25 = .ok (.iastore, 1) := by decide +kernel
theorem dX12_weeksNow_26 : decode cX12_weeksNow 26 = .ok (.iinc 4 1, 3) := by decide +kernel
theorem dX12_weeksNow_29 : decode cX12_weeksNow 29 = .ok (.goto (-26), 3) := by decide +kernel
theorem dX12_weeksNow_32 : decode cX12_weeksNow 32 = .ok (.aload_n 0, 1) := by decide +kernel
theorem dX12_weeksNow_33 : decode cX12_weeksNow 33 = .ok (.iload_n 2, 1) := by decide +kernel
theorem dX12_weeksNow_34 : decode cX12_weeksNow 34 = .ok (.i2l, 1) := by decide +kernel
theorem dX12_weeksNow_35 : decode cX12_weeksNow 35 = .ok (.putfield 218, 3) := by decide +kernel
theorem dX12_weeksNow_38 : decode cX12_weeksNow 38 = .ok (.iconst 0, 1) := by decide +kernel
theorem dX12_weeksNow_39 : decode cX12_weeksNow 39 = .ok (.istore 4, 2) := by decide +kernel
theorem dX12_weeksNow_41 : decode cX12_weeksNow 41 = .ok (.iload 4, 2) := by decide +kernel
theorem dX12_weeksNow_43 : decode cX12_weeksNow 43 = .ok (.iload_n 1, 1) := by decide +kernel
theorem dX12_weeksNow_44 : decode cX12_weeksNow 44 = .ok (.if_icmp .ge 90, 3) := by decide +kernel
theorem dX12_weeksNow_47 : decode cX12_weeksNow 47 = .ok (.aload_n 0, 1) := by decide +kernel
theorem dX12_weeksNow_48 : decode cX12_weeksNow 48 = .ok (.aload_n 0, 1) := by decide +kernel
theorem dX12_weeksNow_49 : decode cX12_weeksNow 49 = .ok (.getfield 106, 3) := by decide +kernel
theorem dX12_weeksNow_52 : decode cX12_weeksNow 52 = .ok (.invokevirtual 228, 3) := by decide +kernel
theorem dX12_weeksNow_55 : decode cX12_weeksNow 55 = .ok (.istore 5, 2) := by decide +kernel
theorem dX12_weeksNow_57 : decode cX12_weeksNow 57 = .ok (.aload_n 0, 1) := by decide +kernel
theorem dX12_weeksNow_58 : decode cX12_weeksNow 58 = .ok (.aload_n 0, 1) := by decide +kernel
theorem dX12_weeksNow_59 : decode cX12_weeksNow 59 = .ok (.getfield 109, 3) := by decide +kernel
theorem dX12_weeksNow_62 : decode cX12_weeksNow 62 = .ok (.invokevirtual 228, 3) := by decide +kernel
theorem dX12_weeksNow_65 : decode cX12_weeksNow 65 = .ok (.istore 6, 2) := by decide +kernel
theorem dX12_weeksNow_67 : decode cX12_weeksNow 67 = .ok (.aload_n 0, 1) := by decide +kernel
theorem dX12_weeksNow_68 : decode cX12_weeksNow 68 = .ok (.getfield 28, 3) := by decide +kernel
theorem dX12_weeksNow_71 : decode cX12_weeksNow 71 = .ok (.iload 5, 2) := by decide +kernel
theorem dX12_weeksNow_73 : decode cX12_weeksNow 73 = .ok (.iaload, 1) := by decide +kernel
theorem dX12_weeksNow_74 : decode cX12_weeksNow 74 = .ok (.iconst (-1), 1) := by decide +kernel
theorem dX12_weeksNow_75 : decode cX12_weeksNow 75 = .ok (.if_icmp .eq 14, 3) := by decide +kernel
theorem dX12_weeksNow_78 : decode cX12_weeksNow 78 = .ok (.aload_n 0, 1) := by decide +kernel
theorem dX12_weeksNow_79 : decode cX12_weeksNow 79 = .ok (.getfield 28, 3) := by decide +kernel
theorem dX12_weeksNow_82 : decode cX12_weeksNow 82 = .ok (.iload 5, 2) := by decide +kernel
theorem dX12_weeksNow_84 : decode cX12_weeksNow 84 = .ok (.iconst (-1), 1) := by decide +kernel
theorem dX12_weeksNow_85 : decode cX12_weeksNow 85 = .ok (.iastore, 1) := by decide +kernel
theorem dX12_weeksNow_86 : decode cX12_weeksNow 86 = .ok (.goto 42, 3) := by decide +kernel
theorem dX12_weeksNow_89 : decode cX12_weeksNow 89 = .ok (.aload_n 0, 1) := by decide +kernel
theorem dX12_weeksNow_90 : decode cX12_weeksNow 90 = .ok (.iload 5, 2) := by decide +kernel
theorem dX12_weeksNow_92 : decode cX12_weeksNow 92 = .ok (.iload 6, 2) := by decide +kernel
theorem dX12_weeksNow_94 : decode cX12_weeksNow 94 = .ok (.invokevirtual 139, 3) := by decide +kernel
theorem dX12_weeksNow_97 : decode cX12_weeksNow 97 = .ok (.ifCond .eq 31, 3) := by decide +kernel
theorem dX12_weeksNow_100 : decode cX12_weeksNow 100 = .ok (.aload_n 0, 1) := by decide +kernel
theorem dX12_weeksNow_101 : decode cX12_weeksNow 101 = .ok (.iload 6, 2) := by decide +kernel
theorem dX12_weeksNow_103 : decode cX12_weeksNow 103 = .ok (.invokevirtual 161, 3) := by decide +kernel
theorem dX12_weeksNow_106 : decode cX12_weeksNow 106 = .ok (.iconst (-1), 1) := by decide +kernel
theorem dX12_weeksNow_107 : decode cX12_weeksNow 107 = .ok (.if_icmp .ne 21, 3) := by decide +kernel
theorem dX12_weeksNow_110 : decode cX12_weeksNow 110 = .ok (.aload_n 0, 1) := by decide +kernel
theorem dX12_weeksNow_111 : decode cX12_weeksNow 111 = .ok (.iload 5, 2) := by decide +kernel
theorem dX12_weeksNow_113 : decode cX12_weeksNow 113 = .ok (.invokevirtual 176, 3) := by decide +kernel
theorem dX12_weeksNow_116 : decode cX12_weeksNow 116 = .ok (.ifCond .eq 12, 3) := by decide +kernel
theorem dX12_weeksNow_119 : decode cX12_weeksNow 119 = .ok (.aload_n 0, 1) := by decide +kernel
theorem dX12_weeksNow_120 : decode cX12_weeksNow 120 = .ok (.getfield 28, 3) := by decide +kernel
theorem dX12_weeksNow_123 : decode cX12_weeksNow 123 = .ok (.iload 5, 2) := by decide +kernel
theorem dX12_weeksNow_125 : decode cX12_weeksNow 125 = .ok (.iload 6, 2) := by decide +kernel
theorem dX12_weeksNow_127 : decode cX12_weeksNow 127 = .ok (.iastore, 1) := by decide +kernel
theorem dX12_weeksNow_128 : decode cX12_weeksNow 128 = .ok (.iinc 4 1, 3) := by decide +kernel
theorem dX12_weeksNow_131 : decode cX12_weeksNow 131 = .ok (.goto (-90), 3) := by decide +kernel
theorem dX12_weeksNow_134 : decode cX12_weeksNow 134 = .ok (.aload_n 0, 1) := by decide +kernel
theorem dX12_weeksNow_135 : decode cX12_weeksNow 135 = .ok (.getfield 109, 3) := by decide +kernel
theorem dX12_weeksNow_138 : decode cX12_weeksNow 138 = .ok (.aload_n 0, 1) := by decide +kernel
theorem dX12_weeksNow_139 : decode cX12_weeksNow 139 = .ok (.invokevirtual 200, 3) := by decide +kernel
theorem dX12_weeksNow_142 : decode cX12_weeksNow 142 = .ok (.isub, 1) := by decide +kernel
theorem dX12_weeksNow_143 : decode cX12_weeksNow 143 = .ok (.istore 4, 2) := by decide +kernel
theorem dX12_weeksNow_145 : decode cX12_weeksNow 145 = .ok (.aload_n 0, 1) := by decide +kernel
theorem dX12_weeksNow_146 : decode cX12_weeksNow 146 = .ok (.invokevirtual 231, 3) := by decide +kernel
theorem dX12_weeksNow_149 : decode cX12_weeksNow 149 = .ok (.istore 5, 2) := by decide +kernel
theorem dX12_weeksNow_151 : decode cX12_weeksNow 151 = .ok (.iconst 0, 1) := by decide +kernel
theorem dX12_weeksNow_152 : decode cX12_weeksNow 152 = .ok (.istore 6, 2) := by decide +kernel
theorem dX12_weeksNow_154 : decode cX12_weeksNow 154 = .ok (.iload 6, 2) := by decide +kernel
theorem dX12_weeksNow_156 : decode cX12_weeksNow 156 = .ok (.aload_n 0, 1) := by decide +kernel
theorem dX12_weeksNow_157 : decode cX12_weeksNow 157 = .ok (.getfield 106, 3) := by decide +kernel
theorem dX12_weeksNow_160 : decode cX12_weeksNow 160 = .ok (.if_icmp .ge 23, 3) := by decide +kernel
theorem dX12_weeksNow_163 : decode cX12_weeksNow 163 = .ok (.aload_n 0, 1) := by decide +kernel
theorem dX12_weeksNow_164 : decode cX12_weeksNow 164 = .ok (.getfield 28, 3) := by decide +kernel
theorem dX12_weeksNow_167 : decode cX12_weeksNow 167 = .ok (.iload 6, 2) := by decide +kernel
theorem dX12_weeksNow_169 : decode cX12_weeksNow 169 = .ok (.aload_n 0, 1) := by decide +kernel
theorem dX12_weeksNow_170 : decode cX12_weeksNow 170 = .ok (.getfield 50, 3) := by decide +kernel
theorem dX12_weeksNow_173 : decode cX12_weeksNow 173 = .ok (.iload 6, 2) := by decide +kernel
theorem dX12_weeksNow_175 : decode cX12_weeksNow 175 = .ok (.iaload, 1) := by decide +kernel
theorem dX12_weeksNow_176 : decode cX12_weeksNow 176 = .ok (.iastore, 1) := by decide +kernel
theorem dX12_weeksNow_177 : decode cX12_weeksNow 177 = .ok (.iinc 6 1, 3) := by decide +kernel
theorem dX12_weeksNow_180 : decode cX12_weeksNow 180 = .ok (.goto (-26), 3) := by decide +kernel
theorem dX12_weeksNow_183 : decode cX12_weeksNow 183 = .ok (.iload_n 3, 1) := by decide +kernel
theorem dX12_weeksNow_184 : decode cX12_weeksNow 184 = .ok (.ifCond .ne 8, 3) := by decide +kernel
theorem dX12_weeksNow_187 : decode cX12_weeksNow 187 = .ok (.iload 4, 2) := by decide +kernel
theorem dX12_weeksNow_189 : decode cX12_weeksNow 189 = .ok (.goto 18, 3) := by decide +kernel
theorem dX12_weeksNow_192 : decode cX12_weeksNow 192 = .ok (.iload_n 3, 1) := by decide +kernel
theorem dX12_weeksNow_193 : decode cX12_weeksNow 193 = .ok (.iconst 1, 1) := by decide +kernel
theorem dX12_weeksNow_194 : decode cX12_weeksNow 194 = .ok (.if_icmp .ne 8, 3) := by decide +kernel
theorem dX12_weeksNow_197 : decode cX12_weeksNow 197 = .ok (.iload 5, 2) := by decide +kernel
theorem dX12_weeksNow_199 : decode cX12_weeksNow 199 = .ok (.goto 8, 3) := by decide +kernel
theorem dX12_weeksNow_202 : decode cX12_weeksNow 202 = .ok (.aload_n 0, 1) := by decide +kernel
theorem dX12_weeksNow_203 : decode cX12_weeksNow 203 = .ok (.getfield 218, 3) := by decide +kernel
theorem dX12_weeksNow_206 : decode cX12_weeksNow 206 = .ok (.l2i, 1) := by decide +kernel
theorem dX12_weeksNow_207 : decode cX12_weeksNow 207 = .ok (.ireturn, 1) := by decide +kernel
theorem dX12_weeks_0 : decode cX12_weeks 0 = .ok (.iload_n 1, 1) := by decide +kernel
theorem dX12_weeks_1 : decode cX12_weeks 1 = .ok (.iconst 1, 1) := by decide +kernel
theorem dX12_weeks_2 : decode cX12_weeks 2 = .ok (.bipush 60, 2) := by decide +kernel
theorem dX12_weeks_4 : decode cX12_weeks 4 = .ok (.invokestatic 71, 3) := by decide +kernel
theorem dX12_weeks_7 : decode cX12_weeks 7 = .ok (.ifCond .eq 16, 3) := by decide +kernel
theorem dX12_weeks_10 : decode cX12_weeks 10 = .ok (.iload_n 2, 1) := by decide +kernel
theorem dX12_weeks_11 : decode cX12_weeks 11 = .ok (.ifCond .lt 12, 3) := by decide +kernel
theorem dX12_weeks_14 : decode cX12_weeks 14 = .ok (.iload_n 3, 1) := by decide +kernel
theorem dX12_weeks_15 : decode cX12_weeks 15 = .ok (.iconst 0, 1) := by decide +kernel
theorem dX12_weeks_16 : decode cX12_weeks 16 = .ok (.iconst 2, 1) := by decide +kernel
theorem dX12_weeks_17 : decode cX12_weeks 17 = .ok (.invokestatic 71, 3) := by decide +kernel
theorem dX12_weeks_20 : decode cX12_weeks 20 = .ok (.ifCond .ne 6, 3) := by decide +kernel
theorem dX12_weeks_23 : decode cX12_weeks 23 = .ok (.bipush (-102), 2) := by decide +kernel
theorem dX12_weeks_25 : decode cX12_weeks 25 = .ok (.ireturn, 1) := by decide +kernel
theorem dX12_weeks_26 : decode cX12_weeks 26 = .ok (.aload_n 0, 1) := by decide +kernel
theorem dX12_weeks_27 : decode cX12_weeks 27 = .ok (.getfield 106, 3) := by decide +kernel
theorem dX12_weeks_30 : decode cX12_weeks 30 = .ok (.ifCond .ne 8, 3) := by decide +kernel
theorem dX12_weeks_33 : decode cX12_weeks 33 = .ok (.bipush (-103), 2) := by decide +kernel
theorem dX12_weeks_35 : decode cX12_weeks 35 = .ok (.goto 10, 3) := by decide +kernel
theorem dX12_weeks_38 : decode cX12_weeks 38 = .ok (.aload_n 0, 1) := by decide +kernel
theorem dX12_weeks_39 : decode cX12_weeks 39 = .ok (.iload_n 1, 1) := by decide +kernel
theorem dX12_weeks_40 : decode cX12_weeks 40 = .ok (.iload_n 2, 1) := by decide +kernel
theorem dX12_weeks_41 : decode cX12_weeks 41 = .ok (.iload_n 3, 1) := by decide +kernel
theorem dX12_weeks_42 : decode cX12_weeks 42 = .ok (.invokevirtual 234, 3) := by decide +kernel
theorem dX12_weeks_45 : decode cX12_weeks 45 = .ok (.ireturn, 1) := by decide +kernel
theorem dX12_image_0 : decode cX12_image 0 = .ok (.aload_n 0, 1) := by decide +kernel
theorem dX12_image_1 : decode cX12_image 1 = .ok (.getfield 106, 3) := by decide +kernel
theorem dX12_image_4 : decode cX12_image 4 = .ok (.ifCond .ne 6, 3) := by decide +kernel
theorem dX12_image_7 : decode cX12_image 7 = .ok (.bipush (-103), 2) := by decide +kernel
theorem dX12_image_9 : decode cX12_image 9 = .ok (.ireturn, 1) := by decide +kernel
theorem dX12_image_10 : decode cX12_image 10 = .ok (.aload_n 0, 1) := by decide +kernel
theorem dX12_image_11 : decode cX12_image 11 = .ok (.iconst 1, 1) := by decide +kernel
theorem dX12_image_12 : decode cX12_image 12 = .ok (.putfield 238, 3) := by decide +kernel
theorem dX12_image_15 : decode cX12_image 15 = .ok (.aload_n 0, 1) := by decide +kernel
theorem dX12_image_16 : decode cX12_image 16 = .ok (.aload_n 0, 1) := by decide +kernel
theorem dX12_image_17 : decode cX12_image 17 = .ok (.getfield 112, 3) := by decide +kernel
theorem dX12_image_20 : decode cX12_image 20 = .ok (.putfield 241, 3) := by decide +kernel
theorem dX12_image_23 : decode cX12_image 23 = .ok (.aload_n 0, 1) := by decide +kernel
theorem dX12_image_24 : decode cX12_image 24 = .ok (.aload_n 0, 1) := by decide +kernel
theorem dX12_image_25 : decode cX12_image 25 = .ok (.getfield 115, 3) := by decide +kernel
theorem dX12_image_28 : decode cX12_image 28 = .ok (.putfield 244, 3) := by decide +kernel
theorem dX12_image_31 : decode cX12_image 31 = .ok (.aload_n 0, 1) := by decide +kernel
theorem dX12_image_32 : decode cX12_image 32 = .ok (.aload_n 0, 1) := by decide +kernel
theorem dX12_image_33 : decode cX12_image 33 = .ok (.getfield 118, 3) := by decide +kernel
theorem dX12_image_36 : decode cX12_image 36 = .ok (.putfield 247, 3) := by decide +kernel
theorem dX12_image_39 : decode cX12_image 39 = .ok (.aload_n 0, 1) := by decide +kernel
theorem dX12_image_40 : decode cX12_image 40 = .ok (.aload_n 0, 1) := by decide +kernel
theorem dX12_image_41 : decode cX12_image 41 = .ok (.getfield 121, 3) := by decide +kernel
theorem dX12_image_44 : decode cX12_image 44 = .ok (.putfield 250, 3) := by decide +kernel
theorem dX12_image_47 : decode cX12_image 47 = .ok (.iconst 0, 1) := by decide +kernel
theorem dX12_image_48 : decode cX12_image 48 = .ok (.istore_n 1, 1) := by decide +kernel
theorem dX12_image_49 : decode cX12_image 49 = .ok (.iload_n 1, 1) := by decide +kernel
theorem dX12_image_50 : decode cX12_image 50 = .ok (.iconst 4, 1) := by decide +kernel
theorem dX12_image_51 : decode cX12_image 51 = .ok (.if_icmp .ge 33, 3) := by decide +kernel
theorem dX12_image_54 : decode cX12_image 54 = .ok (.aload_n 0, 1) := by decide +kernel
theorem dX12_image_55 : decode cX12_image 55 = .ok (.getfield 53, 3) := by decide +kernel
theorem dX12_image_58 : decode cX12_image 58 = .ok (.iload_n 1, 1) := by decide +kernel
theorem dX12_image_59 : decode cX12_image 59 = .ok (.aload_n 0, 1) := by decide +kernel
theorem dX12_image_60 : decode cX12_image 60 = .ok (.getfield 19, 3) := by decide +kernel
theorem dX12_image_63 : decode cX12_image 63 = .ok (.iload_n 1, 1) := by decide +kernel
theorem dX12_image_64 : decode cX12_image 64 = .ok (.iaload, 1) := by decide +kernel
theorem dX12_image_65 : decode cX12_image 65 = .ok (.iastore, 1) := by decide +kernel
theorem dX12_image_66 : decode cX12_image 66 = .ok (.aload_n 0, 1) := by decide +kernel
theorem dX12_image_67 : decode cX12_image 67 = .ok (.getfield 56, 3) := by decide +kernel
theorem dX12_image_70 : decode cX12_image 70 = .ok (.iload_n 1, 1) := by decide +kernel
theorem dX12_image_71 : decode cX12_image 71 = .ok (.aload_n 0, 1) := by decide +kernel
theorem dX12_image_72 : decode cX12_image 72 = .ok (.getfield 28, 3) := by decide +kernel
theorem dX12_image_75 : decode cX12_image 75 = .ok (.iload_n 1, 1) := by decide +kernel
theorem dX12_image_76 : decode cX12_image 76 = .ok (.iaload, 1) := by decide +kernel
theorem dX12_image_77 : decode cX12_image 77 = .ok (.iastore, 1) := by decide +kernel
theorem dX12_image_78 : decode cX12_image 78 = .ok (.iinc 1 1, 3) := by decide +kernel
theorem dX12_image_81 : decode cX12_image 81 = .ok (.goto (-32), 3) := by decide +kernel
theorem dX12_image_84 : decode cX12_image 84 = .ok (.iconst 0, 1) := by decide +kernel
theorem dX12_image_85 : decode cX12_image 85 = .ok (.istore_n 1, 1) := by decide +kernel
theorem dX12_image_86 : decode cX12_image 86 = .ok (.iload_n 1, 1) := by decide +kernel
theorem dX12_image_87 : decode cX12_image 87 = .ok (.bipush 6, 2) := by decide +kernel
theorem dX12_image_89 : decode cX12_image 89 = .ok (.if_icmp .ge 57, 3) := by decide +kernel
theorem dX12_image_92 : decode cX12_image 92 = .ok (.aload_n 0, 1) := by decide +kernel
theorem dX12_image_93 : decode cX12_image 93 = .ok (.getfield 59, 3) := by decide +kernel
theorem dX12_image_96 : decode cX12_image 96 = .ok (.iload_n 1, 1) := by decide +kernel
theorem dX12_image_97 : decode cX12_image 97 = .ok (.aload_n 0, 1) := by decide +kernel
theorem dX12_image_98 : decode cX12_image 98 = .ok (.getfield 31, 3) := by decide +kernel
theorem dX12_image_101 : decode cX12_image 101 = .ok (.iload_n 1, 1) := by decide +kernel
theorem dX12_image_102 : decode cX12_image 102 = .ok (.iaload, 1) := by decide +kernel
theorem dX12_image_103 : decode cX12_image 103 = .ok (.iastore, 1) := by decide +kernel
theorem dX12_image_104 : decode cX12_image 104 = .ok (.aload_n 0, 1) := by decide +kernel
theorem dX12_image_105 : decode cX12_image 105 = .ok (.getfield 62, 3) := by decide +kernel
theorem dX12_image_108 : decode cX12_image 108 = .ok (.iload_n 1, 1) := by decide +kernel
theorem dX12_image_109 : decode cX12_image 109 = .ok (.aload_n 0, 1) := by decide +kernel
theorem dX12_image_110 : decode cX12_image 110 = .ok (.getfield 34, 3) := by decide +kernel
theorem dX12_image_113 : decode cX12_image 113 = .ok (.iload_n 1, 1) := by decide +kernel
theorem dX12_image_114 : decode cX12_image 114 = .ok (.iaload, 1) := by decide +kernel
theorem dX12_image_115 : decode cX12_image 115 = .ok (.iastore, 1) := by decide +kernel
theorem dX12_image_116 : decode cX12_image 116 = .ok (.aload_n 0, 1) := by decide +kernel
theorem dX12_image_117 : decode cX12_image 117 = .ok (.getfield 65, 3) := by decide +kernel
theorem dX12_image_120 : decode cX12_image 120 = .ok (.iload_n 1, 1) := by decide +kernel
theorem dX12_image_121 : decode cX12_image 121 = .ok (.aload_n 0, 1) := by decide +kernel
theorem dX12_image_122 : decode cX12_image 122 = .ok (.getfield 37, 3) := by decide +kernel
theorem dX12_image_125 : decode cX12_image 125 = .ok (.iload_n 1, 1) := by decide +kernel
theorem dX12_image_126 : decode cX12_image 126 = .ok (.iaload, 1) := by decide +kernel
theorem dX12_image_127 : decode cX12_image 127 = .ok (.iastore, 1) := by decide +kernel
theorem dX12_image_128 : decode cX12_image 128 = .ok (.aload_n 0, 1) := by decide +kernel
theorem dX12_image_129 : decode cX12_image 129 = .ok (.getfield 68, 3) := by decide +kernel
theorem dX12_image_132 : decode cX12_image 132 = .ok (.iload_n 1, 1) := by decide +kernel
theorem dX12_image_133 : decode cX12_image 133 = .ok (.aload_n 0, 1) := by decide +kernel
theorem dX12_image_134 : decode cX12_image 134 = .ok (.getfield 40, 3) := by decide +kernel
theorem dX12_image_137 : decode cX12_image 137 = .ok (.iload_n 1, 1) := by decide +kernel
theorem dX12_image_138 : decode cX12_image 138 = .ok (.iaload, 1) := by decide +kernel
theorem dX12_image_139 : decode cX12_image 139 = .ok (.iastore, 1) := by decide +kernel
theorem dX12_image_140 : decode cX12_image 140 = .ok (.iinc 1 1, 3) := by decide +kernel
theorem dX12_image_143 : decode cX12_image 143 = .ok (.goto (-57), 3) := by decide +kernel
theorem dX12_image_146 : decode cX12_image 146 = .ok (.aload_n 0, 1) := by decide +kernel
theorem dX12_image_147 : decode cX12_image 147 = .ok (.getfield 118, 3) := by decide +kernel
theorem dX12_image_150 : decode cX12_image 150 = .ok (.ireturn, 1) := by decide +kernel
theorem dX12_restore_0 : decode cX12_restore 0 = .ok (.aload_n 0, 1) := by decide +kernel
theorem dX12_restore_1 : decode cX12_restore 1 = .ok (.getfield 238, 3) := by decide +kernel
theorem dX12_restore_4 : decode cX12_restore 4 = .ok (.ifCond .eq 14, 3) := by decide +kernel
theorem dX12_restore_7 : decode cX12_restore 7 = .ok (.aload_n 0, 1) := by decide +kernel
theorem dX12_restore_8 : decode cX12_restore 8 = .ok (.getfield 241, 3) := by decide +kernel
theorem dX12_restore_11 : decode cX12_restore 11 = .ok (.aload_n 0, 1) := by decide +kernel
theorem dX12_restore_12 : decode cX12_restore 12 = .ok (.getfield 112, 3) := by decide +kernel
theorem dX12_restore_15 : decode cX12_restore 15 = .ok (.if_icmp .eq 6, 3) := by decide +kernel
theorem dX12_restore_18 : decode cX12_restore 18 = .ok (.bipush (-103), 2) := by decide +kernel
theorem dX12_restore_20 : decode cX12_restore 20 = .ok (.ireturn, 1) := by decide +kernel
theorem dX12_restore_21 : decode cX12_restore 21 = .ok (.aload_n 0, 1) := by decide +kernel
theorem dX12_restore_22 : decode cX12_restore 22 = .ok (.aload_n 0, 1) := by decide +kernel
theorem dX12_restore_23 : decode cX12_restore 23 = .ok (.getfield 244, 3) := by decide +kernel
theorem dX12_restore_26 : decode cX12_restore 26 = .ok (.putfield 115, 3) := by decide +kernel
theorem dX12_restore_29 : decode cX12_restore 29 = .ok (.aload_n 0, 1) := by decide +kernel
theorem dX12_restore_30 : decode cX12_restore 30 = .ok (.aload_n 0, 1) := by decide +kernel
theorem dX12_restore_31 : decode cX12_restore 31 = .ok (.getfield 247, 3) := by decide +kernel
theorem dX12_restore_34 : decode cX12_restore 34 = .ok (.putfield 118, 3) := by decide +kernel
theorem dX12_restore_37 : decode cX12_restore 37 = .ok (.aload_n 0, 1) := by decide +kernel
theorem dX12_restore_38 : decode cX12_restore 38 = .ok (.aload_n 0, 1) := by decide +kernel
theorem dX12_restore_39 : decode cX12_restore 39 = .ok (.getfield 250, 3) := by decide +kernel
theorem dX12_restore_42 : decode cX12_restore 42 = .ok (.putfield 121, 3) := by decide +kernel
theorem dX12_restore_45 : decode cX12_restore 45 = .ok (.iconst 0, 1) := by decide +kernel
theorem dX12_restore_46 : decode cX12_restore 46 = .ok (.istore_n 1, 1) := by decide +kernel
theorem dX12_restore_47 : decode cX12_restore 47 = .ok (.iload_n 1, 1) := by decide +kernel
theorem dX12_restore_48 : decode cX12_restore 48 = .ok (.iconst 4, 1) := by decide +kernel
theorem dX12_restore_49 : decode cX12_restore 49 = .ok (.if_icmp .ge 33, 3) := by decide +kernel
theorem dX12_restore_52 : decode cX12_restore 52 = .ok (.aload_n 0, 1) := by decide +kernel
theorem dX12_restore_53 : decode cX12_restore 53 = .ok (.getfield 19, 3) := by decide +kernel
theorem dX12_restore_56 : decode cX12_restore 56 = .ok (.iload_n 1, 1) := by decide +kernel
theorem dX12_restore_57 : decode cX12_restore 57 = .ok (.aload_n 0, 1) := by decide +kernel
theorem dX12_restore_58 : decode cX12_restore 58 = .ok (.getfield 53, 3) := by decide +kernel
theorem dX12_restore_61 : decode cX12_restore 61 = .ok (.iload_n 1, 1) := by decide +kernel
theorem dX12_restore_62 : decode cX12_restore 62 = .ok (.iaload, 1) := by decide +kernel
theorem dX12_restore_63 : decode cX12_restore 63 = .ok (.iastore, 1) := by decide +kernel
theorem dX12_restore_64 : decode cX12_restore 64 = .ok (.aload_n 0, 1) := by decide +kernel
theorem dX12_restore_65 : decode cX12_restore 65 = .ok (.getfield 28, 3) := by decide +kernel
theorem dX12_restore_68 : decode cX12_restore 68 = .ok (.iload_n 1, 1) := by decide +kernel
theorem dX12_restore_69 : decode cX12_restore 69 = .ok (.aload_n 0, 1) := by decide +kernel
theorem dX12_restore_70 : decode cX12_restore 70 = .ok (.getfield 56, 3) := by decide +kernel
theorem dX12_restore_73 : decode cX12_restore 73 = .ok (.iload_n 1, 1) := by decide +kernel
theorem dX12_restore_74 : decode cX12_restore 74 = .ok (.iaload, 1) := by decide +kernel
theorem dX12_restore_75 : decode cX12_restore 75 = .ok (.iastore, 1) := by decide +kernel
theorem dX12_restore_76 : decode cX12_restore 76 = .ok (.iinc 1 1, 3) := by decide +kernel
theorem dX12_restore_79 : decode cX12_restore 79 = .ok (.goto (-32), 3) := by decide +kernel
theorem dX12_restore_82 : decode cX12_restore 82 = .ok (.iconst 0, 1) := by decide +kernel
theorem dX12_restore_83 : decode cX12_restore 83 = .ok (.istore_n 1, 1) := by decide +kernel
theorem dX12_restore_84 : decode cX12_restore 84 = .ok (.iload_n 1, 1) := by decide +kernel
theorem dX12_restore_85 : decode cX12_restore 85 = .ok (.bipush 6, 2) := by decide +kernel
theorem dX12_restore_87 : decode cX12_restore 87 = .ok (.if_icmp .ge 57, 3) := by decide +kernel
theorem dX12_restore_90 : decode cX12_restore 90 = .ok (.aload_n 0, 1) := by decide +kernel
theorem dX12_restore_91 : decode cX12_restore 91 = .ok (.getfield 31, 3) := by decide +kernel
theorem dX12_restore_94 : decode cX12_restore 94 = .ok (.iload_n 1, 1) := by decide +kernel
theorem dX12_restore_95 : decode cX12_restore 95 = .ok (.aload_n 0, 1) := by decide +kernel
theorem dX12_restore_96 : decode cX12_restore 96 = .ok (.getfield 59, 3) := by decide +kernel
theorem dX12_restore_99 : decode cX12_restore 99 = .ok (.iload_n 1, 1) := by decide +kernel
theorem dX12_restore_100 : decode cX12_restore 100 = .ok (.iaload, 1) := by decide +kernel
theorem dX12_restore_101 : decode cX12_restore 101 = .ok (.iastore, 1) := by decide +kernel
theorem dX12_restore_102 : decode cX12_restore 102 = .ok (.aload_n 0, 1) := by decide +kernel
theorem dX12_restore_103 : decode cX12_restore 103 = .ok (.getfield 34, 3) := by decide +kernel
theorem dX12_restore_106 : decode cX12_restore 106 = .ok (.iload_n 1, 1) := by decide +kernel
theorem dX12_restore_107 : decode cX12_restore 107 = .ok (.aload_n 0, 1) := by decide +kernel
theorem dX12_restore_108 : decode cX12_restore 108 = .ok (.getfield 62, 3) := by decide +kernel
theorem dX12_restore_111 : decode cX12_restore 111 = .ok (.iload_n 1, 1) := by decide +kernel
theorem dX12_restore_112 : decode cX12_restore 112 = .ok (.iaload, 1) := by decide +kernel
theorem dX12_restore_113 : decode cX12_restore 113 = .ok (.iastore, 1) := by decide +kernel
theorem dX12_restore_114 : decode cX12_restore 114 = .ok (.aload_n 0, 1) := by decide +kernel
theorem dX12_restore_115 : decode cX12_restore 115 = .ok (.getfield 37, 3) := by decide +kernel
theorem dX12_restore_118 : decode cX12_restore 118 = .ok (.iload_n 1, 1) := by decide +kernel
theorem dX12_restore_119 : decode cX12_restore 119 = .ok (.aload_n 0, 1) := by decide +kernel
theorem dX12_restore_120 : decode cX12_restore 120 = .ok (.getfield 65, 3) := by decide +kernel
theorem dX12_restore_123 : decode cX12_restore 123 = .ok (.iload_n 1, 1) := by decide +kernel
theorem dX12_restore_124 : decode cX12_restore 124 = .ok (.iaload, 1) := by decide +kernel
theorem dX12_restore_125 : decode cX12_restore 125 = .ok (.iastore, 1) := by decide +kernel
theorem dX12_restore_126 : decode cX12_restore 126 = .ok (.aload_n 0, 1) := by decide +kernel
theorem dX12_restore_127 : decode cX12_restore 127 = .ok (.getfield 40, 3) := by decide +kernel
theorem dX12_restore_130 : decode cX12_restore 130 = .ok (.iload_n 1, 1) := by decide +kernel
theorem dX12_restore_131 : decode cX12_restore 131 = .ok (.aload_n 0, 1) := by decide +kernel
theorem dX12_restore_132 : decode cX12_restore 132 = .ok (.getfield 68, 3) := by decide +kernel
theorem dX12_restore_135 : decode cX12_restore 135 = .ok (.iload_n 1, 1) := by decide +kernel
theorem dX12_restore_136 : decode cX12_restore 136 = .ok (.iaload, 1) := by decide +kernel
theorem dX12_restore_137 : decode cX12_restore 137 = .ok (.iastore, 1) := by decide +kernel
theorem dX12_restore_138 : decode cX12_restore 138 = .ok (.iinc 1 1, 3) := by decide +kernel
theorem dX12_restore_141 : decode cX12_restore 141 = .ok (.goto (-57), 3) := by decide +kernel
theorem dX12_restore_144 : decode cX12_restore 144 = .ok (.aload_n 0, 1) := by decide +kernel
theorem dX12_restore_145 : decode cX12_restore 145 = .ok (.getfield 118, 3) := by decide +kernel
theorem dX12_restore_148 : decode cX12_restore 148 = .ok (.ireturn, 1) := by decide +kernel
theorem dX12_howMany_0 : decode cX12_howMany 0 = .ok (.iload_n 1, 1) := by decide +kernel
theorem dX12_howMany_1 : decode cX12_howMany 1 = .ok (.tableswitch 110 0 9 #[55, 60, 65, 75, 80, 85, 90, 95, 100, 105], 55) := by decide +kernel
end
section
theorem dX12_howMany_56 : decode cX12_howMany 56 = .ok (.aload_n 0, 1) := by decide +kernel
theorem dX12_howMany_57 : decode cX12_howMany 57 = .ok (.getfield 106, 3) := by decide +kernel
theorem dX12_howMany_60 : decode cX12_howMany 60 = .ok (.ireturn, 1) := by decide +kernel
theorem dX12_howMany_61 : decode cX12_howMany 61 = .ok (.aload_n 0, 1) := by decide +kernel
theorem dX12_howMany_62 : decode cX12_howMany 62 = .ok (.getfield 109, 3) := by decide +kernel
theorem dX12_howMany_65 : decode cX12_howMany 65 = .ok (.ireturn, 1) := by decide +kernel
theorem dX12_howMany_66 : decode cX12_howMany 66 = .ok (.aload_n 0, 1) := by decide +kernel
theorem dX12_howMany_67 : decode cX12_howMany 67 = .ok (.getfield 109, 3) := by decide +kernel
theorem dX12_howMany_70 : decode cX12_howMany 70 = .ok (.aload_n 0, 1) := by decide +kernel
theorem dX12_howMany_71 : decode cX12_howMany 71 = .ok (.invokevirtual 200, 3) := by decide +kernel
theorem dX12_howMany_74 : decode cX12_howMany 74 = .ok (.isub, 1) := by decide +kernel
theorem dX12_howMany_75 : decode cX12_howMany 75 = .ok (.ireturn, 1) := by decide +kernel
theorem dX12_howMany_76 : decode cX12_howMany 76 = .ok (.aload_n 0, 1) := by decide +kernel
theorem dX12_howMany_77 : decode cX12_howMany 77 = .ok (.invokevirtual 231, 3) := by decide +kernel
theorem dX12_howMany_80 : decode cX12_howMany 80 = .ok (.ireturn, 1) := by decide +kernel
theorem dX12_howMany_81 : decode cX12_howMany 81 = .ok (.aload_n 0, 1) := by decide +kernel
theorem dX12_howMany_82 : decode cX12_howMany 82 = .ok (.getfield 115, 3) := by decide +kernel
theorem dX12_howMany_85 : decode cX12_howMany 85 = .ok (.ireturn, 1) := by decide +kernel
theorem dX12_howMany_86 : decode cX12_howMany 86 = .ok (.aload_n 0, 1) := by decide +kernel
theorem dX12_howMany_87 : decode cX12_howMany 87 = .ok (.getfield 118, 3) := by decide +kernel
theorem dX12_howMany_90 : decode cX12_howMany 90 = .ok (.ireturn, 1) := by decide +kernel
theorem dX12_howMany_91 : decode cX12_howMany 91 = .ok (.aload_n 0, 1) := by decide +kernel
theorem dX12_howMany_92 : decode cX12_howMany 92 = .ok (.getfield 121, 3) := by decide +kernel
theorem dX12_howMany_95 : decode cX12_howMany 95 = .ok (.ireturn, 1) := by decide +kernel
theorem dX12_howMany_96 : decode cX12_howMany 96 = .ok (.aload_n 0, 1) := by decide +kernel
theorem dX12_howMany_97 : decode cX12_howMany 97 = .ok (.getfield 75, 3) := by decide +kernel
theorem dX12_howMany_100 : decode cX12_howMany 100 = .ok (.ireturn, 1) := by decide +kernel
theorem dX12_howMany_101 : decode cX12_howMany 101 = .ok (.aload_n 0, 1) := by decide +kernel
theorem dX12_howMany_102 : decode cX12_howMany 102 = .ok (.getfield 112, 3) := by decide +kernel
theorem dX12_howMany_105 : decode cX12_howMany 105 = .ok (.ireturn, 1) := by decide +kernel
theorem dX12_howMany_106 : decode cX12_howMany 106 = .ok (.aload_n 0, 1) := by decide +kernel
theorem dX12_howMany_107 : decode cX12_howMany 107 = .ok (.getfield 207, 3) := by decide +kernel
theorem dX12_howMany_110 : decode cX12_howMany 110 = .ok (.ireturn, 1) := by decide +kernel
theorem dX12_howMany_111 : decode cX12_howMany 111 = .ok (.bipush (-102), 2) := by decide +kernel
theorem dX12_howMany_113 : decode cX12_howMany 113 = .ok (.ireturn, 1) := by decide +kernel
theorem dX12_count_0 : decode cX12_count 0 = .ok (.aload_n 0, 1) := by decide +kernel
theorem dX12_count_1 : decode cX12_count 1 = .ok (.iload_n 1, 1) := by decide +kernel
theorem dX12_count_2 : decode cX12_count 2 = .ok (.invokevirtual 253, 3) := by decide +kernel
theorem dX12_count_5 : decode cX12_count 5 = .ok (.ireturn, 1) := by decide +kernel
theorem dX12_mix_0 : decode cX12_mix 0 = .ok (.aload_n 0, 1) := by decide +kernel
theorem dX12_mix_1 : decode cX12_mix 1 = .ok (.ldc2_w 256, 3) := by decide +kernel
theorem dX12_mix_4 : decode cX12_mix 4 = .ok (.aload_n 0, 1) := by decide +kernel
theorem dX12_mix_5 : decode cX12_mix 5 = .ok (.getfield 258, 3) := by decide +kernel
theorem dX12_mix_8 : decode cX12_mix 8 = .ok (.lmul, 1) := by decide +kernel
theorem dX12_mix_9 : decode cX12_mix 9 = .ok (.lload_n 1, 1) := by decide +kernel
theorem dX12_mix_10 : decode cX12_mix 10 = .ok (.ladd, 1) := by decide +kernel
theorem dX12_mix_11 : decode cX12_mix 11 = .ok (.putfield 258, 3) := by decide +kernel
theorem dX12_mix_14 : decode cX12_mix 14 = .ok (.return_, 1) := by decide +kernel
theorem dX12_digest_0 : decode cX12_digest 0 = .ok (.aload_n 0, 1) := by decide +kernel
theorem dX12_digest_1 : decode cX12_digest 1 = .ok (.ldc2_w 261, 3) := by decide +kernel
theorem dX12_digest_4 : decode cX12_digest 4 = .ok (.putfield 258, 3) := by decide +kernel
theorem dX12_digest_7 : decode cX12_digest 7 = .ok (.iconst 0, 1) := by decide +kernel
theorem dX12_digest_8 : decode cX12_digest 8 = .ok (.istore_n 1, 1) := by decide +kernel
theorem dX12_digest_9 : decode cX12_digest 9 = .ok (.iload_n 1, 1) := by decide +kernel
theorem dX12_digest_10 : decode cX12_digest 10 = .ok (.aload_n 0, 1) := by decide +kernel
theorem dX12_digest_11 : decode cX12_digest 11 = .ok (.getfield 106, 3) := by decide +kernel
theorem dX12_digest_14 : decode cX12_digest 14 = .ok (.if_icmp .ge 34, 3) := by decide +kernel
theorem dX12_digest_17 : decode cX12_digest 17 = .ok (.iconst 0, 1) := by decide +kernel
theorem dX12_digest_18 : decode cX12_digest 18 = .ok (.istore_n 2, 1) := by decide +kernel
theorem dX12_digest_19 : decode cX12_digest 19 = .ok (.iload_n 2, 1) := by decide +kernel
theorem dX12_digest_20 : decode cX12_digest 20 = .ok (.bipush 9, 2) := by decide +kernel
theorem dX12_digest_22 : decode cX12_digest 22 = .ok (.if_icmp .ge 20, 3) := by decide +kernel
theorem dX12_digest_25 : decode cX12_digest 25 = .ok (.aload_n 0, 1) := by decide +kernel
theorem dX12_digest_26 : decode cX12_digest 26 = .ok (.aload_n 0, 1) := by decide +kernel
theorem dX12_digest_27 : decode cX12_digest 27 = .ok (.iload_n 1, 1) := by decide +kernel
theorem dX12_digest_28 : decode cX12_digest 28 = .ok (.iload_n 2, 1) := by decide +kernel
theorem dX12_digest_29 : decode cX12_digest 29 = .ok (.invokevirtual 158, 3) := by decide +kernel
theorem dX12_digest_32 : decode cX12_digest 32 = .ok (.i2l, 1) := by decide +kernel
theorem dX12_digest_33 : decode cX12_digest 33 = .ok (.invokevirtual 263, 3) := by decide +kernel
theorem dX12_digest_36 : decode cX12_digest 36 = .ok (.iinc 2 1, 3) := by decide +kernel
theorem dX12_digest_39 : decode cX12_digest 39 = .ok (.goto (-20), 3) := by decide +kernel
theorem dX12_digest_42 : decode cX12_digest 42 = .ok (.iinc 1 1, 3) := by decide +kernel
theorem dX12_digest_45 : decode cX12_digest 45 = .ok (.goto (-36), 3) := by decide +kernel
theorem dX12_digest_48 : decode cX12_digest 48 = .ok (.iconst 0, 1) := by decide +kernel
theorem dX12_digest_49 : decode cX12_digest 49 = .ok (.istore_n 1, 1) := by decide +kernel
theorem dX12_digest_50 : decode cX12_digest 50 = .ok (.iload_n 1, 1) := by decide +kernel
theorem dX12_digest_51 : decode cX12_digest 51 = .ok (.aload_n 0, 1) := by decide +kernel
theorem dX12_digest_52 : decode cX12_digest 52 = .ok (.getfield 109, 3) := by decide +kernel
theorem dX12_digest_55 : decode cX12_digest 55 = .ok (.if_icmp .ge 34, 3) := by decide +kernel
theorem dX12_digest_58 : decode cX12_digest 58 = .ok (.iconst 0, 1) := by decide +kernel
theorem dX12_digest_59 : decode cX12_digest 59 = .ok (.istore_n 2, 1) := by decide +kernel
theorem dX12_digest_60 : decode cX12_digest 60 = .ok (.iload_n 2, 1) := by decide +kernel
theorem dX12_digest_61 : decode cX12_digest 61 = .ok (.bipush 6, 2) := by decide +kernel
theorem dX12_digest_63 : decode cX12_digest 63 = .ok (.if_icmp .ge 20, 3) := by decide +kernel
theorem dX12_digest_66 : decode cX12_digest 66 = .ok (.aload_n 0, 1) := by decide +kernel
theorem dX12_digest_67 : decode cX12_digest 67 = .ok (.aload_n 0, 1) := by decide +kernel
theorem dX12_digest_68 : decode cX12_digest 68 = .ok (.iload_n 1, 1) := by decide +kernel
theorem dX12_digest_69 : decode cX12_digest 69 = .ok (.iload_n 2, 1) := by decide +kernel
theorem dX12_digest_70 : decode cX12_digest 70 = .ok (.invokevirtual 173, 3) := by decide +kernel
theorem dX12_digest_73 : decode cX12_digest 73 = .ok (.i2l, 1) := by decide +kernel
theorem dX12_digest_74 : decode cX12_digest 74 = .ok (.invokevirtual 263, 3) := by decide +kernel
theorem dX12_digest_77 : decode cX12_digest 77 = .ok (.iinc 2 1, 3) := by decide +kernel
theorem dX12_digest_80 : decode cX12_digest 80 = .ok (.goto (-20), 3) := by decide +kernel
theorem dX12_digest_83 : decode cX12_digest 83 = .ok (.iinc 1 1, 3) := by decide +kernel
theorem dX12_digest_86 : decode cX12_digest 86 = .ok (.goto (-36), 3) := by decide +kernel
theorem dX12_digest_89 : decode cX12_digest 89 = .ok (.aload_n 0, 1) := by decide +kernel
theorem dX12_digest_90 : decode cX12_digest 90 = .ok (.getfield 106, 3) := by decide +kernel
theorem dX12_digest_93 : decode cX12_digest 93 = .ok (.ifCond .le 48, 3) := by decide +kernel
theorem dX12_digest_96 : decode cX12_digest 96 = .ok (.aload_n 0, 1) := by decide +kernel
theorem dX12_digest_97 : decode cX12_digest 97 = .ok (.aload_n 0, 1) := by decide +kernel
theorem dX12_digest_98 : decode cX12_digest 98 = .ok (.iconst 0, 1) := by decide +kernel
theorem dX12_digest_99 : decode cX12_digest 99 = .ok (.invokevirtual 197, 3) := by decide +kernel
theorem dX12_digest_102 : decode cX12_digest 102 = .ok (.i2l, 1) := by decide +kernel
theorem dX12_digest_103 : decode cX12_digest 103 = .ok (.invokevirtual 263, 3) := by decide +kernel
theorem dX12_digest_106 : decode cX12_digest 106 = .ok (.aload_n 0, 1) := by decide +kernel
theorem dX12_digest_107 : decode cX12_digest 107 = .ok (.aload_n 0, 1) := by decide +kernel
theorem dX12_digest_108 : decode cX12_digest 108 = .ok (.iconst 1, 1) := by decide +kernel
theorem dX12_digest_109 : decode cX12_digest 109 = .ok (.invokevirtual 197, 3) := by decide +kernel
theorem dX12_digest_112 : decode cX12_digest 112 = .ok (.i2l, 1) := by decide +kernel
theorem dX12_digest_113 : decode cX12_digest 113 = .ok (.invokevirtual 263, 3) := by decide +kernel
theorem dX12_digest_116 : decode cX12_digest 116 = .ok (.bipush 10, 2) := by decide +kernel
theorem dX12_digest_118 : decode cX12_digest 118 = .ok (.istore_n 1, 1) := by decide +kernel
theorem dX12_digest_119 : decode cX12_digest 119 = .ok (.iload_n 1, 1) := by decide +kernel
theorem dX12_digest_120 : decode cX12_digest 120 = .ok (.bipush 14, 2) := by decide +kernel
theorem dX12_digest_122 : decode cX12_digest 122 = .ok (.if_icmp .ge 19, 3) := by decide +kernel
theorem dX12_digest_125 : decode cX12_digest 125 = .ok (.aload_n 0, 1) := by decide +kernel
theorem dX12_digest_126 : decode cX12_digest 126 = .ok (.aload_n 0, 1) := by decide +kernel
theorem dX12_digest_127 : decode cX12_digest 127 = .ok (.iload_n 1, 1) := by decide +kernel
theorem dX12_digest_128 : decode cX12_digest 128 = .ok (.invokevirtual 197, 3) := by decide +kernel
theorem dX12_digest_131 : decode cX12_digest 131 = .ok (.i2l, 1) := by decide +kernel
theorem dX12_digest_132 : decode cX12_digest 132 = .ok (.invokevirtual 263, 3) := by decide +kernel
theorem dX12_digest_135 : decode cX12_digest 135 = .ok (.iinc 1 1, 3) := by decide +kernel
theorem dX12_digest_138 : decode cX12_digest 138 = .ok (.goto (-19), 3) := by decide +kernel
theorem dX12_digest_141 : decode cX12_digest 141 = .ok (.iconst 0, 1) := by decide +kernel
theorem dX12_digest_142 : decode cX12_digest 142 = .ok (.istore_n 1, 1) := by decide +kernel
theorem dX12_digest_143 : decode cX12_digest 143 = .ok (.iload_n 1, 1) := by decide +kernel
theorem dX12_digest_144 : decode cX12_digest 144 = .ok (.aload_n 0, 1) := by decide +kernel
theorem dX12_digest_145 : decode cX12_digest 145 = .ok (.getfield 75, 3) := by decide +kernel
theorem dX12_digest_148 : decode cX12_digest 148 = .ok (.if_icmp .ge 20, 3) := by decide +kernel
theorem dX12_digest_151 : decode cX12_digest 151 = .ok (.aload_n 0, 1) := by decide +kernel
theorem dX12_digest_152 : decode cX12_digest 152 = .ok (.aload_n 0, 1) := by decide +kernel
theorem dX12_digest_153 : decode cX12_digest 153 = .ok (.getfield 43, 3) := by decide +kernel
theorem dX12_digest_156 : decode cX12_digest 156 = .ok (.iload_n 1, 1) := by decide +kernel
theorem dX12_digest_157 : decode cX12_digest 157 = .ok (.baload, 1) := by decide +kernel
theorem dX12_digest_158 : decode cX12_digest 158 = .ok (.i2l, 1) := by decide +kernel
theorem dX12_digest_159 : decode cX12_digest 159 = .ok (.invokevirtual 263, 3) := by decide +kernel
theorem dX12_digest_162 : decode cX12_digest 162 = .ok (.iinc 1 1, 3) := by decide +kernel
theorem dX12_digest_165 : decode cX12_digest 165 = .ok (.goto (-22), 3) := by decide +kernel
theorem dX12_digest_168 : decode cX12_digest 168 = .ok (.iconst 0, 1) := by decide +kernel
theorem dX12_digest_169 : decode cX12_digest 169 = .ok (.istore_n 1, 1) := by decide +kernel
theorem dX12_digest_170 : decode cX12_digest 170 = .ok (.iload_n 1, 1) := by decide +kernel
theorem dX12_digest_171 : decode cX12_digest 171 = .ok (.bipush 10, 2) := by decide +kernel
theorem dX12_digest_173 : decode cX12_digest 173 = .ok (.if_icmp .ge 19, 3) := by decide +kernel
theorem dX12_digest_176 : decode cX12_digest 176 = .ok (.aload_n 0, 1) := by decide +kernel
theorem dX12_digest_177 : decode cX12_digest 177 = .ok (.aload_n 0, 1) := by decide +kernel
theorem dX12_digest_178 : decode cX12_digest 178 = .ok (.iload_n 1, 1) := by decide +kernel
theorem dX12_digest_179 : decode cX12_digest 179 = .ok (.invokevirtual 253, 3) := by decide +kernel
theorem dX12_digest_182 : decode cX12_digest 182 = .ok (.i2l, 1) := by decide +kernel
theorem dX12_digest_183 : decode cX12_digest 183 = .ok (.invokevirtual 263, 3) := by decide +kernel
theorem dX12_digest_186 : decode cX12_digest 186 = .ok (.iinc 1 1, 3) := by decide +kernel
theorem dX12_digest_189 : decode cX12_digest 189 = .ok (.goto (-19), 3) := by decide +kernel
theorem dX12_digest_192 : decode cX12_digest 192 = .ok (.aload_n 0, 1) := by decide +kernel
theorem dX12_digest_193 : decode cX12_digest 193 = .ok (.getfield 258, 3) := by decide +kernel
theorem dX12_digest_196 : decode cX12_digest 196 = .ok (.lreturn, 1) := by decide +kernel
theorem dJ6_bitCount_0f7a4_0 : decode cJ6_bitCount_0f7a4 0 = .ok (.iload_n 0, 1) := by decide +kernel
theorem dJ6_bitCount_0f7a4_1 : decode cJ6_bitCount_0f7a4 1 = .ok (.iload_n 0, 1) := by decide +kernel
theorem dJ6_bitCount_0f7a4_2 : decode cJ6_bitCount_0f7a4 2 = .ok (.iconst 1, 1) := by decide +kernel
theorem dJ6_bitCount_0f7a4_3 : decode cJ6_bitCount_0f7a4 3 = .ok (.iushr, 1) := by decide +kernel
theorem dJ6_bitCount_0f7a4_4 : decode cJ6_bitCount_0f7a4 4 = .ok (.ldc_w 265, 3) := by decide +kernel
theorem dJ6_bitCount_0f7a4_7 : decode cJ6_bitCount_0f7a4 7 = .ok (.iand, 1) := by decide +kernel
theorem dJ6_bitCount_0f7a4_8 : decode cJ6_bitCount_0f7a4 8 = .ok (.isub, 1) := by decide +kernel
theorem dJ6_bitCount_0f7a4_9 : decode cJ6_bitCount_0f7a4 9 = .ok (.istore_n 0, 1) := by decide +kernel
theorem dJ6_bitCount_0f7a4_10 : decode cJ6_bitCount_0f7a4 10 = .ok (.iload_n 0, 1) := by decide +kernel
theorem dJ6_bitCount_0f7a4_11 : decode cJ6_bitCount_0f7a4 11 = .ok (.ldc_w 266, 3) := by decide +kernel
theorem dJ6_bitCount_0f7a4_14 : decode cJ6_bitCount_0f7a4 14 = .ok (.iand, 1) := by decide +kernel
theorem dJ6_bitCount_0f7a4_15 : decode cJ6_bitCount_0f7a4 15 = .ok (.iload_n 0, 1) := by decide +kernel
theorem dJ6_bitCount_0f7a4_16 : decode cJ6_bitCount_0f7a4 16 = .ok (.iconst 2, 1) := by decide +kernel
theorem dJ6_bitCount_0f7a4_17 : decode cJ6_bitCount_0f7a4 17 = .ok (.iushr, 1) := by decide +kernel
theorem dJ6_bitCount_0f7a4_18 : decode cJ6_bitCount_0f7a4 18 = .ok (.ldc_w 266, 3) := by decide +kernel
theorem dJ6_bitCount_0f7a4_21 : decode cJ6_bitCount_0f7a4 21 = .ok (.iand, 1) := by decide +kernel
theorem dJ6_bitCount_0f7a4_22 : decode cJ6_bitCount_0f7a4 22 = .ok (.iadd, 1) := by decide +kernel
theorem dJ6_bitCount_0f7a4_23 : decode cJ6_bitCount_0f7a4 23 = .ok (.istore_n 0, 1) := by decide +kernel
theorem dJ6_bitCount_0f7a4_24 : decode cJ6_bitCount_0f7a4 24 = .ok (.iload_n 0, 1) := by decide +kernel
theorem dJ6_bitCount_0f7a4_25 : decode cJ6_bitCount_0f7a4 25 = .ok (.iload_n 0, 1) := by decide +kernel
theorem dJ6_bitCount_0f7a4_26 : decode cJ6_bitCount_0f7a4 26 = .ok (.iconst 4, 1) := by decide +kernel
theorem dJ6_bitCount_0f7a4_27 : decode cJ6_bitCount_0f7a4 27 = .ok (.iushr, 1) := by decide +kernel
theorem dJ6_bitCount_0f7a4_28 : decode cJ6_bitCount_0f7a4 28 = .ok (.iadd, 1) := by decide +kernel
theorem dJ6_bitCount_0f7a4_29 : decode cJ6_bitCount_0f7a4 29 = .ok (.ldc_w 267, 3) := by decide +kernel
theorem dJ6_bitCount_0f7a4_32 : decode cJ6_bitCount_0f7a4 32 = .ok (.iand, 1) := by decide +kernel
theorem dJ6_bitCount_0f7a4_33 : decode cJ6_bitCount_0f7a4 33 = .ok (.istore_n 0, 1) := by decide +kernel
theorem dJ6_bitCount_0f7a4_34 : decode cJ6_bitCount_0f7a4 34 = .ok (.iload_n 0, 1) := by decide +kernel
theorem dJ6_bitCount_0f7a4_35 : decode cJ6_bitCount_0f7a4 35 = .ok (.iload_n 0, 1) := by decide +kernel
theorem dJ6_bitCount_0f7a4_36 : decode cJ6_bitCount_0f7a4 36 = .ok (.bipush 8, 2) := by decide +kernel
theorem dJ6_bitCount_0f7a4_38 : decode cJ6_bitCount_0f7a4 38 = .ok (.iushr, 1) := by decide +kernel
theorem dJ6_bitCount_0f7a4_39 : decode cJ6_bitCount_0f7a4 39 = .ok (.iadd, 1) := by decide +kernel
theorem dJ6_bitCount_0f7a4_40 : decode cJ6_bitCount_0f7a4 40 = .ok (.istore_n 0, 1) := by decide +kernel
theorem dJ6_bitCount_0f7a4_41 : decode cJ6_bitCount_0f7a4 41 = .ok (.iload_n 0, 1) := by decide +kernel
theorem dJ6_bitCount_0f7a4_42 : decode cJ6_bitCount_0f7a4 42 = .ok (.iload_n 0, 1) := by decide +kernel
theorem dJ6_bitCount_0f7a4_43 : decode cJ6_bitCount_0f7a4 43 = .ok (.bipush 16, 2) := by decide +kernel
theorem dJ6_bitCount_0f7a4_45 : decode cJ6_bitCount_0f7a4 45 = .ok (.iushr, 1) := by decide +kernel
theorem dJ6_bitCount_0f7a4_46 : decode cJ6_bitCount_0f7a4 46 = .ok (.iadd, 1) := by decide +kernel
theorem dJ6_bitCount_0f7a4_47 : decode cJ6_bitCount_0f7a4 47 = .ok (.istore_n 0, 1) := by decide +kernel
theorem dJ6_bitCount_0f7a4_48 : decode cJ6_bitCount_0f7a4 48 = .ok (.iload_n 0, 1) := by decide +kernel
theorem dJ6_bitCount_0f7a4_49 : decode cJ6_bitCount_0f7a4 49 = .ok (.bipush 63, 2) := by decide +kernel
theorem dJ6_bitCount_0f7a4_51 : decode cJ6_bitCount_0f7a4 51 = .ok (.iand, 1) := by decide +kernel
theorem dJ6_bitCount_0f7a4_52 : decode cJ6_bitCount_0f7a4 52 = .ok (.ireturn, 1) := by decide +kernel
theorem dJ9_abs_0f7a4_0 : decode cJ9_abs_0f7a4 0 = .ok (.iload_n 0, 1) := by decide +kernel
theorem dJ9_abs_0f7a4_1 : decode cJ9_abs_0f7a4 1 = .ok (.ifCond .ge 8, 3) := by decide +kernel
theorem dJ9_abs_0f7a4_4 : decode cJ9_abs_0f7a4 4 = .ok (.iload_n 0, 1) := by decide +kernel
theorem dJ9_abs_0f7a4_5 : decode cJ9_abs_0f7a4 5 = .ok (.ineg, 1) := by decide +kernel
theorem dJ9_abs_0f7a4_6 : decode cJ9_abs_0f7a4 6 = .ok (.goto 4, 3) := by decide +kernel
theorem dJ9_abs_0f7a4_9 : decode cJ9_abs_0f7a4 9 = .ok (.iload_n 0, 1) := by decide +kernel
theorem dJ9_abs_0f7a4_10 : decode cJ9_abs_0f7a4 10 = .ok (.ireturn, 1) := by decide +kernel
theorem dJ9_max_7cf53_0 : decode cJ9_max_7cf53 0 = .ok (.iload_n 0, 1) := by decide +kernel
theorem dJ9_max_7cf53_1 : decode cJ9_max_7cf53 1 = .ok (.iload_n 1, 1) := by decide +kernel
theorem dJ9_max_7cf53_2 : decode cJ9_max_7cf53 2 = .ok (.if_icmp .lt 7, 3) := by decide +kernel
theorem dJ9_max_7cf53_5 : decode cJ9_max_7cf53 5 = .ok (.iload_n 0, 1) := by decide +kernel
theorem dJ9_max_7cf53_6 : decode cJ9_max_7cf53 6 = .ok (.goto 4, 3) := by decide +kernel
theorem dJ9_max_7cf53_9 : decode cJ9_max_7cf53 9 = .ok (.iload_n 1, 1) := by decide +kernel
theorem dJ9_max_7cf53_10 : decode cJ9_max_7cf53 10 = .ok (.ireturn, 1) := by decide +kernel
theorem dJ9_min_7cf53_0 : decode cJ9_min_7cf53 0 = .ok (.iload_n 0, 1) := by decide +kernel
theorem dJ9_min_7cf53_1 : decode cJ9_min_7cf53 1 = .ok (.iload_n 1, 1) := by decide +kernel
theorem dJ9_min_7cf53_2 : decode cJ9_min_7cf53 2 = .ok (.if_icmp .gt 7, 3) := by decide +kernel
theorem dJ9_min_7cf53_5 : decode cJ9_min_7cf53 5 = .ok (.iload_n 0, 1) := by decide +kernel
theorem dJ9_min_7cf53_6 : decode cJ9_min_7cf53 6 = .ok (.goto 4, 3) := by decide +kernel
theorem dJ9_min_7cf53_9 : decode cJ9_min_7cf53 9 = .ok (.iload_n 1, 1) := by decide +kernel
theorem dJ9_min_7cf53_10 : decode cJ9_min_7cf53 10 = .ok (.ireturn, 1) := by decide +kernel
theorem dL_law_0 : decode cL_law 0 = .ok (.new 7, 3) := by decide +kernel
theorem dL_law_3 : decode cL_law 3 = .ok (.dup, 1) := by decide +kernel
theorem dL_law_4 : decode cL_law 4 = .ok (.invokespecial 9, 3) := by decide +kernel
theorem dL_law_7 : decode cL_law 7 = .ok (.astore_n 1, 1) := by decide +kernel
theorem dL_law_8 : decode cL_law 8 = .ok (.new 10, 3) := by decide +kernel
theorem dL_law_11 : decode cL_law 11 = .ok (.dup, 1) := by decide +kernel
theorem dL_law_12 : decode cL_law 12 = .ok (.invokespecial 12, 3) := by decide +kernel
theorem dL_law_15 : decode cL_law 15 = .ok (.astore_n 2, 1) := by decide +kernel
theorem dL_law_16 : decode cL_law 16 = .ok (.iconst 0, 1) := by decide +kernel
theorem dL_law_17 : decode cL_law 17 = .ok (.istore_n 3, 1) := by decide +kernel
theorem dL_law_18 : decode cL_law 18 = .ok (.iload_n 3, 1) := by decide +kernel
theorem dL_law_19 : decode cL_law 19 = .ok (.aload_n 0, 1) := by decide +kernel
theorem dL_law_20 : decode cL_law 20 = .ok (.arraylength, 1) := by decide +kernel
theorem dL_law_21 : decode cL_law 21 = .ok (.iconst 4, 1) := by decide +kernel
theorem dL_law_22 : decode cL_law 22 = .ok (.isub, 1) := by decide +kernel
theorem dL_law_23 : decode cL_law 23 = .ok (.if_icmp .gt 587, 3) := by decide +kernel
theorem dL_law_26 : decode cL_law 26 = .ok (.aload_n 0, 1) := by decide +kernel
theorem dL_law_27 : decode cL_law 27 = .ok (.iload_n 3, 1) := by decide +kernel
theorem dL_law_28 : decode cL_law 28 = .ok (.iaload, 1) := by decide +kernel
theorem dL_law_29 : decode cL_law 29 = .ok (.bipush 31, 2) := by decide +kernel
theorem dL_law_31 : decode cL_law 31 = .ok (.iand, 1) := by decide +kernel
theorem dL_law_32 : decode cL_law 32 = .ok (.tableswitch 572 0 18 #[92, 115, 128, 141, 154, 187, 220, 253, 286, 309, 358, 381, 394, 453, 466, 509, 522, 535, 558], 92) := by decide +kernel
theorem dL_law_124 : decode cL_law 124 = .ok (.aload_n 1, 1) := by decide +kernel
theorem dL_law_125 : decode cL_law 125 = .ok (.aload_n 0, 1) := by decide +kernel
theorem dL_law_126 : decode cL_law 126 = .ok (.iload_n 3, 1) := by decide +kernel
theorem dL_law_127 : decode cL_law 127 = .ok (.iconst 1, 1) := by decide +kernel
theorem dL_law_128 : decode cL_law 128 = .ok (.iadd, 1) := by decide +kernel
theorem dL_law_129 : decode cL_law 129 = .ok (.iaload, 1) := by decide +kernel
theorem dL_law_130 : decode cL_law 130 = .ok (.invokevirtual 13, 3) := by decide +kernel
theorem dL_law_133 : decode cL_law 133 = .ok (.aload_n 2, 1) := by decide +kernel
theorem dL_law_134 : decode cL_law 134 = .ok (.aload_n 0, 1) := by decide +kernel
theorem dL_law_135 : decode cL_law 135 = .ok (.iload_n 3, 1) := by decide +kernel
theorem dL_law_136 : decode cL_law 136 = .ok (.iconst 1, 1) := by decide +kernel
theorem dL_law_137 : decode cL_law 137 = .ok (.iadd, 1) := by decide +kernel
theorem dL_law_138 : decode cL_law 138 = .ok (.iaload, 1) := by decide +kernel
theorem dL_law_139 : decode cL_law 139 = .ok (.invokevirtual 17, 3) := by decide +kernel
theorem dL_law_142 : decode cL_law 142 = .ok (.if_icmp .eq 462, 3) := by decide +kernel
theorem dL_law_145 : decode cL_law 145 = .ok (.iconst 0, 1) := by decide +kernel
theorem dL_law_146 : decode cL_law 146 = .ok (.ireturn, 1) := by decide +kernel
theorem dL_law_147 : decode cL_law 147 = .ok (.aload_n 1, 1) := by decide +kernel
theorem dL_law_148 : decode cL_law 148 = .ok (.invokevirtual 18, 3) := by decide +kernel
theorem dL_law_151 : decode cL_law 151 = .ok (.aload_n 2, 1) := by decide +kernel
theorem dL_law_152 : decode cL_law 152 = .ok (.invokevirtual 22, 3) := by decide +kernel
theorem dL_law_155 : decode cL_law 155 = .ok (.if_icmp .eq 449, 3) := by decide +kernel
theorem dL_law_158 : decode cL_law 158 = .ok (.iconst 0, 1) := by decide +kernel
theorem dL_law_159 : decode cL_law 159 = .ok (.ireturn, 1) := by decide +kernel
theorem dL_law_160 : decode cL_law 160 = .ok (.aload_n 1, 1) := by decide +kernel
theorem dL_law_161 : decode cL_law 161 = .ok (.invokevirtual 23, 3) := by decide +kernel
theorem dL_law_164 : decode cL_law 164 = .ok (.aload_n 2, 1) := by decide +kernel
theorem dL_law_165 : decode cL_law 165 = .ok (.invokevirtual 26, 3) := by decide +kernel
theorem dL_law_168 : decode cL_law 168 = .ok (.if_icmp .eq 436, 3) := by decide +kernel
theorem dL_law_171 : decode cL_law 171 = .ok (.iconst 0, 1) := by decide +kernel
theorem dL_law_172 : decode cL_law 172 = .ok (.ireturn, 1) := by decide +kernel
theorem dL_law_173 : decode cL_law 173 = .ok (.aload_n 1, 1) := by decide +kernel
theorem dL_law_174 : decode cL_law 174 = .ok (.invokevirtual 27, 3) := by decide +kernel
theorem dL_law_177 : decode cL_law 177 = .ok (.aload_n 2, 1) := by decide +kernel
theorem dL_law_178 : decode cL_law 178 = .ok (.invokevirtual 30, 3) := by decide +kernel
theorem dL_law_181 : decode cL_law 181 = .ok (.if_icmp .eq 423, 3) := by decide +kernel
theorem dL_law_184 : decode cL_law 184 = .ok (.iconst 0, 1) := by decide +kernel
theorem dL_law_185 : decode cL_law 185 = .ok (.ireturn, 1) := by decide +kernel
theorem dL_law_186 : decode cL_law 186 = .ok (.aload_n 1, 1) := by decide +kernel
theorem dL_law_187 : decode cL_law 187 = .ok (.aload_n 0, 1) := by decide +kernel
theorem dL_law_188 : decode cL_law 188 = .ok (.iload_n 3, 1) := by decide +kernel
theorem dL_law_189 : decode cL_law 189 = .ok (.iconst 1, 1) := by decide +kernel
theorem dL_law_190 : decode cL_law 190 = .ok (.iadd, 1) := by decide +kernel
theorem dL_law_191 : decode cL_law 191 = .ok (.iaload, 1) := by decide +kernel
theorem dL_law_192 : decode cL_law 192 = .ok (.aload_n 0, 1) := by decide +kernel
theorem dL_law_193 : decode cL_law 193 = .ok (.iload_n 3, 1) := by decide +kernel
theorem dL_law_194 : decode cL_law 194 = .ok (.iconst 2, 1) := by decide +kernel
theorem dL_law_195 : decode cL_law 195 = .ok (.iadd, 1) := by decide +kernel
theorem dL_law_196 : decode cL_law 196 = .ok (.iaload, 1) := by decide +kernel
theorem dL_law_197 : decode cL_law 197 = .ok (.invokevirtual 31, 3) := by decide +kernel
theorem dL_law_200 : decode cL_law 200 = .ok (.aload_n 2, 1) := by decide +kernel
theorem dL_law_201 : decode cL_law 201 = .ok (.aload_n 0, 1) := by decide +kernel
theorem dL_law_202 : decode cL_law 202 = .ok (.iload_n 3, 1) := by decide +kernel
theorem dL_law_203 : decode cL_law 203 = .ok (.iconst 1, 1) := by decide +kernel
theorem dL_law_204 : decode cL_law 204 = .ok (.iadd, 1) := by decide +kernel
theorem dL_law_205 : decode cL_law 205 = .ok (.iaload, 1) := by decide +kernel
theorem dL_law_206 : decode cL_law 206 = .ok (.aload_n 0, 1) := by decide +kernel
theorem dL_law_207 : decode cL_law 207 = .ok (.iload_n 3, 1) := by decide +kernel
theorem dL_law_208 : decode cL_law 208 = .ok (.iconst 2, 1) := by decide +kernel
theorem dL_law_209 : decode cL_law 209 = .ok (.iadd, 1) := by decide +kernel
theorem dL_law_210 : decode cL_law 210 = .ok (.iaload, 1) := by decide +kernel
theorem dL_law_211 : decode cL_law 211 = .ok (.invokevirtual 35, 3) := by decide +kernel
theorem dL_law_214 : decode cL_law 214 = .ok (.if_icmp .eq 390, 3) := by decide +kernel
theorem dL_law_217 : decode cL_law 217 = .ok (.iconst 0, 1) := by decide +kernel
theorem dL_law_218 : decode cL_law 218 = .ok (.ireturn, 1) := by decide +kernel
theorem dL_law_219 : decode cL_law 219 = .ok (.aload_n 1, 1) := by decide +kernel
theorem dL_law_220 : decode cL_law 220 = .ok (.aload_n 0, 1) := by decide +kernel
theorem dL_law_221 : decode cL_law 221 = .ok (.iload_n 3, 1) := by decide +kernel
theorem dL_law_222 : decode cL_law 222 = .ok (.iconst 1, 1) := by decide +kernel
theorem dL_law_223 : decode cL_law 223 = .ok (.iadd, 1) := by decide +kernel
theorem dL_law_224 : decode cL_law 224 = .ok (.iaload, 1) := by decide +kernel
theorem dL_law_225 : decode cL_law 225 = .ok (.aload_n 0, 1) := by decide +kernel
theorem dL_law_226 : decode cL_law 226 = .ok (.iload_n 3, 1) := by decide +kernel
theorem dL_law_227 : decode cL_law 227 = .ok (.iconst 2, 1) := by decide +kernel
theorem dL_law_228 : decode cL_law 228 = .ok (.iadd, 1) := by decide +kernel
theorem dL_law_229 : decode cL_law 229 = .ok (.iaload, 1) := by decide +kernel
theorem dL_law_230 : decode cL_law 230 = .ok (.invokevirtual 36, 3) := by decide +kernel
theorem dL_law_233 : decode cL_law 233 = .ok (.aload_n 2, 1) := by decide +kernel
theorem dL_law_234 : decode cL_law 234 = .ok (.aload_n 0, 1) := by decide +kernel
theorem dL_law_235 : decode cL_law 235 = .ok (.iload_n 3, 1) := by decide +kernel
theorem dL_law_236 : decode cL_law 236 = .ok (.iconst 1, 1) := by decide +kernel
theorem dL_law_237 : decode cL_law 237 = .ok (.iadd, 1) := by decide +kernel
theorem dL_law_238 : decode cL_law 238 = .ok (.iaload, 1) := by decide +kernel
theorem dL_law_239 : decode cL_law 239 = .ok (.aload_n 0, 1) := by decide +kernel
theorem dL_law_240 : decode cL_law 240 = .ok (.iload_n 3, 1) := by decide +kernel
theorem dL_law_241 : decode cL_law 241 = .ok (.iconst 2, 1) := by decide +kernel
theorem dL_law_242 : decode cL_law 242 = .ok (.iadd, 1) := by decide +kernel
theorem dL_law_243 : decode cL_law 243 = .ok (.iaload, 1) := by decide +kernel
theorem dL_law_244 : decode cL_law 244 = .ok (.invokevirtual 39, 3) := by decide +kernel
theorem dL_law_247 : decode cL_law 247 = .ok (.if_icmp .eq 357, 3) := by decide +kernel
theorem dL_law_250 : decode cL_law 250 = .ok (.iconst 0, 1) := by decide +kernel
theorem dL_law_251 : decode cL_law 251 = .ok (.ireturn, 1) := by decide +kernel
theorem dL_law_252 : decode cL_law 252 = .ok (.aload_n 1, 1) := by decide +kernel
theorem dL_law_253 : decode cL_law 253 = .ok (.aload_n 0, 1) := by decide +kernel
theorem dL_law_254 : decode cL_law 254 = .ok (.iload_n 3, 1) := by decide +kernel
theorem dL_law_255 : decode cL_law 255 = .ok (.iconst 1, 1) := by decide +kernel
theorem dL_law_256 : decode cL_law 256 = .ok (.iadd, 1) := by decide +kernel
theorem dL_law_257 : decode cL_law 257 = .ok (.iaload, 1) := by decide +kernel
theorem dL_law_258 : decode cL_law 258 = .ok (.aload_n 0, 1) := by decide +kernel
theorem dL_law_259 : decode cL_law 259 = .ok (.iload_n 3, 1) := by decide +kernel
theorem dL_law_260 : decode cL_law 260 = .ok (.iconst 2, 1) := by decide +kernel
theorem dL_law_261 : decode cL_law 261 = .ok (.iadd, 1) := by decide +kernel
theorem dL_law_262 : decode cL_law 262 = .ok (.iaload, 1) := by decide +kernel
theorem dL_law_263 : decode cL_law 263 = .ok (.invokevirtual 40, 3) := by decide +kernel
theorem dL_law_266 : decode cL_law 266 = .ok (.aload_n 2, 1) := by decide +kernel
theorem dL_law_267 : decode cL_law 267 = .ok (.aload_n 0, 1) := by decide +kernel
theorem dL_law_268 : decode cL_law 268 = .ok (.iload_n 3, 1) := by decide +kernel
theorem dL_law_269 : decode cL_law 269 = .ok (.iconst 1, 1) := by decide +kernel
theorem dL_law_270 : decode cL_law 270 = .ok (.iadd, 1) := by decide +kernel
theorem dL_law_271 : decode cL_law 271 = .ok (.iaload, 1) := by decide +kernel
theorem dL_law_272 : decode cL_law 272 = .ok (.aload_n 0, 1) := by decide +kernel
theorem dL_law_273 : decode cL_law 273 = .ok (.iload_n 3, 1) := by decide +kernel
theorem dL_law_274 : decode cL_law 274 = .ok (.iconst 2, 1) := by decide +kernel
theorem dL_law_275 : decode cL_law 275 = .ok (.iadd, 1) := by decide +kernel
theorem dL_law_276 : decode cL_law 276 = .ok (.iaload, 1) := by decide +kernel
theorem dL_law_277 : decode cL_law 277 = .ok (.invokevirtual 43, 3) := by decide +kernel
theorem dL_law_280 : decode cL_law 280 = .ok (.if_icmp .eq 324, 3) := by decide +kernel
theorem dL_law_283 : decode cL_law 283 = .ok (.iconst 0, 1) := by decide +kernel
theorem dL_law_284 : decode cL_law 284 = .ok (.ireturn, 1) := by decide +kernel
theorem dL_law_285 : decode cL_law 285 = .ok (.aload_n 1, 1) := by decide +kernel
theorem dL_law_286 : decode cL_law 286 = .ok (.aload_n 0, 1) := by decide +kernel
theorem dL_law_287 : decode cL_law 287 = .ok (.iload_n 3, 1) := by decide +kernel
theorem dL_law_288 : decode cL_law 288 = .ok (.iconst 1, 1) := by decide +kernel
theorem dL_law_289 : decode cL_law 289 = .ok (.iadd, 1) := by decide +kernel
theorem dL_law_290 : decode cL_law 290 = .ok (.iaload, 1) := by decide +kernel
theorem dL_law_291 : decode cL_law 291 = .ok (.aload_n 0, 1) := by decide +kernel
theorem dL_law_292 : decode cL_law 292 = .ok (.iload_n 3, 1) := by decide +kernel
theorem dL_law_293 : decode cL_law 293 = .ok (.iconst 2, 1) := by decide +kernel
theorem dL_law_294 : decode cL_law 294 = .ok (.iadd, 1) := by decide +kernel
theorem dL_law_295 : decode cL_law 295 = .ok (.iaload, 1) := by decide +kernel
theorem dL_law_296 : decode cL_law 296 = .ok (.invokevirtual 44, 3) := by decide +kernel
theorem dL_law_299 : decode cL_law 299 = .ok (.aload_n 2, 1) := by decide +kernel
theorem dL_law_300 : decode cL_law 300 = .ok (.aload_n 0, 1) := by decide +kernel
theorem dL_law_301 : decode cL_law 301 = .ok (.iload_n 3, 1) := by decide +kernel
theorem dL_law_302 : decode cL_law 302 = .ok (.iconst 1, 1) := by decide +kernel
theorem dL_law_303 : decode cL_law 303 = .ok (.iadd, 1) := by decide +kernel
theorem dL_law_304 : decode cL_law 304 = .ok (.iaload, 1) := by decide +kernel
theorem dL_law_305 : decode cL_law 305 = .ok (.aload_n 0, 1) := by decide +kernel
theorem dL_law_306 : decode cL_law 306 = .ok (.iload_n 3, 1) := by decide +kernel
theorem dL_law_307 : decode cL_law 307 = .ok (.iconst 2, 1) := by decide +kernel
theorem dL_law_308 : decode cL_law 308 = .ok (.iadd, 1) := by decide +kernel
theorem dL_law_309 : decode cL_law 309 = .ok (.iaload, 1) := by decide +kernel
theorem dL_law_310 : decode cL_law 310 = .ok (.invokevirtual 47, 3) := by decide +kernel
theorem dL_law_313 : decode cL_law 313 = .ok (.if_icmp .eq 291, 3) := by decide +kernel
theorem dL_law_316 : decode cL_law 316 = .ok (.iconst 0, 1) := by decide +kernel
theorem dL_law_317 : decode cL_law 317 = .ok (.ireturn, 1) := by decide +kernel
theorem dL_law_318 : decode cL_law 318 = .ok (.aload_n 1, 1) := by decide +kernel
theorem dL_law_319 : decode cL_law 319 = .ok (.aload_n 0, 1) := by decide +kernel
theorem dL_law_320 : decode cL_law 320 = .ok (.iload_n 3, 1) := by decide +kernel
theorem dL_law_321 : decode cL_law 321 = .ok (.iconst 1, 1) := by decide +kernel
theorem dL_law_322 : decode cL_law 322 = .ok (.iadd, 1) := by decide +kernel
theorem dL_law_323 : decode cL_law 323 = .ok (.iaload, 1) := by decide +kernel
theorem dL_law_324 : decode cL_law 324 = .ok (.invokevirtual 48, 3) := by decide +kernel
theorem dL_law_327 : decode cL_law 327 = .ok (.aload_n 2, 1) := by decide +kernel
theorem dL_law_328 : decode cL_law 328 = .ok (.aload_n 0, 1) := by decide +kernel
theorem dL_law_329 : decode cL_law 329 = .ok (.iload_n 3, 1) := by decide +kernel
theorem dL_law_330 : decode cL_law 330 = .ok (.iconst 1, 1) := by decide +kernel
theorem dL_law_331 : decode cL_law 331 = .ok (.iadd, 1) := by decide +kernel
theorem dL_law_332 : decode cL_law 332 = .ok (.iaload, 1) := by decide +kernel
theorem dL_law_333 : decode cL_law 333 = .ok (.invokevirtual 51, 3) := by decide +kernel
theorem dL_law_336 : decode cL_law 336 = .ok (.if_icmp .eq 268, 3) := by decide +kernel
theorem dL_law_339 : decode cL_law 339 = .ok (.iconst 0, 1) := by decide +kernel
theorem dL_law_340 : decode cL_law 340 = .ok (.ireturn, 1) := by decide +kernel
theorem dL_law_341 : decode cL_law 341 = .ok (.aload_n 1, 1) := by decide +kernel
theorem dL_law_342 : decode cL_law 342 = .ok (.aload_n 0, 1) := by decide +kernel
theorem dL_law_343 : decode cL_law 343 = .ok (.iload_n 3, 1) := by decide +kernel
theorem dL_law_344 : decode cL_law 344 = .ok (.iconst 1, 1) := by decide +kernel
theorem dL_law_345 : decode cL_law 345 = .ok (.iadd, 1) := by decide +kernel
theorem dL_law_346 : decode cL_law 346 = .ok (.iaload, 1) := by decide +kernel
theorem dL_law_347 : decode cL_law 347 = .ok (.aload_n 0, 1) := by decide +kernel
theorem dL_law_348 : decode cL_law 348 = .ok (.iload_n 3, 1) := by decide +kernel
theorem dL_law_349 : decode cL_law 349 = .ok (.iconst 2, 1) := by decide +kernel
theorem dL_law_350 : decode cL_law 350 = .ok (.iadd, 1) := by decide +kernel
theorem dL_law_351 : decode cL_law 351 = .ok (.iaload, 1) := by decide +kernel
theorem dL_law_352 : decode cL_law 352 = .ok (.ifCond .eq 7, 3) := by decide +kernel
theorem dL_law_355 : decode cL_law 355 = .ok (.iconst 1, 1) := by decide +kernel
theorem dL_law_356 : decode cL_law 356 = .ok (.goto 4, 3) := by decide +kernel
theorem dL_law_359 : decode cL_law 359 = .ok (.iconst 0, 1) := by decide +kernel
theorem dL_law_360 : decode cL_law 360 = .ok (.invokevirtual 52, 3) := by decide +kernel
theorem dL_law_363 : decode cL_law 363 = .ok (.aload_n 2, 1) := by decide +kernel
theorem dL_law_364 : decode cL_law 364 = .ok (.aload_n 0, 1) := by decide +kernel
theorem dL_law_365 : decode cL_law 365 = .ok (.iload_n 3, 1) := by decide +kernel
theorem dL_law_366 : decode cL_law 366 = .ok (.iconst 1, 1) := by decide +kernel
theorem dL_law_367 : decode cL_law 367 = .ok (.iadd, 1) := by decide +kernel
theorem dL_law_368 : decode cL_law 368 = .ok (.iaload, 1) := by decide +kernel
theorem dL_law_369 : decode cL_law 369 = .ok (.aload_n 0, 1) := by decide +kernel
theorem dL_law_370 : decode cL_law 370 = .ok (.iload_n 3, 1) := by decide +kernel
theorem dL_law_371 : decode cL_law 371 = .ok (.iconst 2, 1) := by decide +kernel
theorem dL_law_372 : decode cL_law 372 = .ok (.iadd, 1) := by decide +kernel
theorem dL_law_373 : decode cL_law 373 = .ok (.iaload, 1) := by decide +kernel
theorem dL_law_374 : decode cL_law 374 = .ok (.ifCond .eq 7, 3) := by decide +kernel
theorem dL_law_377 : decode cL_law 377 = .ok (.iconst 1, 1) := by decide +kernel
theorem dL_law_378 : decode cL_law 378 = .ok (.goto 4, 3) := by decide +kernel
theorem dL_law_381 : decode cL_law 381 = .ok (.iconst 0, 1) := by decide +kernel
theorem dL_law_382 : decode cL_law 382 = .ok (.invokevirtual 56, 3) := by decide +kernel
theorem dL_law_385 : decode cL_law 385 = .ok (.if_icmp .eq 219, 3) := by decide +kernel
theorem dL_law_388 : decode cL_law 388 = .ok (.iconst 0, 1) := by decide +kernel
theorem dL_law_389 : decode cL_law 389 = .ok (.ireturn, 1) := by decide +kernel
theorem dL_law_390 : decode cL_law 390 = .ok (.aload_n 1, 1) := by decide +kernel
theorem dL_law_391 : decode cL_law 391 = .ok (.aload_n 0, 1) := by decide +kernel
theorem dL_law_392 : decode cL_law 392 = .ok (.iload_n 3, 1) := by decide +kernel
theorem dL_law_393 : decode cL_law 393 = .ok (.iconst 1, 1) := by decide +kernel
theorem dL_law_394 : decode cL_law 394 = .ok (.iadd, 1) := by decide +kernel
theorem dL_law_395 : decode cL_law 395 = .ok (.iaload, 1) := by decide +kernel
theorem dL_law_396 : decode cL_law 396 = .ok (.invokevirtual 57, 3) := by decide +kernel
theorem dL_law_399 : decode cL_law 399 = .ok (.aload_n 2, 1) := by decide +kernel
theorem dL_law_400 : decode cL_law 400 = .ok (.aload_n 0, 1) := by decide +kernel
theorem dL_law_401 : decode cL_law 401 = .ok (.iload_n 3, 1) := by decide +kernel
theorem dL_law_402 : decode cL_law 402 = .ok (.iconst 1, 1) := by decide +kernel
theorem dL_law_403 : decode cL_law 403 = .ok (.iadd, 1) := by decide +kernel
theorem dL_law_404 : decode cL_law 404 = .ok (.iaload, 1) := by decide +kernel
theorem dL_law_405 : decode cL_law 405 = .ok (.invokevirtual 60, 3) := by decide +kernel
theorem dL_law_408 : decode cL_law 408 = .ok (.if_icmp .eq 196, 3) := by decide +kernel
theorem dL_law_411 : decode cL_law 411 = .ok (.iconst 0, 1) := by decide +kernel
theorem dL_law_412 : decode cL_law 412 = .ok (.ireturn, 1) := by decide +kernel
theorem dL_law_413 : decode cL_law 413 = .ok (.aload_n 1, 1) := by decide +kernel
theorem dL_law_414 : decode cL_law 414 = .ok (.invokevirtual 61, 3) := by decide +kernel
theorem dL_law_417 : decode cL_law 417 = .ok (.aload_n 2, 1) := by decide +kernel
theorem dL_law_418 : decode cL_law 418 = .ok (.invokevirtual 64, 3) := by decide +kernel
theorem dL_law_421 : decode cL_law 421 = .ok (.if_icmp .eq 183, 3) := by decide +kernel
theorem dL_law_424 : decode cL_law 424 = .ok (.iconst 0, 1) := by decide +kernel
theorem dL_law_425 : decode cL_law 425 = .ok (.ireturn, 1) := by decide +kernel
theorem dL_law_426 : decode cL_law 426 = .ok (.aload_n 1, 1) := by decide +kernel
theorem dL_law_427 : decode cL_law 427 = .ok (.aload_n 0, 1) := by decide +kernel
theorem dL_law_428 : decode cL_law 428 = .ok (.iload_n 3, 1) := by decide +kernel
theorem dL_law_429 : decode cL_law 429 = .ok (.iconst 1, 1) := by decide +kernel
theorem dL_law_430 : decode cL_law 430 = .ok (.iadd, 1) := by decide +kernel
theorem dL_law_431 : decode cL_law 431 = .ok (.iaload, 1) := by decide +kernel
theorem dL_law_432 : decode cL_law 432 = .ok (.aload_n 0, 1) := by decide +kernel
theorem dL_law_433 : decode cL_law 433 = .ok (.iload_n 3, 1) := by decide +kernel
theorem dL_law_434 : decode cL_law 434 = .ok (.iconst 2, 1) := by decide +kernel
theorem dL_law_435 : decode cL_law 435 = .ok (.iadd, 1) := by decide +kernel
theorem dL_law_436 : decode cL_law 436 = .ok (.iaload, 1) := by decide +kernel
theorem dL_law_437 : decode cL_law 437 = .ok (.aload_n 0, 1) := by decide +kernel
theorem dL_law_438 : decode cL_law 438 = .ok (.iload_n 3, 1) := by decide +kernel
theorem dL_law_439 : decode cL_law 439 = .ok (.iconst 3, 1) := by decide +kernel
theorem dL_law_440 : decode cL_law 440 = .ok (.iadd, 1) := by decide +kernel
theorem dL_law_441 : decode cL_law 441 = .ok (.iaload, 1) := by decide +kernel
theorem dL_law_442 : decode cL_law 442 = .ok (.ifCond .eq 7, 3) := by decide +kernel
theorem dL_law_445 : decode cL_law 445 = .ok (.iconst 1, 1) := by decide +kernel
theorem dL_law_446 : decode cL_law 446 = .ok (.goto 4, 3) := by decide +kernel
theorem dL_law_449 : decode cL_law 449 = .ok (.iconst 0, 1) := by decide +kernel
theorem dL_law_450 : decode cL_law 450 = .ok (.invokevirtual 65, 3) := by decide +kernel
theorem dL_law_453 : decode cL_law 453 = .ok (.aload_n 2, 1) := by decide +kernel
theorem dL_law_454 : decode cL_law 454 = .ok (.aload_n 0, 1) := by decide +kernel
theorem dL_law_455 : decode cL_law 455 = .ok (.iload_n 3, 1) := by decide +kernel
theorem dL_law_456 : decode cL_law 456 = .ok (.iconst 1, 1) := by decide +kernel
theorem dL_law_457 : decode cL_law 457 = .ok (.iadd, 1) := by decide +kernel
theorem dL_law_458 : decode cL_law 458 = .ok (.iaload, 1) := by decide +kernel
theorem dL_law_459 : decode cL_law 459 = .ok (.aload_n 0, 1) := by decide +kernel
theorem dL_law_460 : decode cL_law 460 = .ok (.iload_n 3, 1) := by decide +kernel
theorem dL_law_461 : decode cL_law 461 = .ok (.iconst 2, 1) := by decide +kernel
theorem dL_law_462 : decode cL_law 462 = .ok (.iadd, 1) := by decide +kernel
theorem dL_law_463 : decode cL_law 463 = .ok (.iaload, 1) := by decide +kernel
theorem dL_law_464 : decode cL_law 464 = .ok (.aload_n 0, 1) := by decide +kernel
theorem dL_law_465 : decode cL_law 465 = .ok (.iload_n 3, 1) := by decide +kernel
theorem dL_law_466 : decode cL_law 466 = .ok (.iconst 3, 1) := by decide +kernel
theorem dL_law_467 : decode cL_law 467 = .ok (.iadd, 1) := by decide +kernel
theorem dL_law_468 : decode cL_law 468 = .ok (.iaload, 1) := by decide +kernel
theorem dL_law_469 : decode cL_law 469 = .ok (.ifCond .eq 7, 3) := by decide +kernel
theorem dL_law_472 : decode cL_law 472 = .ok (.iconst 1, 1) := by decide +kernel
theorem dL_law_473 : decode cL_law 473 = .ok (.goto 4, 3) := by decide +kernel
theorem dL_law_476 : decode cL_law 476 = .ok (.iconst 0, 1) := by decide +kernel
theorem dL_law_477 : decode cL_law 477 = .ok (.invokevirtual 69, 3) := by decide +kernel
theorem dL_law_480 : decode cL_law 480 = .ok (.if_icmp .eq 124, 3) := by decide +kernel
theorem dL_law_483 : decode cL_law 483 = .ok (.iconst 0, 1) := by decide +kernel
theorem dL_law_484 : decode cL_law 484 = .ok (.ireturn, 1) := by decide +kernel
theorem dL_law_485 : decode cL_law 485 = .ok (.aload_n 1, 1) := by decide +kernel
theorem dL_law_486 : decode cL_law 486 = .ok (.invokevirtual 70, 3) := by decide +kernel
theorem dL_law_489 : decode cL_law 489 = .ok (.aload_n 2, 1) := by decide +kernel
theorem dL_law_490 : decode cL_law 490 = .ok (.invokevirtual 73, 3) := by decide +kernel
theorem dL_law_493 : decode cL_law 493 = .ok (.if_icmp .eq 111, 3) := by decide +kernel
theorem dL_law_496 : decode cL_law 496 = .ok (.iconst 0, 1) := by decide +kernel
theorem dL_law_497 : decode cL_law 497 = .ok (.ireturn, 1) := by decide +kernel
theorem dL_law_498 : decode cL_law 498 = .ok (.aload_n 1, 1) := by decide +kernel
theorem dL_law_499 : decode cL_law 499 = .ok (.aload_n 0, 1) := by decide +kernel
theorem dL_law_500 : decode cL_law 500 = .ok (.iload_n 3, 1) := by decide +kernel
theorem dL_law_501 : decode cL_law 501 = .ok (.iconst 1, 1) := by decide +kernel
theorem dL_law_502 : decode cL_law 502 = .ok (.iadd, 1) := by decide +kernel
theorem dL_law_503 : decode cL_law 503 = .ok (.iaload, 1) := by decide +kernel
theorem dL_law_504 : decode cL_law 504 = .ok (.aload_n 0, 1) := by decide +kernel
theorem dL_law_505 : decode cL_law 505 = .ok (.iload_n 3, 1) := by decide +kernel
theorem dL_law_506 : decode cL_law 506 = .ok (.iconst 2, 1) := by decide +kernel
theorem dL_law_507 : decode cL_law 507 = .ok (.iadd, 1) := by decide +kernel
theorem dL_law_508 : decode cL_law 508 = .ok (.iaload, 1) := by decide +kernel
theorem dL_law_509 : decode cL_law 509 = .ok (.aload_n 0, 1) := by decide +kernel
theorem dL_law_510 : decode cL_law 510 = .ok (.iload_n 3, 1) := by decide +kernel
theorem dL_law_511 : decode cL_law 511 = .ok (.iconst 3, 1) := by decide +kernel
theorem dL_law_512 : decode cL_law 512 = .ok (.iadd, 1) := by decide +kernel
theorem dL_law_513 : decode cL_law 513 = .ok (.iaload, 1) := by decide +kernel
theorem dL_law_514 : decode cL_law 514 = .ok (.invokevirtual 74, 3) := by decide +kernel
theorem dL_law_517 : decode cL_law 517 = .ok (.aload_n 2, 1) := by decide +kernel
theorem dL_law_518 : decode cL_law 518 = .ok (.aload_n 0, 1) := by decide +kernel
theorem dL_law_519 : decode cL_law 519 = .ok (.iload_n 3, 1) := by decide +kernel
theorem dL_law_520 : decode cL_law 520 = .ok (.iconst 1, 1) := by decide +kernel
theorem dL_law_521 : decode cL_law 521 = .ok (.iadd, 1) := by decide +kernel
theorem dL_law_522 : decode cL_law 522 = .ok (.iaload, 1) := by decide +kernel
theorem dL_law_523 : decode cL_law 523 = .ok (.aload_n 0, 1) := by decide +kernel
theorem dL_law_524 : decode cL_law 524 = .ok (.iload_n 3, 1) := by decide +kernel
theorem dL_law_525 : decode cL_law 525 = .ok (.iconst 2, 1) := by decide +kernel
theorem dL_law_526 : decode cL_law 526 = .ok (.iadd, 1) := by decide +kernel
theorem dL_law_527 : decode cL_law 527 = .ok (.iaload, 1) := by decide +kernel
theorem dL_law_528 : decode cL_law 528 = .ok (.aload_n 0, 1) := by decide +kernel
theorem dL_law_529 : decode cL_law 529 = .ok (.iload_n 3, 1) := by decide +kernel
theorem dL_law_530 : decode cL_law 530 = .ok (.iconst 3, 1) := by decide +kernel
theorem dL_law_531 : decode cL_law 531 = .ok (.iadd, 1) := by decide +kernel
theorem dL_law_532 : decode cL_law 532 = .ok (.iaload, 1) := by decide +kernel
theorem dL_law_533 : decode cL_law 533 = .ok (.invokevirtual 78, 3) := by decide +kernel
theorem dL_law_536 : decode cL_law 536 = .ok (.if_icmp .eq 68, 3) := by decide +kernel
theorem dL_law_539 : decode cL_law 539 = .ok (.iconst 0, 1) := by decide +kernel
theorem dL_law_540 : decode cL_law 540 = .ok (.ireturn, 1) := by decide +kernel
theorem dL_law_541 : decode cL_law 541 = .ok (.aload_n 1, 1) := by decide +kernel
theorem dL_law_542 : decode cL_law 542 = .ok (.invokevirtual 79, 3) := by decide +kernel
theorem dL_law_545 : decode cL_law 545 = .ok (.aload_n 2, 1) := by decide +kernel
theorem dL_law_546 : decode cL_law 546 = .ok (.invokevirtual 82, 3) := by decide +kernel
theorem dL_law_549 : decode cL_law 549 = .ok (.if_icmp .eq 55, 3) := by decide +kernel
theorem dL_law_552 : decode cL_law 552 = .ok (.iconst 0, 1) := by decide +kernel
theorem dL_law_553 : decode cL_law 553 = .ok (.ireturn, 1) := by decide +kernel
theorem dL_law_554 : decode cL_law 554 = .ok (.aload_n 1, 1) := by decide +kernel
theorem dL_law_555 : decode cL_law 555 = .ok (.invokevirtual 83, 3) := by decide +kernel
theorem dL_law_558 : decode cL_law 558 = .ok (.aload_n 2, 1) := by decide +kernel
theorem dL_law_559 : decode cL_law 559 = .ok (.invokevirtual 86, 3) := by decide +kernel
theorem dL_law_562 : decode cL_law 562 = .ok (.if_icmp .eq 42, 3) := by decide +kernel
theorem dL_law_565 : decode cL_law 565 = .ok (.iconst 0, 1) := by decide +kernel
theorem dL_law_566 : decode cL_law 566 = .ok (.ireturn, 1) := by decide +kernel
theorem dL_law_567 : decode cL_law 567 = .ok (.aload_n 1, 1) := by decide +kernel
theorem dL_law_568 : decode cL_law 568 = .ok (.aload_n 0, 1) := by decide +kernel
theorem dL_law_569 : decode cL_law 569 = .ok (.iload_n 3, 1) := by decide +kernel
theorem dL_law_570 : decode cL_law 570 = .ok (.iconst 1, 1) := by decide +kernel
theorem dL_law_571 : decode cL_law 571 = .ok (.iadd, 1) := by decide +kernel
theorem dL_law_572 : decode cL_law 572 = .ok (.iaload, 1) := by decide +kernel
theorem dL_law_573 : decode cL_law 573 = .ok (.invokevirtual 87, 3) := by decide +kernel
theorem dL_law_576 : decode cL_law 576 = .ok (.aload_n 2, 1) := by decide +kernel
theorem dL_law_577 : decode cL_law 577 = .ok (.aload_n 0, 1) := by decide +kernel
theorem dL_law_578 : decode cL_law 578 = .ok (.iload_n 3, 1) := by decide +kernel
theorem dL_law_579 : decode cL_law 579 = .ok (.iconst 1, 1) := by decide +kernel
theorem dL_law_580 : decode cL_law 580 = .ok (.iadd, 1) := by decide +kernel
theorem dL_law_581 : decode cL_law 581 = .ok (.iaload, 1) := by decide +kernel
theorem dL_law_582 : decode cL_law 582 = .ok (.invokevirtual 90, 3) := by decide +kernel
theorem dL_law_585 : decode cL_law 585 = .ok (.if_icmp .eq 19, 3) := by decide +kernel
theorem dL_law_588 : decode cL_law 588 = .ok (.iconst 0, 1) := by decide +kernel
theorem dL_law_589 : decode cL_law 589 = .ok (.ireturn, 1) := by decide +kernel
theorem dL_law_590 : decode cL_law 590 = .ok (.aload_n 1, 1) := by decide +kernel
theorem dL_law_591 : decode cL_law 591 = .ok (.invokevirtual 91, 3) := by decide +kernel
theorem dL_law_594 : decode cL_law 594 = .ok (.aload_n 2, 1) := by decide +kernel
theorem dL_law_595 : decode cL_law 595 = .ok (.invokevirtual 95, 3) := by decide +kernel
theorem dL_law_598 : decode cL_law 598 = .ok (.lcmp, 1) := by decide +kernel
theorem dL_law_599 : decode cL_law 599 = .ok (.ifCond .eq 5, 3) := by decide +kernel
theorem dL_law_602 : decode cL_law 602 = .ok (.iconst 0, 1) := by decide +kernel
theorem dL_law_603 : decode cL_law 603 = .ok (.ireturn, 1) := by decide +kernel
theorem dL_law_604 : decode cL_law 604 = .ok (.iinc 3 4, 3) := by decide +kernel
theorem dL_law_607 : decode cL_law 607 = .ok (.goto (-589), 3) := by decide +kernel
theorem dL_law_610 : decode cL_law 610 = .ok (.iconst 1, 1) := by decide +kernel
theorem dL_law_611 : decode cL_law 611 = .ok (.ireturn, 1) := by decide +kernel
end
section
/-! THE PURE MACHINE: a method's walk told over a list of cells whose numbers are their places in it -/
abbrev XC : Type := (FieldType × Nat × ((Nat → Int32) ⊕ (Nat → Option Nat))) ⊕ (Nat × List Value)
abbrev XH : Type := List XC
def xcv (α : Nat → Nat) : Value → Value
  | .ref i => .ref (α i)
  | v => v
def xok (n : Nat) (v : Value) : Prop := ∀ i, v = .ref i → i < n
def xce (α : Nat → Nat) : ((Nat → Int32) ⊕ (Nat → Option Nat)) → ((Nat → Int32) ⊕ (Nat → Int64) ⊕ (Nat → UInt32) ⊕ (Nat → UInt64) ⊕ (Nat → Option Nat))
  | .inl f => .inl f
  | .inr f => .inr (.inr (.inr (.inr (fun j => (f j).map α))))
def xoc (n : Nat) : XC → Prop
  | .inl (_, _, .inl _) => True
  | .inl (_, _, .inr f) => ∀ j i, f j = some i → i < n
  | .inr (_, fs) => ∀ v ∈ fs, xok n v
def XCR (α : Nat → Nat) (tys : List (ClassId × FieldType)) : XC → va_E → Prop
  | .inl (ty, n, f), e => ∃ (k : ClassId) (t0 : Nat), tys[t0]? = some (k, ty) ∧ e = .inl (k, n, xce α f)
  | .inr (ci, fs), e => e = .inr (ci, fs.map (xcv α))
def XREL (α : Nat → Nat) (h : XH) (tys : List (ClassId × FieldType)) (ws : va_W) : Prop :=
  ws.length = h.length ∧ ∀ (i : Nat) (c : XC), h[i]? = some c → xoc h.length c ∧ ∃ e, ws[i]? = some (α i, e) ∧ XCR α tys c e
def xag (n : Nat) (α β : Nat → Nat) : Prop := ∀ i, i < n → β i = α i
theorem xag.rf (n : Nat) (α : Nat → Nat) : xag n α α := fun _ _ => rfl
theorem xag.tr {n m : Nat} {α β γ : Nat → Nat} (h : xag n α β) (hn : n ≤ m) (h2 : xag m β γ) : xag n α γ := fun i hi => (h2 i (Nat.lt_of_lt_of_le hi hn)).trans (h i hi)
theorem xcv_cat (α : Nat → Nat) (v : Value) : (xcv α v).category = v.category := by cases v <;> rfl
theorem xcv_ag {n : Nat} {α β : Nat → Nat} (h : xag n α β) {v : Value} (hv : xok n v) : xcv β v = xcv α v := by
  cases v <;> try rfl
  rename_i a
  show Value.ref (β a) = Value.ref (α a)
  rw [h a (hv a rfl)]
theorem xok.mono {n m : Nat} (h : n ≤ m) {v : Value} (hv : xok n v) : xok m v := fun i e => Nat.lt_of_lt_of_le (hv i e) h
theorem xok_int (n : Nat) (x : Int32) : xok n (.int x) := fun _ h => by cases h
theorem xok_long (n : Nat) (x : Int64) : xok n (.long x) := fun _ h => by cases h
theorem xok_null (n : Nat) : xok n .null := fun _ h => by cases h
theorem xok_ref {n a : Nat} (h : a < n) : xok n (.ref a) := fun _ e => by cases e; exact h
theorem xoc.mono {n m : Nat} (h : n ≤ m) {c : XC} (hc : xoc n c) : xoc m c := by
  rcases c with ⟨ty, k, f | f⟩ | ⟨ci, fs⟩
  · trivial
  · exact fun j i e => Nat.lt_of_lt_of_le (hc j i e) h
  · exact fun v hv => (hc v hv).mono h
theorem XCR.ag {n : Nat} {α β : Nat → Nat} (h : xag n α β) {tys tys' : List (ClassId × FieldType)} (ht : ∀ (k : Nat) (q : ClassId × FieldType), tys[k]? = some q → tys'[k]? = some q) {c : XC} {e : va_E} (hc : xoc n c) (hr : XCR α tys c e) : XCR β tys' c e := by
  rcases c with ⟨ty, k, f | f⟩ | ⟨ci, fs⟩
  · obtain ⟨k, t0, h1, h2⟩ := hr
    exact ⟨k, t0, ht _ _ h1, h2⟩
  · obtain ⟨k, t0, h1, h2⟩ := hr
    refine ⟨k, t0, ht _ _ h1, ?_⟩
    have e0 : (fun j => (f j).map β) = (fun j => (f j).map α) := by
      funext j
      cases hj : f j with
      | none => rfl
      | some i => simp only [Option.map_some]; rw [h i (hc j i hj)]
    have e1 : xce β (.inr f) = xce α (.inr f) := by
      show Sum.inr (Sum.inr (Sum.inr (Sum.inr (fun j => (f j).map β)))) = Sum.inr (Sum.inr (Sum.inr (Sum.inr (fun j => (f j).map α))))
      rw [e0]
    rw [e1]; exact h2
  · show e = .inr (ci, fs.map (xcv β))
    have e1 : fs.map (xcv β) = fs.map (xcv α) := List.map_congr_left fun v hv => xcv_ag h (hc v hv)
    rw [e1]; exact hr
theorem XREL.set {α : Nat → Nat} {h : XH} {tys : List (ClassId × FieldType)} {ws : va_W} (H : XREL α h tys ws) {i : Nat} {c0 c1 : XC} {e1 : va_E} (hi : h[i]? = some c0) (ho : xoc h.length c1) (hr : XCR α tys c1 e1) : XREL α (h.set i c1) tys (ws.set i (α i, e1)) := by
  have hl := (List.getElem?_eq_some_iff.mp hi).1
  refine ⟨by simp [H.1], fun k c hk => ?_⟩
  rw [List.length_set]
  by_cases hki : k = i
  · subst hki
    rw [List.getElem?_set_self hl] at hk
    cases hk
    exact ⟨ho, e1, by rw [List.getElem?_set_self (by rw [H.1]; exact hl)], hr⟩
  · rw [List.getElem?_set_ne (Ne.symm hki)] at hk
    obtain ⟨h1, e, h2, h3⟩ := H.2 k c hk
    exact ⟨h1, e, by rw [List.getElem?_set_ne (Ne.symm hki)]; exact h2, h3⟩
def xnew (α : Nat → Nat) (n q : Nat) : Nat → Nat := fun i => if i = n then q else α i
theorem xnew_ag (α : Nat → Nat) (n q : Nat) : xag n α (xnew α n q) := fun i hi => by unfold xnew; rw [if_neg (by omega)]
theorem xnew_at (α : Nat → Nat) (n q : Nat) : xnew α n q n = q := by simp [xnew]
theorem XREL.push {α : Nat → Nat} {h : XH} {tys tys' : List (ClassId × FieldType)} {ws : va_W} (H : XREL α h tys ws) (ht : ∀ (k : Nat) (q : ClassId × FieldType), tys[k]? = some q → tys'[k]? = some q) {c : XC} {q : Nat} {e : va_E} (ho : xoc (h.length + 1) c) (hr : XCR (xnew α h.length q) tys' c e) : XREL (xnew α h.length q) (h ++ [c]) tys' (ws ++ [(q, e)]) := by
  refine ⟨by simp [H.1], fun k x hk => ?_⟩
  rw [List.length_append]
  by_cases hl : k < h.length
  · rw [List.getElem?_append_left hl] at hk
    obtain ⟨h1, e', h2, h3⟩ := H.2 k x hk
    exact ⟨h1.mono (by simp), e', by rw [List.getElem?_append_left (by rw [H.1]; exact hl), h2, xnew_ag α h.length q k hl], h3.ag (xnew_ag α h.length q) ht h1⟩
  · rw [List.getElem?_append_right (by omega)] at hk
    have hz : k - h.length < 1 := (List.getElem?_eq_some_iff.mp hk).1
    have hk0 : k = h.length := by omega
    subst hk0
    rw [Nat.sub_self] at hk
    cases hk
    refine ⟨by simpa using ho, e, ?_, hr⟩
    rw [List.getElem?_append_right (by rw [H.1]; exact Nat.le_refl _), H.1, Nat.sub_self, xnew_at]
    rfl
/-! what else persists of a state: words that a walk's start doesn't carry itself -/
def x_nest : List (String × Nat × MethodName × String) := [("ConfessBySize", 9, yX5_init, "ConfessBySize"), ("ConfessBySize", 18, yX6_init, "ConfessBySize"), ("ConfessBySize", 38, yX4_init, "ConfessBySize"), ("ConfessBySize$Standing", 20, yX10_init, "ConfessBySize")]
def x_cast : List (String × String) := [(RX8, RX3), (RX0, RX3), (RX2, RX3), (RX9, RX3), (RX9, RX8)]
def x_ao : List String := [RX3, RX1]
def x_nc : List (String × String) := [(RX0, RX8), (RX0, RX2), (RX0, RX9), (RX2, RX8), (RX2, RX0), (RX2, RX9), (RX3, RX8), (RX3, RX0), (RX3, RX2), (RX3, RX9), (RX8, RX0), (RX8, RX2), (RX8, RX9), (RX9, RX0), (RX9, RX2)]
def XNF (U : State) : Prop := (∀ q ∈ x_nest, va_Nw (.methodLinkNest q.1 q.2.1 q.2.2.1 q.2.2.2) U) ∧ (∀ q ∈ x_cast, va_Nw (.castable q.1 q.2) U) ∧ (∀ C ∈ x_ao, va_AO C U) ∧ ∀ q ∈ x_nc, va_Nc q.1 q.2 U
theorem XNF.warm {s U : State} (hW : s.WarmedH U.vm) (h : XNF s) : XNF U := ⟨fun q hq => va_Nw.warmM hW (h.1 q hq), fun q hq => va_Nw.warmC hW (h.2.1 q hq), fun C hC => va_AO.moved hW.alike (h.2.2.1 C hC), fun q hq => va_Nc.moved hW.alike (h.2.2.2 q hq)⟩
theorem XNF.same {u U : State} (e : u.vm = U.vm) (h : XNF u) : XNF U := ⟨fun q hq => va_Nw.same rfl e (h.1 q hq), fun q hq => va_Nw.same rfl e (h.2.1 q hq), fun C hC => va_AO.moved (by rw [e]; exact Vm.Alike.refl _) (h.2.2.1 C hC), fun q hq => va_Nc.moved (by rw [e]; exact Vm.Alike.refl _) (h.2.2.2 q hq)⟩
/-- the words that every contract carries -/
def AW : List Cond := lw_tbl.filter goodWord
theorem AW_good {w : Cond} (h : w ∈ AW) : (w.onTables && w.keeps) = true ∨ ∃ ty, w = .arrayClass ty := good_of_word (List.mem_filter.mp h).2
theorem AW_of {w : Cond} (h : w ∈ lw_tbl) (g : goodWord w = true) : w ∈ AW := List.mem_filter.mpr ⟨h, g⟩
def XCX (p : Program) (s : State) (m : MethodId) (args : Array Value) (c : Code) (A : Nat → Prop) (own : String) (cc : ByteArray) (nL : Nat) : Prop :=
  p.tables.exec = Jvm.exec ∧ c.code = cc ∧ c.maxLocals = nL ∧ s.vm.findClass own = some m.cls ∧ (∀ w ∈ AW, w.before args s = true) ∧ (∀ q, s.heap.size ≤ q → A q) ∧ XNF s
def XW (D : va_G) (A : Nat → Prop) (s : State) (α : Nat → Nat) (h : XH) (H : Heap) (locs : List Loc) : Prop :=
  ∃ (tys : List (ClassId × FieldType)) (ws : va_W), va_K D vwCl tys s ∧ va_P D vwCl ws H ∧ va_D A ws ∧ va_S A s.heap H locs ∧ XREL α h tys ws
def xlm (α : Nat → Nat) (ls : List (Nat × Value)) : List (Nat × Value) := ls.map (fun q => (q.1, xcv α q.2))
abbrev XK : Type := Program → Launch → Env → Room → State → MethodId → Array Value → List Frame → Method → Code → (Nat → Prop) → va_G → (Nat → Nat) → Nat → (State → Prop) → Prop
/-- THE JUDGEMENT: a walk at pc, with these locals, this operand stack and this heap, comes to the end that K speaks of; k cells of n slots are made so far -/
def XE (K : XK) (own : String) (cc : ByteArray) (nL : Nat) (k n : Nat) (pc : Nat) (ls : List (Nat × Value)) (st : List Value) (h : XH) : Prop :=
  ∀ (p : Program) (l : Launch) (e : Env) (R : Room) (s : State) (m : MethodId) (args : Array Value) (below : List Frame) (meth : Method) (c : Code) (A : Nat → Prop) (D : va_G) (α0 : Nat → Nat) (n0 : Nat) (Q : State → Prop),
    K p l e R s m args below meth c A D α0 n0 Q → XCX p s m args c A own cc nL → ∀ (α : Nat → Nat) (H : Heap) (locs : List Loc) (lsA : Array Slot), xag n0 α0 α → n0 ≤ h.length → XW D A s α h H locs → lv_has lsA nL (xlm α ls) → (∀ q ∈ ls, xok h.length q.2) → (∀ v ∈ st, xok h.length v) →
      W p l e R s m args below meth c H locs k n Q (F0 m pc lsA (st.map (xcv α)))
/-- the room of a contract of depth d that makes mc cells of ms slots -/
def XRM (d mc ms : Nat) : Room := { frames := d, cells := mc, slots := ms, locals := 64 * d }
def XQG (D : va_G) (α0 : Nat → Nat) (n0 : Nat) (P : Option Value → XH → Prop) (A : Nat → Prop) : Array Value → State → Outcome → State → Prop := fun _ st oc t =>
  (∃ (α : Nat → Nat) (v : Option Value) (h1 : XH) (tys : List (ClassId × FieldType)) (ws : va_W), oc = .returned (v.map (xcv α)) ∧ xag n0 α0 α ∧ n0 ≤ h1.length ∧ (∀ w, v = some w → xok h1.length w) ∧ P v h1 ∧ va_K D vwCl tys t ∧ va_P D vwCl ws t.heap ∧ va_D A ws ∧ XREL α h1 tys ws) ∧ va_F A st t
def XKM (y : MethodName) (ret : Option FieldType) (d mc ms : Nat) (P : Option Value → XH → Prop) : XK := fun _ _ _ R s _ args below meth _ A D α0 n0 Q =>
  R = XRM d mc ms ∧ meth.sig.returnType = ret ∧ meth.locks = false ∧ meth.name = y.name ∧ Q = MQ below (XQG D α0 n0 P A) args s mc ms A
def XPc (D : va_G) (α : Nat → Nat) (sz : Nat) (tys : List (ClassId × FieldType)) (ws : va_W) (args : List Value) : Array Value → State → Prop :=
  va_Pc (args.map (xcv α)) (fun U => U.heap.size = sz ∧ va_P D vwCl ws U.heap ∧ va_K D vwCl tys U ∧ va_D (fun _ => True) ws ∧ XNF U)
/-- a method's contract: called with these arguments over this heap it returns, and P says of its answer and of the heap behind it -/
def XSp (y : MethodName) (cc : ByteArray) (nL : Nat) (ret : Option FieldType) (d mc ms : Nat) (args : List Value) (h : XH) (P : Option Value → XH → Prop) : Prop :=
  ∀ (l : Launch) (D : va_G) (α : Nat → Nat) (sz : Nat) (tys : List (ClassId × FieldType)) (ws : va_W), XREL α h tys ws → (∀ v ∈ args, xok h.length v) →
    Met l y (Cond.code y cc nL ret :: AW) (XRM d mc ms) (XPc D α sz tys ws args) (XQG D α h.length P (va_A ws sz)) mc ms (va_A ws sz)
theorem xlv_args (α : Nat → Nat) : ∀ (vs : List Value) (i : Nat), lv_args i (vs.map (xcv α)) = xlm α (lv_args i vs)
  | [], _ => rfl
  | v :: vs, i => by
    show (i, xcv α v) :: lv_args (if (xcv α v).category = 2 then i + 2 else i + 1) (vs.map (xcv α)) = (i, xcv α v) :: xlm α (lv_args (if v.category = 2 then i + 2 else i + 1) vs)
    rw [xcv_cat, xlv_args α vs]
theorem xlg_sl (α : Nat → Nat) (vs : List Value) : (lg_sl (vs.map (xcv α))).length = (lg_sl vs).length := by
  induction vs with
  | nil => rfl
  | cons v vs ih =>
    have e : ∀ (w : Value) (t : List Value), lg_sl (w :: t) = (if w.category = 2 then [.val w, .second] else [.val w]) ++ lg_sl t := fun _ _ => rfl
    rw [List.map_cons, e, e, List.length_append, List.length_append, ih, xcv_cat]
    congr 1
    by_cases hc : v.category = 2
    · rw [if_pos hc, if_pos hc]; rfl
    · rw [if_neg hc, if_neg hc]; rfl
theorem xlv_args_ok {n : Nat} : ∀ (vs : List Value) (i : Nat), (∀ v ∈ vs, xok n v) → ∀ q ∈ lv_args i vs, xok n q.2
  | [], _, _, q, hq => by cases hq
  | v :: vs, i, h, q, hq => by
    rcases List.mem_cons.mp hq with e | hq
    · subst e; exact h v List.mem_cons_self
    · exact xlv_args_ok vs _ (fun w hw => h w (List.mem_cons_of_mem _ hw)) q hq
set_option maxHeartbeats 1000000 in
/-- a contract out of its body's walk -/
theorem XSp.of {y : MethodName} {cc : ByteArray} {nL : Nat} {ret : Option FieldType} {d mc ms : Nat} {args : List Value} {h : XH} {P : Option Value → XH → Prop} (hy : plainName y.cls = true) (hn : (lg_sl args).length ≤ nL)
    (body : XE (XKM y ret d mc ms P) y.cls cc nL 0 0 0 (lv_args 0 args) [] h) : XSp y cc nL ret d mc ms args h P := by
  intro l D α sz tys ws hR hok
  refine Met.ofW (cc := cc) (maxL := nL) (ret := ret) hy rfl ?_
  intro p e s m args' below meth c s₁ B hml hv
  obtain ⟨rfl, hsz, hP, hK, hD0, hNF⟩ := hv
  subst hsz
  have hts := atoms_spec (ws := Cond.code y cc nL ret :: AW) B.pre
  have hD := hD0.self (sz := s.heap.size)
  have hA : ∀ q : Nat, s.heap.size ≤ q → va_A ws s.heap.size q := fun q h => Or.inr h
  have hl := lv_entry (args.map (xcv α)) (n := nL) (by rw [xlg_sl]; exact hn)
  rw [lg_entry_eq]
  rw [xlv_args] at hl
  exact body p l e (XRM d mc ms) s m _ below meth c (va_A ws s.heap.size) D α h.length _ ⟨rfl, B.returns, B.notSynchronized, (name_of_methodNamed B.named B.method).1, rfl⟩
    ⟨B.exec, B.bytes, hml, findClass_of_methodNamed B.named, fun w hw => hts w (List.mem_cons_of_mem _ hw), hA, hNF⟩ α s.heap [] _ (xag.rf _ _) (Nat.le_refl _) ⟨tys, ws, hK, hP, hD, va_S.rf, hR⟩ hl (xlv_args_ok args 0 hok) (fun v hv => by cases hv)
theorem XSp.mono {y : MethodName} {cc : ByteArray} {nL : Nat} {ret : Option FieldType} {d mc ms : Nat} {args : List Value} {h : XH} {P P' : Option Value → XH → Prop} (hs : XSp y cc nL ret d mc ms args h P) (hp : ∀ v h1, P v h1 → P' v h1) : XSp y cc nL ret d mc ms args h P' := by
  intro l D α sz tys ws hR hok
  have hM := hs l D α sz tys ws hR hok
  unfold Met at hM ⊢
  refine hM.mono (fun _ _ h => h) (fun _ _ _ _ _ h => h) (fun a s o s' _ hq => ⟨⟨?_, hq.1.2⟩, hq.2⟩)
  obtain ⟨α1, v, h1, tys1, ws1, q1, q2, q3, q4, q5, q6⟩ := hq.1.1
  exact ⟨α1, v, h1, tys1, ws1, q1, q2, q3, q4, hp _ _ q5, q6⟩
end
section
/-! RULES: an instruction, a row -/
def zI (z : Int) : Int32 := Int32.ofInt z
abbrev RI (z : Int) : Prop := -2147483648 ≤ z ∧ z ≤ 2147483647
theorem zI_toInt {z : Int} (h : RI z) : (zI z).toInt = z := Int32.toInt_ofInt_of_le (by have := h.1; omega) (by have := h.2; omega)
theorem zI_of (x : Int32) : ∃ z : Int, RI z ∧ x = zI z := ⟨x.toInt, ⟨by have := Int32.le_toInt x; omega, by have := Int32.toInt_lt x; omega⟩, (Int32.ofInt_toInt x).symm⟩
theorem zI_le {a b : Int} (ha : RI a) (hb : RI b) : zI a ≤ zI b ↔ a ≤ b := by rw [Int32.le_iff_toInt_le, zI_toInt ha, zI_toInt hb]
theorem zI_lt {a b : Int} (ha : RI a) (hb : RI b) : zI a < zI b ↔ a < b := by rw [Int32.lt_iff_toInt_lt, zI_toInt ha, zI_toInt hb]
theorem zI_eq {a b : Int} (ha : RI a) (hb : RI b) : zI a = zI b ↔ a = b := by rw [← Int32.toInt_inj, zI_toInt ha, zI_toInt hb]
theorem zI_0 : (0 : Int32) = zI 0 := rfl
theorem zI_le0 {a : Int} (ha : RI a) : zI a ≤ 0 ↔ a ≤ 0 := by rw [zI_0]; exact zI_le ha ⟨by decide, by decide⟩
theorem zI_lt0 {a : Int} (ha : RI a) : zI a < 0 ↔ a < 0 := by rw [zI_0]; exact zI_lt ha ⟨by decide, by decide⟩
theorem zI_0le {a : Int} (ha : RI a) : 0 ≤ zI a ↔ 0 ≤ a := by rw [zI_0]; exact zI_le ⟨by decide, by decide⟩ ha
theorem zI_0lt {a : Int} (ha : RI a) : 0 < zI a ↔ 0 < a := by rw [zI_0]; exact zI_lt ⟨by decide, by decide⟩ ha
theorem zI_eq0 {a : Int} (ha : RI a) : zI a = 0 ↔ a = 0 := by rw [zI_0]; exact zI_eq ha ⟨by decide, by decide⟩
theorem zI_add (a b : Int) : zI a + zI b = zI (a + b) := (Int32.ofInt_add a b).symm
theorem zI_sub (a b : Int) : zI a - zI b = zI (a - b) := (Int32.ofInt_sub a b).symm
theorem zI_mul (a b : Int) : zI a * zI b = zI (a * b) := (Int32.ofInt_mul a b).symm
theorem zI_neg (a : Int) : -zI a = zI (-a) := (Int32.ofInt_neg a).symm
theorem zI_div {a b : Int} (ha : RI a) (hb : RI b) (h0 : 0 ≤ a) (h1 : 0 < b) : zI a / zI b = zI (a / b) := by
  have e := Int32.ofInt_tdiv (a := a) (b := b) (by rw [show Int32.minValue.toInt = -2147483648 from by decide]; exact ha.1) (by rw [show Int32.maxValue.toInt = 2147483647 from by decide]; exact ha.2) (by rw [show Int32.minValue.toInt = -2147483648 from by decide]; exact hb.1) (by rw [show Int32.maxValue.toInt = 2147483647 from by decide]; exact hb.2)
  rw [show zI a / zI b = Int32.ofInt a / Int32.ofInt b from rfl, ← e, Int.tdiv_eq_ediv_of_nonneg h0]; rfl
theorem zI_rem {a b : Int} (ha : RI a) (hb : RI b) (h0 : 0 ≤ a) (h1 : 0 < b) : zI a - zI a / zI b * zI b = zI (a % b) := by
  rw [zI_div ha hb h0 h1, zI_mul, zI_sub]
  congr 1
  have := Int.mul_ediv_add_emod a b
  rw [Int.mul_comm] at this
  omega
def zand (a b : Int) : Int := (zI a &&& zI b).toInt
def zor (a b : Int) : Int := (zI a ||| zI b).toInt
def zxor (a b : Int) : Int := (zI a ^^^ zI b).toInt
def zshl (a b : Int) : Int := (zI a <<< (zI b &&& 31)).toInt
def zshr (a b : Int) : Int := (zI a >>> (zI b &&& 31)).toInt
theorem zI_back (x : Int32) : zI x.toInt = x := Int32.ofInt_toInt x
theorem RI_back (x : Int32) : RI x.toInt := ⟨by have := Int32.le_toInt x; omega, by have := Int32.toInt_lt x; omega⟩
/-- locals, by their places, in order -/
def lget : List (Nat × Value) → Nat → Option Value
  | [], _ => none
  | q :: l, i => cond (Nat.beq q.1 i) (some q.2) (lget l i)
def lins (i : Nat) (v : Value) : List (Nat × Value) → List (Nat × Value)
  | [] => [(i, v)]
  | q :: l => cond (Nat.blt q.1 i) (q :: lins i v l) ((i, v) :: q :: l)
def lput (ls : List (Nat × Value)) (i : Nat) (v : Value) : List (Nat × Value) := lins i v (ls.filter (fun q => !(q.1 == i) && !(q.1 + 1 == i && q.2.category == 2)))
def lputL (ls : List (Nat × Value)) (i : Nat) (v : Value) : List (Nat × Value) := lins i v (ls.filter (fun q => !(q.1 == i) && (!(q.1 == i + 1) && !(q.1 + 1 == i && q.2.category == 2))))
theorem lins_mem {i : Nat} {v : Value} {q : Nat × Value} : ∀ {l : List (Nat × Value)}, q ∈ lins i v l → q = (i, v) ∨ q ∈ l
  | [], h => Or.inl (List.mem_singleton.mp h)
  | a :: l, h => by
    unfold lins at h
    cases hb : Nat.blt a.1 i with
    | true =>
      rw [hb] at h
      rcases List.mem_cons.mp h with e | h
      · exact Or.inr (List.mem_cons.mpr (Or.inl e))
      · exact (lins_mem h).imp id (fun h => List.mem_cons_of_mem _ h)
    | false =>
      rw [hb] at h
      exact List.mem_cons.mp h
theorem lget_mem {l : List (Nat × Value)} {i : Nat} {v : Value} (h : lget l i = some v) : (i, v) ∈ l := by
  induction l with
  | nil => cases h
  | cons q l ih =>
    unfold lget at h
    cases hb : Nat.beq q.1 i with
    | true =>
      rw [hb] at h
      have e := Nat.eq_of_beq_eq_true hb
      have e2 : q.2 = v := Option.some.inj h
      exact List.mem_cons.mpr (Or.inl (by rw [← e, ← e2]))
    | false =>
      rw [hb] at h
      exact List.mem_cons_of_mem _ (ih h)
theorem lget_at {lsA : Array Slot} {nL : Nat} {α : Nat → Nat} {ls : List (Nat × Value)} (hl : lv_has lsA nL (xlm α ls)) {i : Nat} {v : Value} (h : lget ls i = some v) : lsA[i]? = some (.val (xcv α v)) :=
  hl.2.2 (i, xcv α v) (List.mem_map.mpr ⟨(i, v), lget_mem h, rfl⟩)
theorem lput_has {lsA : Array Slot} {nL : Nat} {α : Nat → Nat} {ls : List (Nat × Value)} {i : Nat} {v : Value} (h : lv_has lsA nL ((i, xcv α v) :: (xlm α ls).filter (fun q => !(q.1 == i) && !(q.1 + 1 == i && q.2.category == 2)))) : lv_has lsA nL (xlm α (lput ls i v)) := by
  refine ⟨h.1, h.2.1, fun q hq => h.2.2 q ?_⟩
  obtain ⟨w, hw, rfl⟩ := List.mem_map.mp hq
  rcases lins_mem hw with e | e
  · subst e; exact List.mem_cons_self
  · obtain ⟨e1, e2⟩ := List.mem_filter.mp e
    exact List.mem_cons_of_mem _ (List.mem_filter.mpr ⟨List.mem_map.mpr ⟨w, e1, rfl⟩, by simpa [xcv_cat] using e2⟩)
theorem lputL_has {lsA : Array Slot} {nL : Nat} {α : Nat → Nat} {ls : List (Nat × Value)} {i : Nat} {v : Value} (h : lv_has lsA nL ((i, xcv α v) :: (xlm α ls).filter (fun q => !(q.1 == i) && (!(q.1 == i + 1) && !(q.1 + 1 == i && q.2.category == 2))))) : lv_has lsA nL (xlm α (lputL ls i v)) := by
  refine ⟨h.1, h.2.1, fun q hq => h.2.2 q ?_⟩
  obtain ⟨w, hw, rfl⟩ := List.mem_map.mp hq
  rcases lins_mem hw with e | e
  · subst e; exact List.mem_cons_self
  · obtain ⟨e1, e2⟩ := List.mem_filter.mp e
    exact List.mem_cons_of_mem _ (List.mem_filter.mpr ⟨List.mem_map.mpr ⟨w, e1, rfl⟩, by simpa [xcv_cat] using e2⟩)
theorem lput_ok {N : Nat} {ls : List (Nat × Value)} {i : Nat} {v : Value} (h : ∀ q ∈ ls, xok N q.2) (hv : xok N v) : ∀ q ∈ lput ls i v, xok N q.2 := fun q hq => by
  rcases lins_mem hq with e | e
  · subst e; exact hv
  · exact h q (List.mem_filter.mp e).1
theorem lputL_ok {N : Nat} {ls : List (Nat × Value)} {i : Nat} {v : Value} (h : ∀ q ∈ ls, xok N q.2) (hv : xok N v) : ∀ q ∈ lputL ls i v, xok N q.2 := fun q hq => by
  rcases lins_mem hq with e | e
  · subst e; exact hv
  · exact h q (List.mem_filter.mp e).1
theorem lget_ok {N : Nat} {ls : List (Nat × Value)} (h : ∀ q ∈ ls, xok N q.2) {i : Nat} {v : Value} (hv : lget ls i = some v) : xok N v := h (i, v) (lget_mem hv)
def lkeep (ls : List (Nat × Value)) (ks : List Nat) : List (Nat × Value) := ls.filter (fun q => ks.contains q.1)
theorem os_c {N : Nat} {v : Value} {st : List Value} (hv : xok N v) (h : ∀ w ∈ st, xok N w) : ∀ w ∈ v :: st, xok N w := fun w hw => by
  rcases List.mem_cons.mp hw with e | hw
  · subst e; exact hv
  · exact h w hw
theorem os_t {N : Nat} {v : Value} {st : List Value} (h : ∀ w ∈ v :: st, xok N w) : ∀ w ∈ st, xok N w := fun w hw => h w (List.mem_cons_of_mem _ hw)
theorem os_h {N : Nat} {v : Value} {st : List Value} (h : ∀ w ∈ v :: st, xok N w) : xok N v := h v List.mem_cons_self

theorem XE.iconst {K : XK} {own : String} {cc : ByteArray} {nL k n pc : Nat} {ls : List (Nat × Value)} {st : List Value} {h : XH} {z : Int} (hd : decode cc pc = .ok (.iconst z, 1))  (kk : XE K own cc nL k n (pc + 1) ls (.int (zI z) :: st) h) : XE K own cc nL k n (pc) ls (st) h := by
  intro p l e R s m args below meth c A D α0 n0 Q hK hC α H locs lsA ha hn hW hl ol os
  exact lv_iconst hC.1 hC.2.1 hd rfl (kk p l e R s m args below meth c A D α0 n0 Q hK hC α H locs lsA ha hn hW hl ol (os_c (xok_int _ _) os))
theorem XE.bipush {K : XK} {own : String} {cc : ByteArray} {nL k n pc : Nat} {ls : List (Nat × Value)} {st : List Value} {h : XH} {z : Int} (hd : decode cc pc = .ok (.bipush z, 2)) (hz : (Int8.ofInt z).toInt32 = zI z) (kk : XE K own cc nL k n (pc + 2) ls (.int (zI z) :: st) h) : XE K own cc nL k n (pc) ls (st) h := by
  intro p l e R s m args below meth c A D α0 n0 Q hK hC α H locs lsA ha hn hW hl ol os
  exact lv_bipush hC.1 hC.2.1 hd hz (kk p l e R s m args below meth c A D α0 n0 Q hK hC α H locs lsA ha hn hW hl ol (os_c (xok_int _ _) os))
theorem XE.ldc {K : XK} {own : String} {cc : ByteArray} {nL k n pc : Nat} {ls : List (Nat × Value)} {st : List Value} {h : XH} {z : Int} {idx : Nat} (hd : decode cc pc = .ok (.ldc idx, 2)) (hw : Cond.constant own idx (zI z) ∈ AW) (kk : XE K own cc nL k n (pc + 2) ls (.int (zI z) :: st) h) : XE K own cc nL k n (pc) ls (st) h := by
  intro p l e R s m args below meth c A D α0 n0 Q hK hC α H locs lsA ha hn hW hl ol os
  exact lv_ldc hC.1 hC.2.1 hC.2.2.2.1 (hC.2.2.2.2.1 _ hw) hd (kk p l e R s m args below meth c A D α0 n0 Q hK hC α H locs lsA ha hn hW hl ol (os_c (xok_int _ _) os))
theorem XE.ldc_w {K : XK} {own : String} {cc : ByteArray} {nL k n pc : Nat} {ls : List (Nat × Value)} {st : List Value} {h : XH} {z : Int} {idx : Nat} (hd : decode cc pc = .ok (.ldc_w idx, 3)) (hw : Cond.constant own idx (zI z) ∈ AW) (kk : XE K own cc nL k n (pc + 3) ls (.int (zI z) :: st) h) : XE K own cc nL k n (pc) ls (st) h := by
  intro p l e R s m args below meth c A D α0 n0 Q hK hC α H locs lsA ha hn hW hl ol os
  exact lv_ldcw hC.1 hC.2.1 hC.2.2.2.1 (hC.2.2.2.2.1 _ hw) hd (kk p l e R s m args below meth c A D α0 n0 Q hK hC α H locs lsA ha hn hW hl ol (os_c (xok_int _ _) os))
theorem XE.ldc2 {K : XK} {own : String} {cc : ByteArray} {nL k n pc : Nat} {ls : List (Nat × Value)} {st : List Value} {h : XH} {z : Int64} {idx : Nat} (hd : decode cc pc = .ok (.ldc2_w idx, 3)) (hw : Cond.constantLong own idx z ∈ AW) (kk : XE K own cc nL k n (pc + 3) ls (.long z :: st) h) : XE K own cc nL k n (pc) ls (st) h := by
  intro p l e R s m args below meth c A D α0 n0 Q hK hC α H locs lsA ha hn hW hl ol os
  exact lv_ldc2 hC.1 hC.2.1 hC.2.2.2.1 (hC.2.2.2.2.1 _ hw) hd (kk p l e R s m args below meth c A D α0 n0 Q hK hC α H locs lsA ha hn hW hl ol (os_c (xok_long _ _) os))
theorem XE.aconst_null {K : XK} {own : String} {cc : ByteArray} {nL k n pc : Nat} {ls : List (Nat × Value)} {st : List Value} {h : XH}  (hd : decode cc pc = .ok (.aconst_null, 1))  (kk : XE K own cc nL k n (pc + 1) ls (.null :: st) h) : XE K own cc nL k n (pc) ls (st) h := by
  intro p l e R s m args below meth c A D α0 n0 Q hK hC α H locs lsA ha hn hW hl ol os
  exact lv_null hC.1 hC.2.1 hd (kk p l e R s m args below meth c A D α0 n0 Q hK hC α H locs lsA ha hn hW hl ol (os_c (xok_null _) os))
theorem XE.iload_n {K : XK} {own : String} {cc : ByteArray} {nL k n pc : Nat} {ls : List (Nat × Value)} {st : List Value} {h : XH} {j : Fin 4} {x : Int32} (hd : decode cc pc = .ok (.iload_n j, 1)) (hv : lget ls (j : Nat) = some (.int x)) (kk : XE K own cc nL k n (pc + 1) ls (.int x :: st) h) : XE K own cc nL k n (pc) ls (st) h := by
  intro p l e R s m args below meth c A D α0 n0 Q hK hC α H locs lsA ha hn hW hl ol os
  exact lv_iload_n hC.1 hC.2.1 hd rfl (lget_at hl hv) (kk p l e R s m args below meth c A D α0 n0 Q hK hC α H locs lsA ha hn hW hl ol (os_c (xok_int _ _) os))
theorem XE.iload {K : XK} {own : String} {cc : ByteArray} {nL k n pc : Nat} {ls : List (Nat × Value)} {st : List Value} {h : XH} {j : Nat} {x : Int32} (hd : decode cc pc = .ok (.iload j, 2)) (hv : lget ls j = some (.int x)) (kk : XE K own cc nL k n (pc + 2) ls (.int x :: st) h) : XE K own cc nL k n (pc) ls (st) h := by
  intro p l e R s m args below meth c A D α0 n0 Q hK hC α H locs lsA ha hn hW hl ol os
  exact lv_iload hC.1 hC.2.1 hd (lget_at hl hv) (kk p l e R s m args below meth c A D α0 n0 Q hK hC α H locs lsA ha hn hW hl ol (os_c (xok_int _ _) os))
theorem XE.lload_n {K : XK} {own : String} {cc : ByteArray} {nL k n pc : Nat} {ls : List (Nat × Value)} {st : List Value} {h : XH} {j : Fin 4} {x : Int64} (hd : decode cc pc = .ok (.lload_n j, 1)) (hv : lget ls (j : Nat) = some (.long x)) (kk : XE K own cc nL k n (pc + 1) ls (.long x :: st) h) : XE K own cc nL k n (pc) ls (st) h := by
  intro p l e R s m args below meth c A D α0 n0 Q hK hC α H locs lsA ha hn hW hl ol os
  exact lv_lload_n hC.1 hC.2.1 hd rfl (lget_at hl hv) (kk p l e R s m args below meth c A D α0 n0 Q hK hC α H locs lsA ha hn hW hl ol (os_c (xok_long _ _) os))
theorem XE.lload {K : XK} {own : String} {cc : ByteArray} {nL k n pc : Nat} {ls : List (Nat × Value)} {st : List Value} {h : XH} {j : Nat} {x : Int64} (hd : decode cc pc = .ok (.lload j, 2)) (hv : lget ls j = some (.long x)) (kk : XE K own cc nL k n (pc + 2) ls (.long x :: st) h) : XE K own cc nL k n (pc) ls (st) h := by
  intro p l e R s m args below meth c A D α0 n0 Q hK hC α H locs lsA ha hn hW hl ol os
  exact lv_lload hC.1 hC.2.1 hd (lget_at hl hv) (kk p l e R s m args below meth c A D α0 n0 Q hK hC α H locs lsA ha hn hW hl ol (os_c (xok_long _ _) os))
theorem XE.aload_n {K : XK} {own : String} {cc : ByteArray} {nL k n pc : Nat} {ls : List (Nat × Value)} {st : List Value} {h : XH} {j : Fin 4} {x : Nat} (hd : decode cc pc = .ok (.aload_n j, 1)) (hv : lget ls (j : Nat) = some (.ref x)) (kk : XE K own cc nL k n (pc + 1) ls (.ref x :: st) h) : XE K own cc nL k n (pc) ls (st) h := by
  intro p l e R s m args below meth c A D α0 n0 Q hK hC α H locs lsA ha hn hW hl ol os
  exact lv_aload_n hC.1 hC.2.1 hd rfl (lget_at hl hv) (kk p l e R s m args below meth c A D α0 n0 Q hK hC α H locs lsA ha hn hW hl ol (os_c (lget_ok ol hv) os))
theorem XE.aload {K : XK} {own : String} {cc : ByteArray} {nL k n pc : Nat} {ls : List (Nat × Value)} {st : List Value} {h : XH} {j : Nat} {x : Nat} (hd : decode cc pc = .ok (.aload j, 2)) (hv : lget ls j = some (.ref x)) (kk : XE K own cc nL k n (pc + 2) ls (.ref x :: st) h) : XE K own cc nL k n (pc) ls (st) h := by
  intro p l e R s m args below meth c A D α0 n0 Q hK hC α H locs lsA ha hn hW hl ol os
  exact lv_aload hC.1 hC.2.1 hd (lget_at hl hv) (kk p l e R s m args below meth c A D α0 n0 Q hK hC α H locs lsA ha hn hW hl ol (os_c (lget_ok ol hv) os))
theorem XE.aload_nN {K : XK} {own : String} {cc : ByteArray} {nL k n pc : Nat} {ls : List (Nat × Value)} {st : List Value} {h : XH} {j : Fin 4} (hd : decode cc pc = .ok (.aload_n j, 1)) (hv : lget ls (j : Nat) = some .null) (kk : XE K own cc nL k n (pc + 1) ls (.null :: st) h) : XE K own cc nL k n (pc) ls (st) h := by
  intro p l e R s m args below meth c A D α0 n0 Q hK hC α H locs lsA ha hn hW hl ol os
  exact lv_aload_nN hC.1 hC.2.1 hd rfl (lget_at hl hv) (kk p l e R s m args below meth c A D α0 n0 Q hK hC α H locs lsA ha hn hW hl ol (os_c (xok_null _) os))
theorem XE.aloadN {K : XK} {own : String} {cc : ByteArray} {nL k n pc : Nat} {ls : List (Nat × Value)} {st : List Value} {h : XH} {j : Nat} (hd : decode cc pc = .ok (.aload j, 2)) (hv : lget ls j = some .null) (kk : XE K own cc nL k n (pc + 2) ls (.null :: st) h) : XE K own cc nL k n (pc) ls (st) h := by
  intro p l e R s m args below meth c A D α0 n0 Q hK hC α H locs lsA ha hn hW hl ol os
  exact lv_aloadN hC.1 hC.2.1 hd (lget_at hl hv) (kk p l e R s m args below meth c A D α0 n0 Q hK hC α H locs lsA ha hn hW hl ol (os_c (xok_null _) os))
theorem XE.istore_n {K : XK} {own : String} {cc : ByteArray} {nL k n pc : Nat} {ls : List (Nat × Value)} {st : List Value} {h : XH} {j : Fin 4} {x : Int32} (hd : decode cc pc = .ok (.istore_n j, 1)) (hn2 : (j : Nat) < nL) (kk : XE K own cc nL k n (pc + 1) (lput ls (j : Nat) (.int x)) (st) h) : XE K own cc nL k n (pc) ls (.int x :: st) h := by
  intro p l e R s m args below meth c A D α0 n0 Q hK hC α H locs lsA ha hn hW hl ol os
  exact lv_istore_n hC.1 hC.2.1 hd rfl hl hn2 rfl (fun ls' hl' => kk p l e R s m args below meth c A D α0 n0 Q hK hC α H locs ls' ha hn hW (lput_has hl') (lput_ok ol (os_h os)) (os_t os))
theorem XE.istore {K : XK} {own : String} {cc : ByteArray} {nL k n pc : Nat} {ls : List (Nat × Value)} {st : List Value} {h : XH} {j : Nat} {x : Int32} (hd : decode cc pc = .ok (.istore j, 2)) (hn2 : j < nL) (kk : XE K own cc nL k n (pc + 2) (lput ls j (.int x)) (st) h) : XE K own cc nL k n (pc) ls (.int x :: st) h := by
  intro p l e R s m args below meth c A D α0 n0 Q hK hC α H locs lsA ha hn hW hl ol os
  exact lv_istore hC.1 hC.2.1 hd hl hn2 rfl (fun ls' hl' => kk p l e R s m args below meth c A D α0 n0 Q hK hC α H locs ls' ha hn hW (lput_has hl') (lput_ok ol (os_h os)) (os_t os))
theorem XE.astore_n {K : XK} {own : String} {cc : ByteArray} {nL k n pc : Nat} {ls : List (Nat × Value)} {st : List Value} {h : XH} {j : Fin 4} {x : Nat} (hd : decode cc pc = .ok (.astore_n j, 1)) (hn2 : (j : Nat) < nL) (kk : XE K own cc nL k n (pc + 1) (lput ls (j : Nat) (.ref x)) (st) h) : XE K own cc nL k n (pc) ls (.ref x :: st) h := by
  intro p l e R s m args below meth c A D α0 n0 Q hK hC α H locs lsA ha hn hW hl ol os
  exact lv_astore_n hC.1 hC.2.1 hd rfl hl hn2 rfl (fun ls' hl' => kk p l e R s m args below meth c A D α0 n0 Q hK hC α H locs ls' ha hn hW (lput_has hl') (lput_ok ol (os_h os)) (os_t os))
theorem XE.astore {K : XK} {own : String} {cc : ByteArray} {nL k n pc : Nat} {ls : List (Nat × Value)} {st : List Value} {h : XH} {j : Nat} {x : Nat} (hd : decode cc pc = .ok (.astore j, 2)) (hn2 : j < nL) (kk : XE K own cc nL k n (pc + 2) (lput ls j (.ref x)) (st) h) : XE K own cc nL k n (pc) ls (.ref x :: st) h := by
  intro p l e R s m args below meth c A D α0 n0 Q hK hC α H locs lsA ha hn hW hl ol os
  exact lv_astore hC.1 hC.2.1 hd hl hn2 rfl (fun ls' hl' => kk p l e R s m args below meth c A D α0 n0 Q hK hC α H locs ls' ha hn hW (lput_has hl') (lput_ok ol (os_h os)) (os_t os))
theorem XE.astore_nN {K : XK} {own : String} {cc : ByteArray} {nL k n pc : Nat} {ls : List (Nat × Value)} {st : List Value} {h : XH} {j : Fin 4}  (hd : decode cc pc = .ok (.astore_n j, 1)) (hn2 : (j : Nat) < nL) (kk : XE K own cc nL k n (pc + 1) (lput ls (j : Nat) (.null)) (st) h) : XE K own cc nL k n (pc) ls (.null :: st) h := by
  intro p l e R s m args below meth c A D α0 n0 Q hK hC α H locs lsA ha hn hW hl ol os
  exact lv_astore_nN hC.1 hC.2.1 hd rfl hl hn2 rfl (fun ls' hl' => kk p l e R s m args below meth c A D α0 n0 Q hK hC α H locs ls' ha hn hW (lput_has hl') (lput_ok ol (os_h os)) (os_t os))
theorem XE.astoreN {K : XK} {own : String} {cc : ByteArray} {nL k n pc : Nat} {ls : List (Nat × Value)} {st : List Value} {h : XH} {j : Nat}  (hd : decode cc pc = .ok (.astore j, 2)) (hn2 : j < nL) (kk : XE K own cc nL k n (pc + 2) (lput ls j (.null)) (st) h) : XE K own cc nL k n (pc) ls (.null :: st) h := by
  intro p l e R s m args below meth c A D α0 n0 Q hK hC α H locs lsA ha hn hW hl ol os
  exact lv_astoreN hC.1 hC.2.1 hd hl hn2 rfl (fun ls' hl' => kk p l e R s m args below meth c A D α0 n0 Q hK hC α H locs ls' ha hn hW (lput_has hl') (lput_ok ol (os_h os)) (os_t os))
theorem XE.lstore_n {K : XK} {own : String} {cc : ByteArray} {nL k n pc : Nat} {ls : List (Nat × Value)} {st : List Value} {h : XH} {j : Fin 4} {x : Int64} (hd : decode cc pc = .ok (.lstore_n j, 1)) (hn2 : (j : Nat) + 1 < nL) (kk : XE K own cc nL k n (pc + 1) (lputL ls (j : Nat) (.long x)) (st) h) : XE K own cc nL k n (pc) ls (.long x :: st) h := by
  intro p l e R s m args below meth c A D α0 n0 Q hK hC α H locs lsA ha hn hW hl ol os
  exact lv_lstore_n hC.1 hC.2.1 hd rfl hl hn2 rfl (fun ls' hl' => kk p l e R s m args below meth c A D α0 n0 Q hK hC α H locs ls' ha hn hW (lputL_has hl') (lputL_ok ol (os_h os)) (os_t os))
theorem XE.lstore {K : XK} {own : String} {cc : ByteArray} {nL k n pc : Nat} {ls : List (Nat × Value)} {st : List Value} {h : XH} {j : Nat} {x : Int64} (hd : decode cc pc = .ok (.lstore j, 2)) (hn2 : j + 1 < nL) (kk : XE K own cc nL k n (pc + 2) (lputL ls j (.long x)) (st) h) : XE K own cc nL k n (pc) ls (.long x :: st) h := by
  intro p l e R s m args below meth c A D α0 n0 Q hK hC α H locs lsA ha hn hW hl ol os
  exact lv_lstore hC.1 hC.2.1 hd hl hn2 rfl (fun ls' hl' => kk p l e R s m args below meth c A D α0 n0 Q hK hC α H locs ls' ha hn hW (lputL_has hl') (lputL_ok ol (os_h os)) (os_t os))
theorem XE.iinc {K : XK} {own : String} {cc : ByteArray} {nL k n pc : Nat} {ls : List (Nat × Value)} {st : List Value} {h : XH} {j : Nat} {x z : Int} (hd : decode cc pc = .ok (.iinc j z, 3)) (hv : lget ls j = some (.int (zI x))) (hn2 : j < nL) (kk : XE K own cc nL k n (pc + 3) (lput ls j (.int (zI (x + z)))) (st) h) : XE K own cc nL k n (pc) ls (st) h := by
  intro p l e R s m args below meth c A D α0 n0 Q hK hC α H locs lsA ha hn hW hl ol os
  have hm : (j, Value.int (zI x)) ∈ xlm α ls := List.mem_map.mpr ⟨(j, .int (zI x)), lget_mem hv, rfl⟩
  obtain ⟨q, hq⟩ := List.getElem?_of_mem hm
  exact lv_iinc hC.1 hC.2.1 hd hl hq (show zI x + Int32.ofInt z = zI (x + z) from zI_add x z) hn2 rfl (fun ls' hl' => kk p l e R s m args below meth c A D α0 n0 Q hK hC α H locs ls' ha hn hW (lput_has hl') (lput_ok ol (xok_int _ _)) os)
theorem XE.iadd {K : XK} {own : String} {cc : ByteArray} {nL k n pc : Nat} {ls : List (Nat × Value)} {st : List Value} {h : XH} {a b : Int} (hd : decode cc pc = .ok (.iadd, 1))  (kk : XE K own cc nL k n (pc + 1) ls (.int (zI (a + b)) :: st) h) : XE K own cc nL k n (pc) ls (.int (zI b) :: .int (zI a) :: st) h := by
  intro p l e R s m args below meth c A D α0 n0 Q hK hC α H locs lsA ha hn hW hl ol os
  refine lv_iadd hC.1 hC.2.1 hd ?_
  rw [zI_add]
  exact kk p l e R s m args below meth c A D α0 n0 Q hK hC α H locs lsA ha hn hW hl ol (os_c (xok_int _ _) (os_t (os_t os)))
theorem XE.isub {K : XK} {own : String} {cc : ByteArray} {nL k n pc : Nat} {ls : List (Nat × Value)} {st : List Value} {h : XH} {a b : Int} (hd : decode cc pc = .ok (.isub, 1))  (kk : XE K own cc nL k n (pc + 1) ls (.int (zI (a - b)) :: st) h) : XE K own cc nL k n (pc) ls (.int (zI b) :: .int (zI a) :: st) h := by
  intro p l e R s m args below meth c A D α0 n0 Q hK hC α H locs lsA ha hn hW hl ol os
  refine lv_isub hC.1 hC.2.1 hd ?_
  rw [zI_sub]
  exact kk p l e R s m args below meth c A D α0 n0 Q hK hC α H locs lsA ha hn hW hl ol (os_c (xok_int _ _) (os_t (os_t os)))
theorem XE.imul {K : XK} {own : String} {cc : ByteArray} {nL k n pc : Nat} {ls : List (Nat × Value)} {st : List Value} {h : XH} {a b : Int} (hd : decode cc pc = .ok (.imul, 1))  (kk : XE K own cc nL k n (pc + 1) ls (.int (zI (a * b)) :: st) h) : XE K own cc nL k n (pc) ls (.int (zI b) :: .int (zI a) :: st) h := by
  intro p l e R s m args below meth c A D α0 n0 Q hK hC α H locs lsA ha hn hW hl ol os
  refine lv_imul hC.1 hC.2.1 hd ?_
  rw [zI_mul]
  exact kk p l e R s m args below meth c A D α0 n0 Q hK hC α H locs lsA ha hn hW hl ol (os_c (xok_int _ _) (os_t (os_t os)))
theorem XE.idiv {K : XK} {own : String} {cc : ByteArray} {nL k n pc : Nat} {ls : List (Nat × Value)} {st : List Value} {h : XH} {a b : Int} (hd : decode cc pc = .ok (.idiv, 1)) (ra : RI a) (rb : RI b) (h0 : 0 ≤ a) (h1 : 0 < b) (kk : XE K own cc nL k n (pc + 1) ls (.int (zI (a / b)) :: st) h) : XE K own cc nL k n (pc) ls (.int (zI b) :: .int (zI a) :: st) h := by
  intro p l e R s m args below meth c A D α0 n0 Q hK hC α H locs lsA ha hn hW hl ol os
  refine lv_idiv hC.1 hC.2.1 hd (by rw [zI_eq0 rb]; have := h1; omega) ?_
  rw [zI_div ra rb h0 h1]
  exact kk p l e R s m args below meth c A D α0 n0 Q hK hC α H locs lsA ha hn hW hl ol (os_c (xok_int _ _) (os_t (os_t os)))
theorem XE.irem {K : XK} {own : String} {cc : ByteArray} {nL k n pc : Nat} {ls : List (Nat × Value)} {st : List Value} {h : XH} {a b : Int} (hd : decode cc pc = .ok (.irem, 1)) (ra : RI a) (rb : RI b) (h0 : 0 ≤ a) (h1 : 0 < b) (kk : XE K own cc nL k n (pc + 1) ls (.int (zI (a % b)) :: st) h) : XE K own cc nL k n (pc) ls (.int (zI b) :: .int (zI a) :: st) h := by
  intro p l e R s m args below meth c A D α0 n0 Q hK hC α H locs lsA ha hn hW hl ol os
  refine lv_irem hC.1 hC.2.1 hd (by rw [zI_eq0 rb]; have := h1; omega) ?_
  rw [zI_rem ra rb h0 h1]
  exact kk p l e R s m args below meth c A D α0 n0 Q hK hC α H locs lsA ha hn hW hl ol (os_c (xok_int _ _) (os_t (os_t os)))
theorem XE.iand {K : XK} {own : String} {cc : ByteArray} {nL k n pc : Nat} {ls : List (Nat × Value)} {st : List Value} {h : XH} {a b : Int} (hd : decode cc pc = .ok (.iand, 1))  (kk : XE K own cc nL k n (pc + 1) ls (.int (zI (zand a b)) :: st) h) : XE K own cc nL k n (pc) ls (.int (zI b) :: .int (zI a) :: st) h := by
  intro p l e R s m args below meth c A D α0 n0 Q hK hC α H locs lsA ha hn hW hl ol os
  refine lv_iand hC.1 hC.2.1 hd ?_
  rw [show zI a &&& zI b = zI (zand a b) from (zI_back _).symm]
  exact kk p l e R s m args below meth c A D α0 n0 Q hK hC α H locs lsA ha hn hW hl ol (os_c (xok_int _ _) (os_t (os_t os)))
theorem XE.ior {K : XK} {own : String} {cc : ByteArray} {nL k n pc : Nat} {ls : List (Nat × Value)} {st : List Value} {h : XH} {a b : Int} (hd : decode cc pc = .ok (.ior, 1))  (kk : XE K own cc nL k n (pc + 1) ls (.int (zI (zor a b)) :: st) h) : XE K own cc nL k n (pc) ls (.int (zI b) :: .int (zI a) :: st) h := by
  intro p l e R s m args below meth c A D α0 n0 Q hK hC α H locs lsA ha hn hW hl ol os
  refine lv_ior hC.1 hC.2.1 hd ?_
  rw [show zI a ||| zI b = zI (zor a b) from (zI_back _).symm]
  exact kk p l e R s m args below meth c A D α0 n0 Q hK hC α H locs lsA ha hn hW hl ol (os_c (xok_int _ _) (os_t (os_t os)))
theorem XE.ixor {K : XK} {own : String} {cc : ByteArray} {nL k n pc : Nat} {ls : List (Nat × Value)} {st : List Value} {h : XH} {a b : Int} (hd : decode cc pc = .ok (.ixor, 1))  (kk : XE K own cc nL k n (pc + 1) ls (.int (zI (zxor a b)) :: st) h) : XE K own cc nL k n (pc) ls (.int (zI b) :: .int (zI a) :: st) h := by
  intro p l e R s m args below meth c A D α0 n0 Q hK hC α H locs lsA ha hn hW hl ol os
  refine lv_ixor hC.1 hC.2.1 hd ?_
  rw [show zI a ^^^ zI b = zI (zxor a b) from (zI_back _).symm]
  exact kk p l e R s m args below meth c A D α0 n0 Q hK hC α H locs lsA ha hn hW hl ol (os_c (xok_int _ _) (os_t (os_t os)))
theorem XE.ishl {K : XK} {own : String} {cc : ByteArray} {nL k n pc : Nat} {ls : List (Nat × Value)} {st : List Value} {h : XH} {a b : Int} (hd : decode cc pc = .ok (.ishl, 1))  (kk : XE K own cc nL k n (pc + 1) ls (.int (zI (zshl a b)) :: st) h) : XE K own cc nL k n (pc) ls (.int (zI b) :: .int (zI a) :: st) h := by
  intro p l e R s m args below meth c A D α0 n0 Q hK hC α H locs lsA ha hn hW hl ol os
  refine lv_ishl hC.1 hC.2.1 hd ?_
  rw [show zI a <<< (zI b &&& 31) = zI (zshl a b) from (zI_back _).symm]
  exact kk p l e R s m args below meth c A D α0 n0 Q hK hC α H locs lsA ha hn hW hl ol (os_c (xok_int _ _) (os_t (os_t os)))
theorem XE.ishr {K : XK} {own : String} {cc : ByteArray} {nL k n pc : Nat} {ls : List (Nat × Value)} {st : List Value} {h : XH} {a b : Int} (hd : decode cc pc = .ok (.ishr, 1))  (kk : XE K own cc nL k n (pc + 1) ls (.int (zI (zshr a b)) :: st) h) : XE K own cc nL k n (pc) ls (.int (zI b) :: .int (zI a) :: st) h := by
  intro p l e R s m args below meth c A D α0 n0 Q hK hC α H locs lsA ha hn hW hl ol os
  refine lv_ishr hC.1 hC.2.1 hd ?_
  rw [show zI a >>> (zI b &&& 31) = zI (zshr a b) from (zI_back _).symm]
  exact kk p l e R s m args below meth c A D α0 n0 Q hK hC α H locs lsA ha hn hW hl ol (os_c (xok_int _ _) (os_t (os_t os)))
theorem XE.ineg {K : XK} {own : String} {cc : ByteArray} {nL k n pc : Nat} {ls : List (Nat × Value)} {st : List Value} {h : XH} {a : Int} (hd : decode cc pc = .ok (.ineg, 1)) (kk : XE K own cc nL k n (pc + 1) ls (.int (zI (-a)) :: st) h) : XE K own cc nL k n (pc) ls (.int (zI a) :: st) h := by
  intro p l e R s m args below meth c A D α0 n0 Q hK hC α H locs lsA ha hn hW hl ol os
  refine lv_ineg hC.1 hC.2.1 hd ?_
  rw [zI_neg]
  exact kk p l e R s m args below meth c A D α0 n0 Q hK hC α H locs lsA ha hn hW hl ol (os_c (xok_int _ _) (os_t os))
theorem XE.ladd {K : XK} {own : String} {cc : ByteArray} {nL k n pc : Nat} {ls : List (Nat × Value)} {st : List Value} {h : XH} {a b : Int64} (hd : decode cc pc = .ok (.ladd, 1))  (kk : XE K own cc nL k n (pc + 1) ls (.long (a + b) :: st) h) : XE K own cc nL k n (pc) ls (.long b :: .long a :: st) h := by
  intro p l e R s m args below meth c A D α0 n0 Q hK hC α H locs lsA ha hn hW hl ol os
  exact lv_ladd hC.1 hC.2.1 hd (kk p l e R s m args below meth c A D α0 n0 Q hK hC α H locs lsA ha hn hW hl ol (os_c (xok_long _ _) (os_t (os_t os))))
theorem XE.lmul {K : XK} {own : String} {cc : ByteArray} {nL k n pc : Nat} {ls : List (Nat × Value)} {st : List Value} {h : XH} {a b : Int64} (hd : decode cc pc = .ok (.lmul, 1))  (kk : XE K own cc nL k n (pc + 1) ls (.long (a * b) :: st) h) : XE K own cc nL k n (pc) ls (.long b :: .long a :: st) h := by
  intro p l e R s m args below meth c A D α0 n0 Q hK hC α H locs lsA ha hn hW hl ol os
  exact lv_lmul hC.1 hC.2.1 hd (kk p l e R s m args below meth c A D α0 n0 Q hK hC α H locs lsA ha hn hW hl ol (os_c (xok_long _ _) (os_t (os_t os))))
theorem XE.land {K : XK} {own : String} {cc : ByteArray} {nL k n pc : Nat} {ls : List (Nat × Value)} {st : List Value} {h : XH} {a b : Int64} (hd : decode cc pc = .ok (.land, 1))  (kk : XE K own cc nL k n (pc + 1) ls (.long (a &&& b) :: st) h) : XE K own cc nL k n (pc) ls (.long b :: .long a :: st) h := by
  intro p l e R s m args below meth c A D α0 n0 Q hK hC α H locs lsA ha hn hW hl ol os
  exact lv_land hC.1 hC.2.1 hd (kk p l e R s m args below meth c A D α0 n0 Q hK hC α H locs lsA ha hn hW hl ol (os_c (xok_long _ _) (os_t (os_t os))))
theorem XE.ldiv {K : XK} {own : String} {cc : ByteArray} {nL k n pc : Nat} {ls : List (Nat × Value)} {st : List Value} {h : XH} {a b : Int64} (hd : decode cc pc = .ok (.ldiv, 1)) (hb0 : ¬ b = 0) (kk : XE K own cc nL k n (pc + 1) ls (.long (a / b) :: st) h) : XE K own cc nL k n (pc) ls (.long b :: .long a :: st) h := by
  intro p l e R s m args below meth c A D α0 n0 Q hK hC α H locs lsA ha hn hW hl ol os
  exact lv_ldiv hC.1 hC.2.1 hd hb0 (kk p l e R s m args below meth c A D α0 n0 Q hK hC α H locs lsA ha hn hW hl ol (os_c (xok_long _ _) (os_t (os_t os))))
theorem XE.lrem {K : XK} {own : String} {cc : ByteArray} {nL k n pc : Nat} {ls : List (Nat × Value)} {st : List Value} {h : XH} {a b : Int64} (hd : decode cc pc = .ok (.lrem, 1)) (hb0 : ¬ b = 0) (kk : XE K own cc nL k n (pc + 1) ls (.long (a - a / b * b) :: st) h) : XE K own cc nL k n (pc) ls (.long b :: .long a :: st) h := by
  intro p l e R s m args below meth c A D α0 n0 Q hK hC α H locs lsA ha hn hW hl ol os
  exact lv_lrem hC.1 hC.2.1 hd hb0 (kk p l e R s m args below meth c A D α0 n0 Q hK hC α H locs lsA ha hn hW hl ol (os_c (xok_long _ _) (os_t (os_t os))))
theorem XE.i2l {K : XK} {own : String} {cc : ByteArray} {nL k n pc : Nat} {ls : List (Nat × Value)} {st : List Value} {h : XH} {x : Int32} (hd : decode cc pc = .ok (.i2l, 1))  (kk : XE K own cc nL k n (pc + 1) ls (.long x.toInt64 :: st) h) : XE K own cc nL k n (pc) ls (.int x :: st) h := by
  intro p l e R s m args below meth c A D α0 n0 Q hK hC α H locs lsA ha hn hW hl ol os
  exact lv_i2l hC.1 hC.2.1 hd rfl (kk p l e R s m args below meth c A D α0 n0 Q hK hC α H locs lsA ha hn hW hl ol (os_c (xok_long _ _) (os_t os)))
theorem XE.l2i {K : XK} {own : String} {cc : ByteArray} {nL k n pc : Nat} {ls : List (Nat × Value)} {st : List Value} {h : XH} {x : Int64} (hd : decode cc pc = .ok (.l2i, 1))  (kk : XE K own cc nL k n (pc + 1) ls (.int x.toInt32 :: st) h) : XE K own cc nL k n (pc) ls (.long x :: st) h := by
  intro p l e R s m args below meth c A D α0 n0 Q hK hC α H locs lsA ha hn hW hl ol os
  exact lv_l2i hC.1 hC.2.1 hd rfl (kk p l e R s m args below meth c A D α0 n0 Q hK hC α H locs lsA ha hn hW hl ol (os_c (xok_int _ _) (os_t os)))
theorem XE.i2b {K : XK} {own : String} {cc : ByteArray} {nL k n pc : Nat} {ls : List (Nat × Value)} {st : List Value} {h : XH} {x : Int32} (hd : decode cc pc = .ok (.i2b, 1))  (kk : XE K own cc nL k n (pc + 1) ls (.int x.toInt8.toInt32 :: st) h) : XE K own cc nL k n (pc) ls (.int x :: st) h := by
  intro p l e R s m args below meth c A D α0 n0 Q hK hC α H locs lsA ha hn hW hl ol os
  exact lv_i2b hC.1 hC.2.1 hd rfl (kk p l e R s m args below meth c A D α0 n0 Q hK hC α H locs lsA ha hn hW hl ol (os_c (xok_int _ _) (os_t os)))
theorem XE.lcmp {K : XK} {own : String} {cc : ByteArray} {nL k n pc : Nat} {ls : List (Nat × Value)} {st : List Value} {h : XH} {a b : Int64} (hd : decode cc pc = .ok (.lcmp, 1))  (kk : XE K own cc nL k n (pc + 1) ls (.int (lg_cmp a b) :: st) h) : XE K own cc nL k n (pc) ls (.long b :: .long a :: st) h := by
  intro p l e R s m args below meth c A D α0 n0 Q hK hC α H locs lsA ha hn hW hl ol os
  exact W.lcmp hC.1 hC.2.1 hd (kk p l e R s m args below meth c A D α0 n0 Q hK hC α H locs lsA ha hn hW hl ol (os_c (xok_int _ _) (os_t (os_t os))))
theorem XE.dup {K : XK} {own : String} {cc : ByteArray} {nL k n pc : Nat} {ls : List (Nat × Value)} {st : List Value} {h : XH} {v : Value} (hd : decode cc pc = .ok (.dup, 1)) (hv : v.category = 1) (kk : XE K own cc nL k n (pc + 1) ls (v :: v :: st) h) : XE K own cc nL k n (pc) ls (v :: st) h := by
  intro p l e R s m args below meth c A D α0 n0 Q hK hC α H locs lsA ha hn hW hl ol os
  exact lv_dup hC.1 hC.2.1 hd (by rw [xcv_cat]; exact hv) (kk p l e R s m args below meth c A D α0 n0 Q hK hC α H locs lsA ha hn hW hl ol (os_c (os_h os) os))
theorem XE.dup2 {K : XK} {own : String} {cc : ByteArray} {nL k n pc : Nat} {ls : List (Nat × Value)} {st : List Value} {h : XH} {v w : Value} (hd : decode cc pc = .ok (.dup2, 1)) (hv : v.category = 1) (hw : w.category = 1) (kk : XE K own cc nL k n (pc + 1) ls (v :: w :: v :: w :: st) h) : XE K own cc nL k n (pc) ls (v :: w :: st) h := by
  intro p l e R s m args below meth c A D α0 n0 Q hK hC α H locs lsA ha hn hW hl ol os
  exact lv_dup2_11 hC.1 hC.2.1 hd (by rw [xcv_cat]; exact hv) (by rw [xcv_cat]; exact hw) (kk p l e R s m args below meth c A D α0 n0 Q hK hC α H locs lsA ha hn hW hl ol (os_c (os_h os) (os_c (os_h (os_t os)) os)))
theorem XE.goto {K : XK} {own : String} {cc : ByteArray} {nL k n pc : Nat} {ls : List (Nat × Value)} {st : List Value} {h : XH} {off : Int} {tgt : Nat} (hd : decode cc pc = .ok (.goto off, 3)) (ht : (pc : Int) + off = (tgt : Int)) (kk : XE K own cc nL k n (tgt) ls (st) h) : XE K own cc nL k n (pc) ls (st) h := by
  intro p l e R s m args below meth c A D α0 n0 Q hK hC α H locs lsA ha hn hW hl ol os
  exact lv_goto hC.1 hC.2.1 hd ht (kk p l e R s m args below meth c A D α0 n0 Q hK hC α H locs lsA ha hn hW hl ol os)
theorem XE.icmp_eq {K : XK} {own : String} {cc : ByteArray} {nL k n pc : Nat} {ls : List (Nat × Value)} {st : List Value} {h : XH} {off : Int} {tgt : Nat} {a b : Int} (hd : decode cc pc = .ok (.if_icmp .eq off, 3)) (ht : (pc : Int) + off = (tgt : Int)) (ra : RI a) (rb : RI b) (kt : a = b → XE K own cc nL k n (tgt) ls (st) h) (kf : ¬ a = b → XE K own cc nL k n (pc + 3) ls (st) h) : XE K own cc nL k n (pc) ls (.int (zI b) :: .int (zI a) :: st) h := by
  intro p l e R s m args below meth c A D α0 n0 Q hK hC α H locs lsA ha hn hW hl ol os
  exact lv_icmp_eq hC.1 hC.2.1 hd ht (fun q => kt ((zI_eq ra rb).mp q) p l e R s m args below meth c A D α0 n0 Q hK hC α H locs lsA ha hn hW hl ol (os_t (os_t os))) (fun q => kf (fun z => q ((zI_eq ra rb).mpr z)) p l e R s m args below meth c A D α0 n0 Q hK hC α H locs lsA ha hn hW hl ol (os_t (os_t os)))
theorem XE.icmp_eq_t {K : XK} {own : String} {cc : ByteArray} {nL k n pc : Nat} {ls : List (Nat × Value)} {st : List Value} {h : XH} {off : Int} {tgt : Nat} {a b : Int} (hd : decode cc pc = .ok (.if_icmp .eq off, 3)) (ht : (pc : Int) + off = (tgt : Int)) (ra : RI a) (rb : RI b) (hc : a = b) (kt : XE K own cc nL k n (tgt) ls (st) h) : XE K own cc nL k n (pc) ls (.int (zI b) :: .int (zI a) :: st) h :=
  XE.icmp_eq hd ht ra rb (fun _ => kt) (fun q => absurd hc (by have := q; omega))
theorem XE.icmp_eq_f {K : XK} {own : String} {cc : ByteArray} {nL k n pc : Nat} {ls : List (Nat × Value)} {st : List Value} {h : XH} {off : Int} {tgt : Nat} {a b : Int} (hd : decode cc pc = .ok (.if_icmp .eq off, 3)) (ht : (pc : Int) + off = (tgt : Int)) (ra : RI a) (rb : RI b) (hc : ¬ a = b) (kf : XE K own cc nL k n (pc + 3) ls (st) h) : XE K own cc nL k n (pc) ls (.int (zI b) :: .int (zI a) :: st) h :=
  XE.icmp_eq hd ht ra rb (fun q => absurd hc (by have := q; omega)) (fun _ => kf)
theorem XE.if_eq {K : XK} {own : String} {cc : ByteArray} {nL k n pc : Nat} {ls : List (Nat × Value)} {st : List Value} {h : XH} {off : Int} {tgt : Nat} {a : Int} (hd : decode cc pc = .ok (.ifCond .eq off, 3)) (ht : (pc : Int) + off = (tgt : Int)) (ra : RI a) (kt : a = 0 → XE K own cc nL k n (tgt) ls (st) h) (kf : ¬ a = 0 → XE K own cc nL k n (pc + 3) ls (st) h) : XE K own cc nL k n (pc) ls (.int (zI a) :: st) h := by
  intro p l e R s m args below meth c A D α0 n0 Q hK hC α H locs lsA ha hn hW hl ol os
  exact lv_if_eq hC.1 hC.2.1 hd ht (fun q => kt ((zI_eq0 ra).mp q) p l e R s m args below meth c A D α0 n0 Q hK hC α H locs lsA ha hn hW hl ol (os_t os)) (fun q => kf (fun z => q ((zI_eq0 ra).mpr z)) p l e R s m args below meth c A D α0 n0 Q hK hC α H locs lsA ha hn hW hl ol (os_t os))
theorem XE.if_eq_t {K : XK} {own : String} {cc : ByteArray} {nL k n pc : Nat} {ls : List (Nat × Value)} {st : List Value} {h : XH} {off : Int} {tgt : Nat} {a : Int} (hd : decode cc pc = .ok (.ifCond .eq off, 3)) (ht : (pc : Int) + off = (tgt : Int)) (ra : RI a) (hc : a = 0) (kt : XE K own cc nL k n (tgt) ls (st) h) : XE K own cc nL k n (pc) ls (.int (zI a) :: st) h :=
  XE.if_eq hd ht ra (fun _ => kt) (fun q => absurd hc (by have := q; omega))
theorem XE.if_eq_f {K : XK} {own : String} {cc : ByteArray} {nL k n pc : Nat} {ls : List (Nat × Value)} {st : List Value} {h : XH} {off : Int} {tgt : Nat} {a : Int} (hd : decode cc pc = .ok (.ifCond .eq off, 3)) (ht : (pc : Int) + off = (tgt : Int)) (ra : RI a) (hc : ¬ a = 0) (kf : XE K own cc nL k n (pc + 3) ls (st) h) : XE K own cc nL k n (pc) ls (.int (zI a) :: st) h :=
  XE.if_eq hd ht ra (fun q => absurd hc (by have := q; omega)) (fun _ => kf)
theorem XE.icmp_ne {K : XK} {own : String} {cc : ByteArray} {nL k n pc : Nat} {ls : List (Nat × Value)} {st : List Value} {h : XH} {off : Int} {tgt : Nat} {a b : Int} (hd : decode cc pc = .ok (.if_icmp .ne off, 3)) (ht : (pc : Int) + off = (tgt : Int)) (ra : RI a) (rb : RI b) (kt : ¬ a = b → XE K own cc nL k n (tgt) ls (st) h) (kf : a = b → XE K own cc nL k n (pc + 3) ls (st) h) : XE K own cc nL k n (pc) ls (.int (zI b) :: .int (zI a) :: st) h := by
  intro p l e R s m args below meth c A D α0 n0 Q hK hC α H locs lsA ha hn hW hl ol os
  exact lv_icmp_ne hC.1 hC.2.1 hd ht (fun q => kt (fun z => q ((zI_eq ra rb).mpr z)) p l e R s m args below meth c A D α0 n0 Q hK hC α H locs lsA ha hn hW hl ol (os_t (os_t os))) (fun q => kf ((zI_eq ra rb).mp q) p l e R s m args below meth c A D α0 n0 Q hK hC α H locs lsA ha hn hW hl ol (os_t (os_t os)))
theorem XE.icmp_ne_t {K : XK} {own : String} {cc : ByteArray} {nL k n pc : Nat} {ls : List (Nat × Value)} {st : List Value} {h : XH} {off : Int} {tgt : Nat} {a b : Int} (hd : decode cc pc = .ok (.if_icmp .ne off, 3)) (ht : (pc : Int) + off = (tgt : Int)) (ra : RI a) (rb : RI b) (hc : ¬ a = b) (kt : XE K own cc nL k n (tgt) ls (st) h) : XE K own cc nL k n (pc) ls (.int (zI b) :: .int (zI a) :: st) h :=
  XE.icmp_ne hd ht ra rb (fun _ => kt) (fun q => absurd hc (by have := q; omega))
theorem XE.icmp_ne_f {K : XK} {own : String} {cc : ByteArray} {nL k n pc : Nat} {ls : List (Nat × Value)} {st : List Value} {h : XH} {off : Int} {tgt : Nat} {a b : Int} (hd : decode cc pc = .ok (.if_icmp .ne off, 3)) (ht : (pc : Int) + off = (tgt : Int)) (ra : RI a) (rb : RI b) (hc : a = b) (kf : XE K own cc nL k n (pc + 3) ls (st) h) : XE K own cc nL k n (pc) ls (.int (zI b) :: .int (zI a) :: st) h :=
  XE.icmp_ne hd ht ra rb (fun q => absurd hc (by have := q; omega)) (fun _ => kf)
theorem XE.if_ne {K : XK} {own : String} {cc : ByteArray} {nL k n pc : Nat} {ls : List (Nat × Value)} {st : List Value} {h : XH} {off : Int} {tgt : Nat} {a : Int} (hd : decode cc pc = .ok (.ifCond .ne off, 3)) (ht : (pc : Int) + off = (tgt : Int)) (ra : RI a) (kt : ¬ a = 0 → XE K own cc nL k n (tgt) ls (st) h) (kf : a = 0 → XE K own cc nL k n (pc + 3) ls (st) h) : XE K own cc nL k n (pc) ls (.int (zI a) :: st) h := by
  intro p l e R s m args below meth c A D α0 n0 Q hK hC α H locs lsA ha hn hW hl ol os
  exact lv_if_ne hC.1 hC.2.1 hd ht (fun q => kt (fun z => q ((zI_eq0 ra).mpr z)) p l e R s m args below meth c A D α0 n0 Q hK hC α H locs lsA ha hn hW hl ol (os_t os)) (fun q => kf ((zI_eq0 ra).mp q) p l e R s m args below meth c A D α0 n0 Q hK hC α H locs lsA ha hn hW hl ol (os_t os))
theorem XE.if_ne_t {K : XK} {own : String} {cc : ByteArray} {nL k n pc : Nat} {ls : List (Nat × Value)} {st : List Value} {h : XH} {off : Int} {tgt : Nat} {a : Int} (hd : decode cc pc = .ok (.ifCond .ne off, 3)) (ht : (pc : Int) + off = (tgt : Int)) (ra : RI a) (hc : ¬ a = 0) (kt : XE K own cc nL k n (tgt) ls (st) h) : XE K own cc nL k n (pc) ls (.int (zI a) :: st) h :=
  XE.if_ne hd ht ra (fun _ => kt) (fun q => absurd hc (by have := q; omega))
theorem XE.if_ne_f {K : XK} {own : String} {cc : ByteArray} {nL k n pc : Nat} {ls : List (Nat × Value)} {st : List Value} {h : XH} {off : Int} {tgt : Nat} {a : Int} (hd : decode cc pc = .ok (.ifCond .ne off, 3)) (ht : (pc : Int) + off = (tgt : Int)) (ra : RI a) (hc : a = 0) (kf : XE K own cc nL k n (pc + 3) ls (st) h) : XE K own cc nL k n (pc) ls (.int (zI a) :: st) h :=
  XE.if_ne hd ht ra (fun q => absurd hc (by have := q; omega)) (fun _ => kf)
theorem XE.icmp_lt {K : XK} {own : String} {cc : ByteArray} {nL k n pc : Nat} {ls : List (Nat × Value)} {st : List Value} {h : XH} {off : Int} {tgt : Nat} {a b : Int} (hd : decode cc pc = .ok (.if_icmp .lt off, 3)) (ht : (pc : Int) + off = (tgt : Int)) (ra : RI a) (rb : RI b) (kt : a < b → XE K own cc nL k n (tgt) ls (st) h) (kf : b ≤ a → XE K own cc nL k n (pc + 3) ls (st) h) : XE K own cc nL k n (pc) ls (.int (zI b) :: .int (zI a) :: st) h := by
  intro p l e R s m args below meth c A D α0 n0 Q hK hC α H locs lsA ha hn hW hl ol os
  exact lv_icmp_lt hC.1 hC.2.1 hd ht (fun q => kt ((zI_lt ra rb).mp q) p l e R s m args below meth c A D α0 n0 Q hK hC α H locs lsA ha hn hW hl ol (os_t (os_t os))) (fun q => kf (Int.not_lt.mp (fun z => q ((zI_lt ra rb).mpr z))) p l e R s m args below meth c A D α0 n0 Q hK hC α H locs lsA ha hn hW hl ol (os_t (os_t os)))
theorem XE.icmp_lt_t {K : XK} {own : String} {cc : ByteArray} {nL k n pc : Nat} {ls : List (Nat × Value)} {st : List Value} {h : XH} {off : Int} {tgt : Nat} {a b : Int} (hd : decode cc pc = .ok (.if_icmp .lt off, 3)) (ht : (pc : Int) + off = (tgt : Int)) (ra : RI a) (rb : RI b) (hc : a < b) (kt : XE K own cc nL k n (tgt) ls (st) h) : XE K own cc nL k n (pc) ls (.int (zI b) :: .int (zI a) :: st) h :=
  XE.icmp_lt hd ht ra rb (fun _ => kt) (fun q => absurd hc (by have := q; omega))
theorem XE.icmp_lt_f {K : XK} {own : String} {cc : ByteArray} {nL k n pc : Nat} {ls : List (Nat × Value)} {st : List Value} {h : XH} {off : Int} {tgt : Nat} {a b : Int} (hd : decode cc pc = .ok (.if_icmp .lt off, 3)) (ht : (pc : Int) + off = (tgt : Int)) (ra : RI a) (rb : RI b) (hc : b ≤ a) (kf : XE K own cc nL k n (pc + 3) ls (st) h) : XE K own cc nL k n (pc) ls (.int (zI b) :: .int (zI a) :: st) h :=
  XE.icmp_lt hd ht ra rb (fun q => absurd hc (by have := q; omega)) (fun _ => kf)
theorem XE.if_lt {K : XK} {own : String} {cc : ByteArray} {nL k n pc : Nat} {ls : List (Nat × Value)} {st : List Value} {h : XH} {off : Int} {tgt : Nat} {a : Int} (hd : decode cc pc = .ok (.ifCond .lt off, 3)) (ht : (pc : Int) + off = (tgt : Int)) (ra : RI a) (kt : a < 0 → XE K own cc nL k n (tgt) ls (st) h) (kf : 0 ≤ a → XE K own cc nL k n (pc + 3) ls (st) h) : XE K own cc nL k n (pc) ls (.int (zI a) :: st) h := by
  intro p l e R s m args below meth c A D α0 n0 Q hK hC α H locs lsA ha hn hW hl ol os
  exact lv_if_lt hC.1 hC.2.1 hd ht (fun q => kt ((zI_lt0 ra).mp q) p l e R s m args below meth c A D α0 n0 Q hK hC α H locs lsA ha hn hW hl ol (os_t os)) (fun q => kf (Int.not_lt.mp (fun z => q ((zI_lt0 ra).mpr z))) p l e R s m args below meth c A D α0 n0 Q hK hC α H locs lsA ha hn hW hl ol (os_t os))
theorem XE.if_lt_t {K : XK} {own : String} {cc : ByteArray} {nL k n pc : Nat} {ls : List (Nat × Value)} {st : List Value} {h : XH} {off : Int} {tgt : Nat} {a : Int} (hd : decode cc pc = .ok (.ifCond .lt off, 3)) (ht : (pc : Int) + off = (tgt : Int)) (ra : RI a) (hc : a < 0) (kt : XE K own cc nL k n (tgt) ls (st) h) : XE K own cc nL k n (pc) ls (.int (zI a) :: st) h :=
  XE.if_lt hd ht ra (fun _ => kt) (fun q => absurd hc (by have := q; omega))
theorem XE.if_lt_f {K : XK} {own : String} {cc : ByteArray} {nL k n pc : Nat} {ls : List (Nat × Value)} {st : List Value} {h : XH} {off : Int} {tgt : Nat} {a : Int} (hd : decode cc pc = .ok (.ifCond .lt off, 3)) (ht : (pc : Int) + off = (tgt : Int)) (ra : RI a) (hc : 0 ≤ a) (kf : XE K own cc nL k n (pc + 3) ls (st) h) : XE K own cc nL k n (pc) ls (.int (zI a) :: st) h :=
  XE.if_lt hd ht ra (fun q => absurd hc (by have := q; omega)) (fun _ => kf)
theorem XE.icmp_ge {K : XK} {own : String} {cc : ByteArray} {nL k n pc : Nat} {ls : List (Nat × Value)} {st : List Value} {h : XH} {off : Int} {tgt : Nat} {a b : Int} (hd : decode cc pc = .ok (.if_icmp .ge off, 3)) (ht : (pc : Int) + off = (tgt : Int)) (ra : RI a) (rb : RI b) (kt : b ≤ a → XE K own cc nL k n (tgt) ls (st) h) (kf : a < b → XE K own cc nL k n (pc + 3) ls (st) h) : XE K own cc nL k n (pc) ls (.int (zI b) :: .int (zI a) :: st) h := by
  intro p l e R s m args below meth c A D α0 n0 Q hK hC α H locs lsA ha hn hW hl ol os
  exact lv_icmp_ge hC.1 hC.2.1 hd ht (fun q => kt ((zI_le rb ra).mp q) p l e R s m args below meth c A D α0 n0 Q hK hC α H locs lsA ha hn hW hl ol (os_t (os_t os))) (fun q => kf (Int.not_le.mp (fun z => q ((zI_le rb ra).mpr z))) p l e R s m args below meth c A D α0 n0 Q hK hC α H locs lsA ha hn hW hl ol (os_t (os_t os)))
theorem XE.icmp_ge_t {K : XK} {own : String} {cc : ByteArray} {nL k n pc : Nat} {ls : List (Nat × Value)} {st : List Value} {h : XH} {off : Int} {tgt : Nat} {a b : Int} (hd : decode cc pc = .ok (.if_icmp .ge off, 3)) (ht : (pc : Int) + off = (tgt : Int)) (ra : RI a) (rb : RI b) (hc : b ≤ a) (kt : XE K own cc nL k n (tgt) ls (st) h) : XE K own cc nL k n (pc) ls (.int (zI b) :: .int (zI a) :: st) h :=
  XE.icmp_ge hd ht ra rb (fun _ => kt) (fun q => absurd hc (by have := q; omega))
theorem XE.icmp_ge_f {K : XK} {own : String} {cc : ByteArray} {nL k n pc : Nat} {ls : List (Nat × Value)} {st : List Value} {h : XH} {off : Int} {tgt : Nat} {a b : Int} (hd : decode cc pc = .ok (.if_icmp .ge off, 3)) (ht : (pc : Int) + off = (tgt : Int)) (ra : RI a) (rb : RI b) (hc : a < b) (kf : XE K own cc nL k n (pc + 3) ls (st) h) : XE K own cc nL k n (pc) ls (.int (zI b) :: .int (zI a) :: st) h :=
  XE.icmp_ge hd ht ra rb (fun q => absurd hc (by have := q; omega)) (fun _ => kf)
theorem XE.if_ge {K : XK} {own : String} {cc : ByteArray} {nL k n pc : Nat} {ls : List (Nat × Value)} {st : List Value} {h : XH} {off : Int} {tgt : Nat} {a : Int} (hd : decode cc pc = .ok (.ifCond .ge off, 3)) (ht : (pc : Int) + off = (tgt : Int)) (ra : RI a) (kt : 0 ≤ a → XE K own cc nL k n (tgt) ls (st) h) (kf : a < 0 → XE K own cc nL k n (pc + 3) ls (st) h) : XE K own cc nL k n (pc) ls (.int (zI a) :: st) h := by
  intro p l e R s m args below meth c A D α0 n0 Q hK hC α H locs lsA ha hn hW hl ol os
  exact lv_if_ge hC.1 hC.2.1 hd ht (fun q => kt ((zI_0le ra).mp q) p l e R s m args below meth c A D α0 n0 Q hK hC α H locs lsA ha hn hW hl ol (os_t os)) (fun q => kf (Int.not_le.mp (fun z => q ((zI_0le ra).mpr z))) p l e R s m args below meth c A D α0 n0 Q hK hC α H locs lsA ha hn hW hl ol (os_t os))
theorem XE.if_ge_t {K : XK} {own : String} {cc : ByteArray} {nL k n pc : Nat} {ls : List (Nat × Value)} {st : List Value} {h : XH} {off : Int} {tgt : Nat} {a : Int} (hd : decode cc pc = .ok (.ifCond .ge off, 3)) (ht : (pc : Int) + off = (tgt : Int)) (ra : RI a) (hc : 0 ≤ a) (kt : XE K own cc nL k n (tgt) ls (st) h) : XE K own cc nL k n (pc) ls (.int (zI a) :: st) h :=
  XE.if_ge hd ht ra (fun _ => kt) (fun q => absurd hc (by have := q; omega))
theorem XE.if_ge_f {K : XK} {own : String} {cc : ByteArray} {nL k n pc : Nat} {ls : List (Nat × Value)} {st : List Value} {h : XH} {off : Int} {tgt : Nat} {a : Int} (hd : decode cc pc = .ok (.ifCond .ge off, 3)) (ht : (pc : Int) + off = (tgt : Int)) (ra : RI a) (hc : a < 0) (kf : XE K own cc nL k n (pc + 3) ls (st) h) : XE K own cc nL k n (pc) ls (.int (zI a) :: st) h :=
  XE.if_ge hd ht ra (fun q => absurd hc (by have := q; omega)) (fun _ => kf)
theorem XE.icmp_gt {K : XK} {own : String} {cc : ByteArray} {nL k n pc : Nat} {ls : List (Nat × Value)} {st : List Value} {h : XH} {off : Int} {tgt : Nat} {a b : Int} (hd : decode cc pc = .ok (.if_icmp .gt off, 3)) (ht : (pc : Int) + off = (tgt : Int)) (ra : RI a) (rb : RI b) (kt : b < a → XE K own cc nL k n (tgt) ls (st) h) (kf : a ≤ b → XE K own cc nL k n (pc + 3) ls (st) h) : XE K own cc nL k n (pc) ls (.int (zI b) :: .int (zI a) :: st) h := by
  intro p l e R s m args below meth c A D α0 n0 Q hK hC α H locs lsA ha hn hW hl ol os
  exact lv_icmp_gt hC.1 hC.2.1 hd ht (fun q => kt ((zI_lt rb ra).mp q) p l e R s m args below meth c A D α0 n0 Q hK hC α H locs lsA ha hn hW hl ol (os_t (os_t os))) (fun q => kf (Int.not_lt.mp (fun z => q ((zI_lt rb ra).mpr z))) p l e R s m args below meth c A D α0 n0 Q hK hC α H locs lsA ha hn hW hl ol (os_t (os_t os)))
theorem XE.icmp_gt_t {K : XK} {own : String} {cc : ByteArray} {nL k n pc : Nat} {ls : List (Nat × Value)} {st : List Value} {h : XH} {off : Int} {tgt : Nat} {a b : Int} (hd : decode cc pc = .ok (.if_icmp .gt off, 3)) (ht : (pc : Int) + off = (tgt : Int)) (ra : RI a) (rb : RI b) (hc : b < a) (kt : XE K own cc nL k n (tgt) ls (st) h) : XE K own cc nL k n (pc) ls (.int (zI b) :: .int (zI a) :: st) h :=
  XE.icmp_gt hd ht ra rb (fun _ => kt) (fun q => absurd hc (by have := q; omega))
theorem XE.icmp_gt_f {K : XK} {own : String} {cc : ByteArray} {nL k n pc : Nat} {ls : List (Nat × Value)} {st : List Value} {h : XH} {off : Int} {tgt : Nat} {a b : Int} (hd : decode cc pc = .ok (.if_icmp .gt off, 3)) (ht : (pc : Int) + off = (tgt : Int)) (ra : RI a) (rb : RI b) (hc : a ≤ b) (kf : XE K own cc nL k n (pc + 3) ls (st) h) : XE K own cc nL k n (pc) ls (.int (zI b) :: .int (zI a) :: st) h :=
  XE.icmp_gt hd ht ra rb (fun q => absurd hc (by have := q; omega)) (fun _ => kf)
theorem XE.if_gt {K : XK} {own : String} {cc : ByteArray} {nL k n pc : Nat} {ls : List (Nat × Value)} {st : List Value} {h : XH} {off : Int} {tgt : Nat} {a : Int} (hd : decode cc pc = .ok (.ifCond .gt off, 3)) (ht : (pc : Int) + off = (tgt : Int)) (ra : RI a) (kt : 0 < a → XE K own cc nL k n (tgt) ls (st) h) (kf : a ≤ 0 → XE K own cc nL k n (pc + 3) ls (st) h) : XE K own cc nL k n (pc) ls (.int (zI a) :: st) h := by
  intro p l e R s m args below meth c A D α0 n0 Q hK hC α H locs lsA ha hn hW hl ol os
  exact lv_if_gt hC.1 hC.2.1 hd ht (fun q => kt ((zI_0lt ra).mp q) p l e R s m args below meth c A D α0 n0 Q hK hC α H locs lsA ha hn hW hl ol (os_t os)) (fun q => kf (Int.not_lt.mp (fun z => q ((zI_0lt ra).mpr z))) p l e R s m args below meth c A D α0 n0 Q hK hC α H locs lsA ha hn hW hl ol (os_t os))
theorem XE.if_gt_t {K : XK} {own : String} {cc : ByteArray} {nL k n pc : Nat} {ls : List (Nat × Value)} {st : List Value} {h : XH} {off : Int} {tgt : Nat} {a : Int} (hd : decode cc pc = .ok (.ifCond .gt off, 3)) (ht : (pc : Int) + off = (tgt : Int)) (ra : RI a) (hc : 0 < a) (kt : XE K own cc nL k n (tgt) ls (st) h) : XE K own cc nL k n (pc) ls (.int (zI a) :: st) h :=
  XE.if_gt hd ht ra (fun _ => kt) (fun q => absurd hc (by have := q; omega))
theorem XE.if_gt_f {K : XK} {own : String} {cc : ByteArray} {nL k n pc : Nat} {ls : List (Nat × Value)} {st : List Value} {h : XH} {off : Int} {tgt : Nat} {a : Int} (hd : decode cc pc = .ok (.ifCond .gt off, 3)) (ht : (pc : Int) + off = (tgt : Int)) (ra : RI a) (hc : a ≤ 0) (kf : XE K own cc nL k n (pc + 3) ls (st) h) : XE K own cc nL k n (pc) ls (.int (zI a) :: st) h :=
  XE.if_gt hd ht ra (fun q => absurd hc (by have := q; omega)) (fun _ => kf)
theorem XE.icmp_le {K : XK} {own : String} {cc : ByteArray} {nL k n pc : Nat} {ls : List (Nat × Value)} {st : List Value} {h : XH} {off : Int} {tgt : Nat} {a b : Int} (hd : decode cc pc = .ok (.if_icmp .le off, 3)) (ht : (pc : Int) + off = (tgt : Int)) (ra : RI a) (rb : RI b) (kt : a ≤ b → XE K own cc nL k n (tgt) ls (st) h) (kf : b < a → XE K own cc nL k n (pc + 3) ls (st) h) : XE K own cc nL k n (pc) ls (.int (zI b) :: .int (zI a) :: st) h := by
  intro p l e R s m args below meth c A D α0 n0 Q hK hC α H locs lsA ha hn hW hl ol os
  exact lv_icmp_le hC.1 hC.2.1 hd ht (fun q => kt ((zI_le ra rb).mp q) p l e R s m args below meth c A D α0 n0 Q hK hC α H locs lsA ha hn hW hl ol (os_t (os_t os))) (fun q => kf (Int.not_le.mp (fun z => q ((zI_le ra rb).mpr z))) p l e R s m args below meth c A D α0 n0 Q hK hC α H locs lsA ha hn hW hl ol (os_t (os_t os)))
theorem XE.icmp_le_t {K : XK} {own : String} {cc : ByteArray} {nL k n pc : Nat} {ls : List (Nat × Value)} {st : List Value} {h : XH} {off : Int} {tgt : Nat} {a b : Int} (hd : decode cc pc = .ok (.if_icmp .le off, 3)) (ht : (pc : Int) + off = (tgt : Int)) (ra : RI a) (rb : RI b) (hc : a ≤ b) (kt : XE K own cc nL k n (tgt) ls (st) h) : XE K own cc nL k n (pc) ls (.int (zI b) :: .int (zI a) :: st) h :=
  XE.icmp_le hd ht ra rb (fun _ => kt) (fun q => absurd hc (by have := q; omega))
theorem XE.icmp_le_f {K : XK} {own : String} {cc : ByteArray} {nL k n pc : Nat} {ls : List (Nat × Value)} {st : List Value} {h : XH} {off : Int} {tgt : Nat} {a b : Int} (hd : decode cc pc = .ok (.if_icmp .le off, 3)) (ht : (pc : Int) + off = (tgt : Int)) (ra : RI a) (rb : RI b) (hc : b < a) (kf : XE K own cc nL k n (pc + 3) ls (st) h) : XE K own cc nL k n (pc) ls (.int (zI b) :: .int (zI a) :: st) h :=
  XE.icmp_le hd ht ra rb (fun q => absurd hc (by have := q; omega)) (fun _ => kf)
theorem XE.if_le {K : XK} {own : String} {cc : ByteArray} {nL k n pc : Nat} {ls : List (Nat × Value)} {st : List Value} {h : XH} {off : Int} {tgt : Nat} {a : Int} (hd : decode cc pc = .ok (.ifCond .le off, 3)) (ht : (pc : Int) + off = (tgt : Int)) (ra : RI a) (kt : a ≤ 0 → XE K own cc nL k n (tgt) ls (st) h) (kf : 0 < a → XE K own cc nL k n (pc + 3) ls (st) h) : XE K own cc nL k n (pc) ls (.int (zI a) :: st) h := by
  intro p l e R s m args below meth c A D α0 n0 Q hK hC α H locs lsA ha hn hW hl ol os
  exact lv_if_le hC.1 hC.2.1 hd ht (fun q => kt ((zI_le0 ra).mp q) p l e R s m args below meth c A D α0 n0 Q hK hC α H locs lsA ha hn hW hl ol (os_t os)) (fun q => kf (Int.not_le.mp (fun z => q ((zI_le0 ra).mpr z))) p l e R s m args below meth c A D α0 n0 Q hK hC α H locs lsA ha hn hW hl ol (os_t os))
theorem XE.if_le_t {K : XK} {own : String} {cc : ByteArray} {nL k n pc : Nat} {ls : List (Nat × Value)} {st : List Value} {h : XH} {off : Int} {tgt : Nat} {a : Int} (hd : decode cc pc = .ok (.ifCond .le off, 3)) (ht : (pc : Int) + off = (tgt : Int)) (ra : RI a) (hc : a ≤ 0) (kt : XE K own cc nL k n (tgt) ls (st) h) : XE K own cc nL k n (pc) ls (.int (zI a) :: st) h :=
  XE.if_le hd ht ra (fun _ => kt) (fun q => absurd hc (by have := q; omega))
theorem XE.if_le_f {K : XK} {own : String} {cc : ByteArray} {nL k n pc : Nat} {ls : List (Nat × Value)} {st : List Value} {h : XH} {off : Int} {tgt : Nat} {a : Int} (hd : decode cc pc = .ok (.ifCond .le off, 3)) (ht : (pc : Int) + off = (tgt : Int)) (ra : RI a) (hc : 0 < a) (kf : XE K own cc nL k n (pc + 3) ls (st) h) : XE K own cc nL k n (pc) ls (.int (zI a) :: st) h :=
  XE.if_le hd ht ra (fun q => absurd hc (by have := q; omega)) (fun _ => kf)
theorem XE.ifnull {K : XK} {own : String} {cc : ByteArray} {nL k n pc : Nat} {ls : List (Nat × Value)} {st : List Value} {h : XH} {off : Int} {tgt : Nat} {x : Nat} (hd : decode cc pc = .ok (.ifnull off, 3)) (ht : (pc : Int) + off = (tgt : Int)) (kk : XE K own cc nL k n (pc + 3) ls (st) h) : XE K own cc nL k n (pc) ls (.ref x :: st) h := by
  intro p l e R s m args below meth c A D α0 n0 Q hK hC α H locs lsA ha hn hW hl ol os
  exact lv_ifnull hC.1 hC.2.1 hd (kk p l e R s m args below meth c A D α0 n0 Q hK hC α H locs lsA ha hn hW hl ol (os_t os))
theorem XE.ifnonnull {K : XK} {own : String} {cc : ByteArray} {nL k n pc : Nat} {ls : List (Nat × Value)} {st : List Value} {h : XH} {off : Int} {tgt : Nat} {x : Nat} (hd : decode cc pc = .ok (.ifnonnull off, 3)) (ht : (pc : Int) + off = (tgt : Int)) (kk : XE K own cc nL k n (tgt) ls (st) h) : XE K own cc nL k n (pc) ls (.ref x :: st) h := by
  intro p l e R s m args below meth c A D α0 n0 Q hK hC α H locs lsA ha hn hW hl ol os
  exact lv_ifnonnull hC.1 hC.2.1 hd ht (kk p l e R s m args below meth c A D α0 n0 Q hK hC α H locs lsA ha hn hW hl ol (os_t os))
theorem XE.ifnullN {K : XK} {own : String} {cc : ByteArray} {nL k n pc : Nat} {ls : List (Nat × Value)} {st : List Value} {h : XH} {off : Int} {tgt : Nat}  (hd : decode cc pc = .ok (.ifnull off, 3)) (ht : (pc : Int) + off = (tgt : Int)) (kk : XE K own cc nL k n (tgt) ls (st) h) : XE K own cc nL k n (pc) ls (.null :: st) h := by
  intro p l e R s m args below meth c A D α0 n0 Q hK hC α H locs lsA ha hn hW hl ol os
  exact lv_ifnullN hC.1 hC.2.1 hd ht (kk p l e R s m args below meth c A D α0 n0 Q hK hC α H locs lsA ha hn hW hl ol (os_t os))
theorem XE.ifnonnullN {K : XK} {own : String} {cc : ByteArray} {nL k n pc : Nat} {ls : List (Nat × Value)} {st : List Value} {h : XH} {off : Int} {tgt : Nat}  (hd : decode cc pc = .ok (.ifnonnull off, 3)) (ht : (pc : Int) + off = (tgt : Int)) (kk : XE K own cc nL k n (pc + 3) ls (st) h) : XE K own cc nL k n (pc) ls (.null :: st) h := by
  intro p l e R s m args below meth c A D α0 n0 Q hK hC α H locs lsA ha hn hW hl ol os
  exact lv_ifnonnullN hC.1 hC.2.1 hd (kk p l e R s m args below meth c A D α0 n0 Q hK hC α H locs lsA ha hn hW hl ol (os_t os))
theorem XE.tableIn {K : XK} {own : String} {cc : ByteArray} {nL k n pc : Nat} {ls : List (Nat × Value)} {st : List Value} {h : XH} {dflt lo hi : Int} {offs : Array Int} {len : Nat} {z : Int} {off : Int} {tgt : Nat} (hd : decode cc pc = .ok (.tableswitch dflt lo hi offs, len)) (rz : RI z) (h1 : lo ≤ z ∧ z ≤ hi) (ho : offs[(z - lo).toNat]? = some off) (ht : (pc : Int) + off = (tgt : Int)) (kk : XE K own cc nL k n (tgt) ls (st) h) : XE K own cc nL k n (pc) ls (.int (zI z) :: st) h := by
  intro p l e R s m args below meth c A D α0 n0 Q hK hC α H locs lsA ha hn hW hl ol os
  exact lv_tableIn hC.1 hC.2.1 hd (by rw [zI_toInt rz]; have := h1.1; omega) (by rw [zI_toInt rz]; have := h1.2; omega) (by rw [zI_toInt rz]; exact ho) ht (kk p l e R s m args below meth c A D α0 n0 Q hK hC α H locs lsA ha hn hW hl ol (os_t os))
theorem XE.tableOut {K : XK} {own : String} {cc : ByteArray} {nL k n pc : Nat} {ls : List (Nat × Value)} {st : List Value} {h : XH} {dflt lo hi : Int} {offs : Array Int} {len : Nat} {z : Int} {tgt : Nat} (hd : decode cc pc = .ok (.tableswitch dflt lo hi offs, len)) (rz : RI z) (h1 : z < lo ∨ hi < z) (ht : (pc : Int) + dflt = (tgt : Int)) (kk : XE K own cc nL k n (tgt) ls (st) h) : XE K own cc nL k n (pc) ls (.int (zI z) :: st) h := by
  intro p l e R s m args below meth c A D α0 n0 Q hK hC α H locs lsA ha hn hW hl ol os
  exact lv_tableOut hC.1 hC.2.1 hd (by rw [zI_toInt rz]; exact h1) ht (kk p l e R s m args below meth c A D α0 n0 Q hK hC α H locs lsA ha hn hW hl ol (os_t os))
theorem XE.lookup {K : XK} {own : String} {cc : ByteArray} {nL k n pc : Nat} {ls : List (Nat × Value)} {st : List Value} {h : XH} {dflt : Int} {ps : Array (Int × Int)} {len : Nat} {z : Int} {off : Int} {tgt : Nat} (hd : decode cc pc = .ok (.lookupswitch dflt ps, len)) (rz : RI z) (hp : (ps.toList.zip (ps.toList.drop 1)).all (fun (a, next) => a.1 < next.1) = true) (ho : Op.lookupswitch.offset ps.toList dflt z = off) (ht : (pc : Int) + off = (tgt : Int)) (kk : XE K own cc nL k n (tgt) ls (st) h) : XE K own cc nL k n (pc) ls (.int (zI z) :: st) h := by
  intro p l e R s m args below meth c A D α0 n0 Q hK hC α H locs lsA ha hn hW hl ol os
  exact lv_lookup hC.1 hC.2.1 hd hp (by rw [zI_toInt rz]; exact ho) ht (kk p l e R s m args below meth c A D α0 n0 Q hK hC α H locs lsA ha hn hW hl ol (os_t os))
theorem XE.keep {K : XK} {own : String} {cc : ByteArray} {nL k n pc : Nat} {ls : List (Nat × Value)} {st : List Value} {h : XH} (ks : List Nat) {ls' : List (Nat × Value)} (ek : lkeep ls ks = ls') (kk : XE K own cc nL k n (pc) ls' (st) h) : XE K own cc nL k n (pc) ls (st) h := by
  intro p l e R s m args below meth c A D α0 n0 Q hK hC α H locs lsA ha hn hW hl ol os
  subst ek
  exact kk p l e R s m args below meth c A D α0 n0 Q hK hC α H locs lsA ha hn hW ⟨hl.1, hl.2.1, fun q hq => by
    obtain ⟨w, hw, rfl⟩ := List.mem_map.mp hq
    exact hl.2.2 _ (List.mem_map.mpr ⟨w, (List.mem_filter.mp hw).1, rfl⟩)⟩ (fun q hq => ol q (List.mem_filter.mp hq).1) os
theorem XE.sub {K : XK} {own : String} {cc : ByteArray} {nL k n pc : Nat} {ls : List (Nat × Value)} {st : List Value} {h : XH} {ls' : List (Nat × Value)} (ek : ∀ q ∈ ls', q ∈ ls) (kk : XE K own cc nL k n (pc) ls' (st) h) : XE K own cc nL k n (pc) ls (st) h := by
  intro p l e R s m args below meth c A D α0 n0 Q hK hC α H locs lsA ha hn hW hl ol os
  exact kk p l e R s m args below meth c A D α0 n0 Q hK hC α H locs lsA ha hn hW ⟨hl.1, hl.2.1, fun q hq => by
    obtain ⟨w, hw, rfl⟩ := List.mem_map.mp hq
    exact hl.2.2 _ (List.mem_map.mpr ⟨w, ek w hw, rfl⟩)⟩ (fun q hq => ol q (ek q hq)) os
end
section
/-! RULES of the heap, of calls and of returns -/
def ia (N : Nat) (g : Nat → Int) : XC := .inl (.int, N, .inl (fun j => zI (g j)))
def ba (N : Nat) (g : Nat → Int) : XC := .inl (.byte, N, .inl (fun j => zI (g j)))
def za (N : Nat) (g : Nat → Int) : XC := .inl (.boolean, N, .inl (fun j => zI (g j)))
def ra (C : String) (N : Nat) (f : Nat → Option Nat) : XC := .inl (.object C, N, .inr f)
def zu (g : Nat → Int) (j : Nat) (x : Int) : Nat → Int := fun q => if q = j then x else g q
def ru (f : Nat → Option Nat) (j : Nat) (x : Option Nat) : Nat → Option Nat := fun q => if q = j then x else f q
def XF (own : String) (idx ci f : Nat) : Prop := ∃ (C : String) (T : u_T) (N : Nat) (ref : String), vwCl[ci]? = some (C, T, N) ∧ f < N ∧ (∀ w ∈ u_ws C T N, w ∈ AW) ∧ Cond.fieldLink own idx ref (T f).2.1 (T f).2.2.1 ∈ AW ∧ (T f).1 = ref
def XP (own : String) (idx ci f : Nat) (fin : Bool) (ty : FieldType) : Prop := ∃ (C : String) (T : u_T) (N : Nat) (ref : String) (ty0 : Nat → FieldType), vwCl[ci]? = some (C, T, N) ∧ f < N ∧ (∀ w ∈ u_ws C T N, w ∈ AW) ∧ Cond.fieldLink own idx ref (T f).2.1 (T f).2.2.1 ∈ AW ∧ (T f).1 = ref ∧ (∀ k, k < N → parseFieldDescriptor (T k).2.2.1 = some (ty0 k)) ∧ (∀ a, a < N → ∀ b, b < N → a ≠ b → (T a).2.1 ≠ (T b).2.1) ∧ (T f).2.2.2 = fin ∧ parseFieldDescriptor (T f).2.2.1 = some ty
def XN (own : String) (idx ci N : Nat) (fs : List Value) : Prop := ∃ (C : String) (T : u_T) (ty : Nat → FieldType), vwCl[ci]? = some (C, T, N) ∧ (∀ w ∈ u_ws C T N, w ∈ AW) ∧ (∀ k, k < N → parseFieldDescriptor (T k).2.2.1 = some (ty k)) ∧ Cond.classLink own idx C ∈ AW ∧ Cond.instantiable C N ∈ AW ∧ Cond.initialized C ∈ AW ∧ (∀ j, j < N → defaultValue (ty j) = vp_V fs j) ∧ ∀ (α : Nat → Nat), fs.map (xcv α) = fs
def XRB (K : XK) (k n : Nat) : Prop := ∀ (p : Program) (l : Launch) (e : Env) (R : Room) (s : State) (m : MethodId) (args : Array Value) (below : List Frame) (meth : Method) (c : Code) (A : Nat → Prop) (D : va_G) (α0 : Nat → Nat) (n0 : Nat) (Q : State → Prop), K p l e R s m args below meth c A D α0 n0 Q → k ≤ R.cells ∧ n ≤ R.slots
def XIN (K : XK) : Prop := ∀ (p : Program) (l : Launch) (e : Env) (R : Room) (s : State) (m : MethodId) (args : Array Value) (below : List Frame) (meth : Method) (c : Code) (A : Nat → Prop) (D : va_G) (α0 : Nat → Nat) (n0 : Nat) (Q : State → Prop), K p l e R s m args below meth c A D α0 n0 Q → meth.name = "<init>"
def XRD (K : XK) (d nL k n : Nat) : Prop := ∀ (p : Program) (l : Launch) (e : Env) (R : Room) (s : State) (m : MethodId) (args : Array Value) (below : List Frame) (meth : Method) (c : Code) (A : Nat → Prop) (D : va_G) (α0 : Nat → Nat) (n0 : Nat) (Q : State → Prop), K p l e R s m args below meth c A D α0 n0 Q → (d + 1 ≤ R.frames ∧ 8 + (nL + 11) + 64 * d ≤ R.locals) ∧ k ≤ R.cells ∧ n ≤ R.slots
theorem XRB.km {y : MethodName} {ret : Option FieldType} {d mc ms : Nat} {P : Option Value → XH → Prop} {k n : Nat} (h1 : k ≤ mc) (h2 : n ≤ ms) : XRB (XKM y ret d mc ms P) k n := by
  intro p l e R s m args below meth c A D α0 n0 Q hK
  rw [hK.1]; exact ⟨h1, h2⟩
theorem XIN.km {y : MethodName} {ret : Option FieldType} {d mc ms : Nat} {P : Option Value → XH → Prop} (hy : y.name = "<init>") : XIN (XKM y ret d mc ms P) := by
  intro p l e R s m args below meth c A D α0 n0 Q hK
  rw [hK.2.2.2.1, hy]
theorem XRD.km {y : MethodName} {ret : Option FieldType} {d mc ms : Nat} {P : Option Value → XH → Prop} {d' nL k n : Nat} (hd : d' + 1 ≤ d) (hl : nL ≤ 45) (h1 : k ≤ mc) (h2 : n ≤ ms) : XRD (XKM y ret d mc ms P) d' nL k n := by
  intro p l e R s m args below meth c A D α0 n0 Q hK
  rw [hK.1]
  refine ⟨⟨hd, ?_⟩, h1, h2⟩
  show 8 + (nL + 11) + 64 * d' ≤ 64 * d
  omega
section HR
variable {K : XK} {own : String} {cc : ByteArray} {nL k n pc : Nat} {ls : List (Nat × Value)} {st : List Value} {h : XH}
theorem XE.getfield {idx ci f a : Nat} {fs : List Value} {v : Value} (hf : XF own idx ci f) (hd : decode cc pc = .ok (.getfield idx, 3)) (ho : h[a]? = some (.inr (ci, fs))) (hv : fs[f]? = some v) (kk : XE K own cc nL k n (pc + 3) ls (v :: st) h) : XE K own cc nL k n pc ls (.ref a :: st) h := by
  intro p l e R s m args below meth c A D α0 n0 Q hK hC α H locs lsA ha hn hW hl ol os
  obtain ⟨tys, ws, hK2, hP, hD, hS, hR⟩ := id hW
  obtain ⟨hoc, w, hwe, hcr⟩ := hR.2 a _ ho
  have hcr : w = .inr (ci, fs.map (xcv α)) := hcr
  subst hcr
  obtain ⟨C, T, N, ref, h1, h2, h3, h4, h5⟩ := hf
  exact va_get hC.1 hC.2.1 hC.2.2.2.2.1 h3 hC.2.2.2.1 hK2 hP a hwe h1 f h2 (hC.2.2.2.2.1 _ h4) (fun x hx => by rw [← h5]; exact hx) (by rw [List.getElem?_map, hv]; rfl) hd (kk p l e R s m args below meth c A D α0 n0 Q hK hC α H locs lsA ha hn hW hl ol (os_c (hoc v (List.mem_of_getElem? hv)) (os_t os)))
theorem XREL.fset {α : Nat → Nat} {tys : List (ClassId × FieldType)} {ws : va_W} (hR : XREL α h tys ws) {a ci f : Nat} {fs : List Value} {v : Value} (ho : h[a]? = some (.inr (ci, fs))) (hv : xok h.length v) : XREL α (h.set a (.inr (ci, fs.set f v))) tys (ws.set a (α a, .inr (ci, (fs.map (xcv α)).set f (xcv α v)))) := by
  refine hR.set ho ?_ ?_
  · intro w hw
    rcases List.mem_or_eq_of_mem_set hw with e | e
    · exact (hR.2 a _ ho).1 w e
    · rw [e]; exact hv
  · show _ = _
    rw [List.map_set]
theorem XE.putfield {idx ci f a : Nat} {fs : List Value} {v : Value} {ty : FieldType} (hf : XP own idx ci f false ty) (hd : decode cc pc = .ok (.putfield idx, 3)) (ho : h[a]? = some (.inr (ci, fs))) (hv : ∀ α : Nat → Nat, narrow ty (xcv α v) = xcv α v ∧ fits ty (xcv α v) = true) (hlen : f < fs.length) (kk : XE K own cc nL k n (pc + 3) ls st (h.set a (.inr (ci, fs.set f v)))) : XE K own cc nL k n pc ls (v :: .ref a :: st) h := by
  intro p l e R s m args below meth c A D α0 n0 Q hK hC α H locs lsA ha hn hW hl ol os
  obtain ⟨tys, ws, hK2, hP, hD, hS, hR⟩ := id hW
  obtain ⟨hoc, w, hwe, hcr⟩ := hR.2 a _ ho
  have hcr : w = .inr (ci, fs.map (xcv α)) := hcr
  subst hcr
  obtain ⟨C, T, N, ref, ty0, h1, h2, h3, h4, h5, h6, h7, h8, h9⟩ := hf
  exact va_put hC.1 hC.2.1 hC.2.2.2.2.1 h3 ty0 h6 h7 hC.2.2.2.1 hK2 hP hD hS a hwe h1 f h2 (hC.2.2.2.2.1 _ h4) (fun x hx => by rw [← h5]; exact hx) h8 h9 (hv α).1 (hv α).2 (by rw [List.length_map]; exact hlen) hd
    (fun H1 locs1 hP1 hD1 hS1 => kk p l e R s m args below meth c A D α0 n0 Q hK hC α H1 locs1 lsA ha (by rw [List.length_set]; exact hn) ⟨tys, _, hK2, hP1, hD1, hS1, hR.fset ho (os_h os)⟩ hl (by rw [List.length_set]; exact ol) (by rw [List.length_set]; exact os_t (os_t os)))
theorem XE.putfieldF {idx ci f a : Nat} {fs : List Value} {v : Value} {ty : FieldType} (hi : XIN K) (hf : XP own idx ci f true ty) (hd : decode cc pc = .ok (.putfield idx, 3)) (hown : ∃ C T N, vwCl[ci]? = some (C, T, N) ∧ (T f).1 = own) (ho : h[a]? = some (.inr (ci, fs))) (hv : ∀ α : Nat → Nat, narrow ty (xcv α v) = xcv α v ∧ fits ty (xcv α v) = true) (hlen : f < fs.length) (kk : XE K own cc nL k n (pc + 3) ls st (h.set a (.inr (ci, fs.set f v)))) : XE K own cc nL k n pc ls (v :: .ref a :: st) h := by
  intro p l e R s m args below meth c A D α0 n0 Q hK hC α H locs lsA ha hn hW hl ol os
  obtain ⟨tys, ws, hK2, hP, hD, hS, hR⟩ := id hW
  obtain ⟨hoc, w, hwe, hcr⟩ := hR.2 a _ ho
  have hcr : w = .inr (ci, fs.map (xcv α)) := hcr
  subst hcr
  obtain ⟨C, T, N, ref, ty0, h1, h2, h3, h4, h5, h6, h7, h8, h9⟩ := hf
  obtain ⟨C', T', N', g1, g2⟩ := hown
  have ge := Option.some.inj (g1.symm.trans h1)
  have ge2 : T' = T := congrArg (fun q => q.2.1) ge
  rw [ge2] at g2
  exact va_putF hC.1 hC.2.1 hC.2.2.2.2.1 h3 ty0 h6 h7 hC.2.2.2.1 hK2 hP hD hS a hwe h1 f h2 (hC.2.2.2.2.1 _ h4) (fun x hx => by rw [← h5]; exact hx) h8 (hi _ _ _ _ _ _ _ _ _ _ _ _ _ _ _ hK) g2 h9 (hv α).1 (hv α).2 (by rw [List.length_map]; exact hlen) hd
    (fun H1 locs1 hP1 hD1 hS1 => kk p l e R s m args below meth c A D α0 n0 Q hK hC α H1 locs1 lsA ha (by rw [List.length_set]; exact hn) ⟨tys, _, hK2, hP1, hD1, hS1, hR.fset ho (os_h os)⟩ hl (by rw [List.length_set]; exact ol) (by rw [List.length_set]; exact os_t (os_t os)))
theorem zin {z : Int} {j N : Nat} (hz : z = (j : Int)) (hj : j < N) (hN : N < 2147483648) : vp_in (zI z) N ∧ (zI z).toNatClampNeg = j := by
  subst hz
  have hr : RI (j : Int) := ⟨by omega, by omega⟩
  refine ⟨vp_in_iff.mpr ?_, ?_⟩
  · rw [zI_toInt hr]; omega
  · show (zI (j : Int)).toInt.toNat = j
    rw [zI_toInt hr]; omega
theorem XE.iaload {a N : Nat} {g : Nat → Int} {z : Int} (j : Nat) (hd : decode cc pc = .ok (.iaload, 1)) (ho : h[a]? = some (ia N g)) (hz : z = (j : Int)) (hj : j < N) (hN : N < 2147483648) (kk : XE K own cc nL k n (pc + 1) ls (.int (zI (g j)) :: st) h) : XE K own cc nL k n (pc) ls (.int (zI z) :: .ref a :: st) h := by
  intro p l e R s m args below meth c A D α0 n0 Q hK hC α H locs lsA ha hn hW hl ol os
  obtain ⟨tys, ws, hK2, hP, hD, hS, hR⟩ := id hW
  obtain ⟨hoc, w, hwe, kA, t0, ht0, rfl⟩ := hR.2 a _ ho
  obtain ⟨hin, hidx⟩ := zin hz hj hN
  refine va_iald hC.1 hC.2.1 hK2 hP a t0 hwe ht0 hin hd ?_
  rw [hidx]
  exact kk p l e R s m args below meth c A D α0 n0 Q hK hC α H locs lsA ha hn hW hl ol (os_c (xok_int _ _) (os_t (os_t os)))
theorem ia_upd (g : Nat → Int) (j : Nat) (x : Int) : upd (fun q => zI (g q)) j (zI x) = fun q => zI (zu g j x q) := by
  funext q
  unfold upd zu
  split <;> rfl
theorem XE.iastore {a N : Nat} {g : Nat → Int} {z x : Int} (j : Nat) (hd : decode cc pc = .ok (.iastore, 1)) (ho : h[a]? = some (ia N g)) (hz : z = (j : Int)) (hj : j < N) (hN : N < 2147483648) (kk : XE K own cc nL k n (pc + 1) ls (st) (h.set a (ia N (zu g j x)))) : XE K own cc nL k n (pc) ls (.int (zI x) :: .int (zI z) :: .ref a :: st) h := by
  intro p l e R s m args below meth c A D α0 n0 Q hK hC α H locs lsA ha hn hW hl ol os
  obtain ⟨tys, ws, hK2, hP, hD, hS, hR⟩ := id hW
  obtain ⟨hoc, w, hwe, kA, t0, ht0, rfl⟩ := hR.2 a _ ho
  obtain ⟨hin, hidx⟩ := zin hz hj hN
  refine va_iast hC.1 hC.2.1 hK2 hP hD hS a t0 hwe ht0 hin hd (fun H1 locs1 hP1 hD1 hS1 => ?_)
  rw [hidx, ia_upd] at hP1 hD1
  exact kk p l e R s m args below meth c A D α0 n0 Q hK hC α H1 locs1 lsA ha (by rw [List.length_set]; exact hn) ⟨tys, _, hK2, hP1, hD1, hS1, hR.set ho (c1 := ia N (zu g j x)) trivial ⟨kA, t0, ht0, rfl⟩⟩ hl (by rw [List.length_set]; exact ol) (by rw [List.length_set]; exact os_t (os_t (os_t os)))
theorem XE.newi {N : Nat} {z : Int} (hw : Cond.arrayClass .int ∈ AW) (hd : decode cc pc = .ok (.newarray .int, 2)) (hz : z = (N : Int)) (hN : N < 1000) (hB : XRB K (k + 1) (n + N)) (kk : XE K own cc nL (k + 1) (n + N) (pc + 2) ls (.ref h.length :: st) (h ++ [ia N (fun _ => 0)])) : XE K own cc nL k n (pc) ls (.int (zI z) :: st) h := by
  intro p l e R s m args below meth c A D α0 n0 Q hK hC α H locs lsA ha hn hW hl ol os
  obtain ⟨tys, ws, hK2, hP, hD, hS, hR⟩ := id hW
  have hr : RI z := ⟨by omega, by omega⟩
  obtain ⟨b1, b2⟩ := hB _ _ _ _ _ _ _ _ _ _ _ _ _ _ _ hK
  refine va_newa (atype := .int) (ty := .int) (N' := N) (a0 := (N, .inl (fun _ => zI 0))) hC.1 hC.2.1 (hC.2.2.2.2.1 _ hw) rfl hK2 hP hD hS hC.2.2.2.2.2.1 (fun cA => rfl) (by rw [zI_lt0 hr]; omega) (by show (zI z).toInt.toNat = N; rw [zI_toInt hr]; omega) (by show N * _ ≤ _; unfold componentBytes; simp only []; omega) b1 b2 hd (fun q kA H1 hK3 hP1 hD1 hS1 => ?_)
  have e0 : Value.ref q :: st.map (xcv α) = (Value.ref h.length :: st).map (xcv (xnew α h.length q)) := by
    rw [List.map_cons]
    congr 1
    · show _ = Value.ref (xnew α h.length q h.length); rw [xnew_at]
    · exact (List.map_congr_left fun v hv => xcv_ag (xnew_ag α h.length q) (os_t os v hv)).symm
  have e1 : xlm (xnew α h.length q) ls = xlm α ls := List.map_congr_left fun v hv => by rw [xcv_ag (xnew_ag α h.length q) (ol v hv)]
  rw [e0]
  exact kk p l e R s m args below meth c A D α0 n0 Q hK hC (xnew α h.length q) H1 locs lsA (ha.tr hn (xnew_ag α h.length q)) (by rw [List.length_append]; exact Nat.le_trans hn (Nat.le_add_right _ _))
    ⟨_, _, hK3, hP1, hD1, hS1, hR.push (c := ia N (fun _ => 0)) (fun k q hq => by rw [List.getElem?_append_left (List.getElem?_eq_some_iff.mp hq).1]; exact hq) trivial ⟨kA, tys.length, by simp, rfl⟩⟩ (by rw [e1]; exact hl)
    (fun v hv => (ol v hv).mono (by simp)) (os_c (xok_ref (by simp)) (fun v hv => (os_t os v hv).mono (by simp)))
theorem XE.baload {a N : Nat} {g : Nat → Int} {z : Int} (j : Nat) (hd : decode cc pc = .ok (.baload, 1)) (ho : h[a]? = some (ba N g)) (hz : z = (j : Int)) (hj : j < N) (hN : N < 2147483648) (kk : XE K own cc nL k n (pc + 1) ls (.int (zI (g j)) :: st) h) : XE K own cc nL k n (pc) ls (.int (zI z) :: .ref a :: st) h := by
  intro p l e R s m args below meth c A D α0 n0 Q hK hC α H locs lsA ha hn hW hl ol os
  obtain ⟨tys, ws, hK2, hP, hD, hS, hR⟩ := id hW
  obtain ⟨hoc, w, hwe, kA, t0, ht0, rfl⟩ := hR.2 a _ ho
  obtain ⟨hin, hidx⟩ := zin hz hj hN
  refine va_bald hC.1 hC.2.1 hK2 hP a t0 hwe ht0 hin hd ?_
  rw [hidx]
  exact kk p l e R s m args below meth c A D α0 n0 Q hK hC α H locs lsA ha hn hW hl ol (os_c (xok_int _ _) (os_t (os_t os)))
theorem ba_upd (g : Nat → Int) (j : Nat) (x : Int) : upd (fun q => zI (g q)) j (zI x) = fun q => zI (zu g j x q) := by
  funext q
  unfold upd zu
  split <;> rfl
theorem XE.bastore {a N : Nat} {g : Nat → Int} {z x : Int} (j : Nat) (hd : decode cc pc = .ok (.bastore, 1)) (ho : h[a]? = some (ba N g)) (hz : z = (j : Int)) (hj : j < N) (hN : N < 2147483648) (hx : vp_nar .byte (zI x) = zI x) (kk : XE K own cc nL k n (pc + 1) ls (st) (h.set a (ba N (zu g j x)))) : XE K own cc nL k n (pc) ls (.int (zI x) :: .int (zI z) :: .ref a :: st) h := by
  intro p l e R s m args below meth c A D α0 n0 Q hK hC α H locs lsA ha hn hW hl ol os
  obtain ⟨tys, ws, hK2, hP, hD, hS, hR⟩ := id hW
  obtain ⟨hoc, w, hwe, kA, t0, ht0, rfl⟩ := hR.2 a _ ho
  obtain ⟨hin, hidx⟩ := zin hz hj hN
  refine va_bast hC.1 hC.2.1 hK2 hP hD hS a t0 hwe ht0 hin hd (fun H1 locs1 hP1 hD1 hS1 => ?_)
  rw [hidx, hx, ba_upd] at hP1 hD1
  exact kk p l e R s m args below meth c A D α0 n0 Q hK hC α H1 locs1 lsA ha (by rw [List.length_set]; exact hn) ⟨tys, _, hK2, hP1, hD1, hS1, hR.set ho (c1 := ba N (zu g j x)) trivial ⟨kA, t0, ht0, rfl⟩⟩ hl (by rw [List.length_set]; exact ol) (by rw [List.length_set]; exact os_t (os_t (os_t os)))
theorem XE.newb {N : Nat} {z : Int} (hw : Cond.arrayClass .byte ∈ AW) (hd : decode cc pc = .ok (.newarray .byte, 2)) (hz : z = (N : Int)) (hN : N < 1000) (hB : XRB K (k + 1) (n + N)) (kk : XE K own cc nL (k + 1) (n + N) (pc + 2) ls (.ref h.length :: st) (h ++ [ba N (fun _ => 0)])) : XE K own cc nL k n (pc) ls (.int (zI z) :: st) h := by
  intro p l e R s m args below meth c A D α0 n0 Q hK hC α H locs lsA ha hn hW hl ol os
  obtain ⟨tys, ws, hK2, hP, hD, hS, hR⟩ := id hW
  have hr : RI z := ⟨by omega, by omega⟩
  obtain ⟨b1, b2⟩ := hB _ _ _ _ _ _ _ _ _ _ _ _ _ _ _ hK
  refine va_newa (atype := .byte) (ty := .byte) (N' := N) (a0 := (N, .inl (fun _ => zI 0))) hC.1 hC.2.1 (hC.2.2.2.2.1 _ hw) rfl hK2 hP hD hS hC.2.2.2.2.2.1 (fun cA => rfl) (by rw [zI_lt0 hr]; omega) (by show (zI z).toInt.toNat = N; rw [zI_toInt hr]; omega) (by show N * _ ≤ _; unfold componentBytes; simp only []; omega) b1 b2 hd (fun q kA H1 hK3 hP1 hD1 hS1 => ?_)
  have e0 : Value.ref q :: st.map (xcv α) = (Value.ref h.length :: st).map (xcv (xnew α h.length q)) := by
    rw [List.map_cons]
    congr 1
    · show _ = Value.ref (xnew α h.length q h.length); rw [xnew_at]
    · exact (List.map_congr_left fun v hv => xcv_ag (xnew_ag α h.length q) (os_t os v hv)).symm
  have e1 : xlm (xnew α h.length q) ls = xlm α ls := List.map_congr_left fun v hv => by rw [xcv_ag (xnew_ag α h.length q) (ol v hv)]
  rw [e0]
  exact kk p l e R s m args below meth c A D α0 n0 Q hK hC (xnew α h.length q) H1 locs lsA (ha.tr hn (xnew_ag α h.length q)) (by rw [List.length_append]; exact Nat.le_trans hn (Nat.le_add_right _ _))
    ⟨_, _, hK3, hP1, hD1, hS1, hR.push (c := ba N (fun _ => 0)) (fun k q hq => by rw [List.getElem?_append_left (List.getElem?_eq_some_iff.mp hq).1]; exact hq) trivial ⟨kA, tys.length, by simp, rfl⟩⟩ (by rw [e1]; exact hl)
    (fun v hv => (ol v hv).mono (by simp)) (os_c (xok_ref (by simp)) (fun v hv => (os_t os v hv).mono (by simp)))
theorem XE.zaload {a N : Nat} {g : Nat → Int} {z : Int} (j : Nat) (hd : decode cc pc = .ok (.baload, 1)) (ho : h[a]? = some (za N g)) (hz : z = (j : Int)) (hj : j < N) (hN : N < 2147483648) (kk : XE K own cc nL k n (pc + 1) ls (.int (zI (g j)) :: st) h) : XE K own cc nL k n (pc) ls (.int (zI z) :: .ref a :: st) h := by
  intro p l e R s m args below meth c A D α0 n0 Q hK hC α H locs lsA ha hn hW hl ol os
  obtain ⟨tys, ws, hK2, hP, hD, hS, hR⟩ := id hW
  obtain ⟨hoc, w, hwe, kA, t0, ht0, rfl⟩ := hR.2 a _ ho
  obtain ⟨hin, hidx⟩ := zin hz hj hN
  refine va_zald hC.1 hC.2.1 hK2 hP a t0 hwe ht0 hin hd ?_
  rw [hidx]
  exact kk p l e R s m args below meth c A D α0 n0 Q hK hC α H locs lsA ha hn hW hl ol (os_c (xok_int _ _) (os_t (os_t os)))
theorem za_upd (g : Nat → Int) (j : Nat) (x : Int) : upd (fun q => zI (g q)) j (zI x) = fun q => zI (zu g j x q) := by
  funext q
  unfold upd zu
  split <;> rfl
theorem XE.zastore {a N : Nat} {g : Nat → Int} {z x : Int} (j : Nat) (hd : decode cc pc = .ok (.bastore, 1)) (ho : h[a]? = some (za N g)) (hz : z = (j : Int)) (hj : j < N) (hN : N < 2147483648) (hx : vp_nar .boolean (zI x) = zI x) (kk : XE K own cc nL k n (pc + 1) ls (st) (h.set a (za N (zu g j x)))) : XE K own cc nL k n (pc) ls (.int (zI x) :: .int (zI z) :: .ref a :: st) h := by
  intro p l e R s m args below meth c A D α0 n0 Q hK hC α H locs lsA ha hn hW hl ol os
  obtain ⟨tys, ws, hK2, hP, hD, hS, hR⟩ := id hW
  obtain ⟨hoc, w, hwe, kA, t0, ht0, rfl⟩ := hR.2 a _ ho
  obtain ⟨hin, hidx⟩ := zin hz hj hN
  refine va_zast hC.1 hC.2.1 hK2 hP hD hS a t0 hwe ht0 hin hd (fun H1 locs1 hP1 hD1 hS1 => ?_)
  rw [hidx, hx, za_upd] at hP1 hD1
  exact kk p l e R s m args below meth c A D α0 n0 Q hK hC α H1 locs1 lsA ha (by rw [List.length_set]; exact hn) ⟨tys, _, hK2, hP1, hD1, hS1, hR.set ho (c1 := za N (zu g j x)) trivial ⟨kA, t0, ht0, rfl⟩⟩ hl (by rw [List.length_set]; exact ol) (by rw [List.length_set]; exact os_t (os_t (os_t os)))
theorem XE.newz {N : Nat} {z : Int} (hw : Cond.arrayClass .boolean ∈ AW) (hd : decode cc pc = .ok (.newarray .boolean, 2)) (hz : z = (N : Int)) (hN : N < 1000) (hB : XRB K (k + 1) (n + N)) (kk : XE K own cc nL (k + 1) (n + N) (pc + 2) ls (.ref h.length :: st) (h ++ [za N (fun _ => 0)])) : XE K own cc nL k n (pc) ls (.int (zI z) :: st) h := by
  intro p l e R s m args below meth c A D α0 n0 Q hK hC α H locs lsA ha hn hW hl ol os
  obtain ⟨tys, ws, hK2, hP, hD, hS, hR⟩ := id hW
  have hr : RI z := ⟨by omega, by omega⟩
  obtain ⟨b1, b2⟩ := hB _ _ _ _ _ _ _ _ _ _ _ _ _ _ _ hK
  refine va_newa (atype := .boolean) (ty := .boolean) (N' := N) (a0 := (N, .inl (fun _ => zI 0))) hC.1 hC.2.1 (hC.2.2.2.2.1 _ hw) rfl hK2 hP hD hS hC.2.2.2.2.2.1 (fun cA => rfl) (by rw [zI_lt0 hr]; omega) (by show (zI z).toInt.toNat = N; rw [zI_toInt hr]; omega) (by show N * _ ≤ _; unfold componentBytes; simp only []; omega) b1 b2 hd (fun q kA H1 hK3 hP1 hD1 hS1 => ?_)
  have e0 : Value.ref q :: st.map (xcv α) = (Value.ref h.length :: st).map (xcv (xnew α h.length q)) := by
    rw [List.map_cons]
    congr 1
    · show _ = Value.ref (xnew α h.length q h.length); rw [xnew_at]
    · exact (List.map_congr_left fun v hv => xcv_ag (xnew_ag α h.length q) (os_t os v hv)).symm
  have e1 : xlm (xnew α h.length q) ls = xlm α ls := List.map_congr_left fun v hv => by rw [xcv_ag (xnew_ag α h.length q) (ol v hv)]
  rw [e0]
  exact kk p l e R s m args below meth c A D α0 n0 Q hK hC (xnew α h.length q) H1 locs lsA (ha.tr hn (xnew_ag α h.length q)) (by rw [List.length_append]; exact Nat.le_trans hn (Nat.le_add_right _ _))
    ⟨_, _, hK3, hP1, hD1, hS1, hR.push (c := za N (fun _ => 0)) (fun k q hq => by rw [List.getElem?_append_left (List.getElem?_eq_some_iff.mp hq).1]; exact hq) trivial ⟨kA, tys.length, by simp, rfl⟩⟩ (by rw [e1]; exact hl)
    (fun v hv => (ol v hv).mono (by simp)) (os_c (xok_ref (by simp)) (fun v hv => (os_t os v hv).mono (by simp)))

end HR
end
section
/-! RULES of references, of new objects, of calls and of returns -/
section HR2
variable {K : XK} {own : String} {cc : ByteArray} {nL k n pc : Nat} {ls : List (Nat × Value)} {st : List Value} {h : XH}
theorem XE.alen {a N : Nat} {ty : FieldType} {f : (Nat → Int32) ⊕ (Nat → Option Nat)} (hd : decode cc pc = .ok (.arraylength, 1)) (ho : h[a]? = some (.inl (ty, N, f))) (kk : XE K own cc nL k n (pc + 1) ls (.int (zI (N : Int)) :: st) h) : XE K own cc nL k n pc ls (.ref a :: st) h := by
  intro p l e R s m args below meth c A D α0 n0 Q hK hC α H locs lsA ha hn hW hl ol os
  obtain ⟨tys, ws, hK2, hP, hD, hS, hR⟩ := id hW
  obtain ⟨hoc, w, hwe, kA, t0, ht0, rfl⟩ := hR.2 a _ ho
  exact va_alen hC.1 hC.2.1 hK2 hP a t0 hwe ht0 (v := zI (N : Int)) rfl hd (kk p l e R s m args below meth c A D α0 n0 Q hK hC α H locs lsA ha hn hW hl ol (os_c (xok_int _ _) (os_t os)))
theorem XE.aaload {a N : Nat} {C : String} {f : Nat → Option Nat} {z : Int} (j : Nat) (hd : decode cc pc = .ok (.aaload, 1)) (ho : h[a]? = some (ra C N f)) (hz : z = (j : Int)) (hj : j < N) (hN : N < 2147483648) (kk : XE K own cc nL k n (pc + 1) ls (va_rf (f j) :: st) h) : XE K own cc nL k n pc ls (.int (zI z) :: .ref a :: st) h := by
  intro p l e R s m args below meth c A D α0 n0 Q hK hC α H locs lsA ha hn hW hl ol os
  obtain ⟨tys, ws, hK2, hP, hD, hS, hR⟩ := id hW
  obtain ⟨hoc, w, hwe, kA, t0, ht0, rfl⟩ := hR.2 a _ ho
  obtain ⟨hin, hidx⟩ := zin hz hj hN
  refine va_aldq hC.1 hC.2.1 hK2 hP a t0 hwe ht0 hin hd ?_
  rw [hidx]
  have e0 : va_rf ((f j).map α) = xcv α (va_rf (f j)) := by cases f j <;> rfl
  rw [e0]
  exact kk p l e R s m args below meth c A D α0 n0 Q hK hC α H locs lsA ha hn hW hl ol (os_c (by
    intro i hi
    cases hf : f j with
    | none => rw [hf] at hi; cases hi
    | some q => rw [hf] at hi; cases hi; exact hoc j _ hf) (os_t (os_t os)))
theorem ra_upd (α : Nat → Nat) (f : Nat → Option Nat) (j v : Nat) : va_up (fun q => (f q).map α) j (some (α v)) = fun q => (ru f j (some v) q).map α := by
  funext q
  unfold va_up ru
  split <;> rfl
theorem XE.aastore {a N v ci : Nat} {E : String} {f : Nat → Option Nat} {vs : List Value} {r : vw_C} {z : Int} (j : Nat) (hd : decode cc pc = .ok (.aastore, 1)) (ho : h[a]? = some (ra E N f)) (hv : h[v]? = some (.inr (ci, vs))) (hc : vwCl[ci]? = some r) (hca : r.1 = E ∨ (r.1, E) ∈ x_cast) (hz : z = (j : Int)) (hj : j < N) (hN : N < 2147483648) (kk : XE K own cc nL k n (pc + 1) ls st (h.set a (ra E N (ru f j (some v))))) : XE K own cc nL k n pc ls (.ref v :: .int (zI z) :: .ref a :: st) h := by
  intro p l e R s m args below meth c A D α0 n0 Q hK hC α H locs lsA ha hn hW hl ol os
  obtain ⟨tys, ws, hK2, hP, hD, hS, hR⟩ := id hW
  obtain ⟨hoc, w, hwe, kA, t0, ht0, rfl⟩ := hR.2 a _ ho
  obtain ⟨-, w2, hwe2, rfl⟩ := hR.2 v _ hv
  obtain ⟨hin, hidx⟩ := zin hz hj hN
  have go : ∀ (H1 : Heap) (locs1 : List Loc), va_P D vwCl (ws.set a (α a, .inl (kA, N, .inr (.inr (.inr (.inr (va_up (fun q => (f q).map α) (zI z).toNatClampNeg (some (α v)))))))) ) H1 → va_D A (ws.set a (α a, .inl (kA, N, .inr (.inr (.inr (.inr (va_up (fun q => (f q).map α) (zI z).toNatClampNeg (some (α v))))))))) → va_S A s.heap H1 locs1 → W p l e R s m args below meth c H1 locs1 k n Q (F0 m (pc + 1) lsA (st.map (xcv α))) := by
    intro H1 locs1 hP1 hD1 hS1
    rw [hidx, ra_upd] at hP1 hD1
    exact kk p l e R s m args below meth c A D α0 n0 Q hK hC α H1 locs1 lsA ha (by rw [List.length_set]; exact hn) ⟨tys, _, hK2, hP1, hD1, hS1, hR.set ho (c1 := ra E N (ru f j (some v))) (by
      intro q i hi
      unfold ru at hi
      split at hi
      · cases hi; exact (List.getElem?_eq_some_iff.mp hv).1
      · exact hoc q i hi) ⟨kA, t0, ht0, rfl⟩⟩ hl (by rw [List.length_set]; exact ol) (by rw [List.length_set]; exact os_t (os_t (os_t os)))
  rcases hca with hca | hca
  · subst hca
    exact va_astq hC.1 hC.2.1 hK2 hP hD hS a t0 v ci hwe ht0 hwe2 hc hin hd go
  · exact va_astqO hC.1 hC.2.1 hK2 hP hD hS a t0 v ci hwe ht0 (hC.2.2.2.2.2.2.2.1 _ hca) hwe2 hc hin hd go
theorem x_push_st {α : Nat → Nat} {N q : Nat} {st : List Value} (hst : ∀ v ∈ st, xok N v) : Value.ref q :: st.map (xcv α) = (Value.ref N :: st).map (xcv (xnew α N q)) := by
  rw [List.map_cons]
  congr 1
  · show _ = Value.ref (xnew α N q N); rw [xnew_at]
  · exact (List.map_congr_left fun v hv => xcv_ag (xnew_ag α N q) (hst v hv)).symm
theorem x_push_ls {α : Nat → Nat} {N q : Nat} {ls : List (Nat × Value)} (hls : ∀ v ∈ ls, xok N v.2) : xlm (xnew α N q) ls = xlm α ls := List.map_congr_left fun v hv => by rw [xcv_ag (xnew_ag α N q) (hls v hv)]
theorem XE.anewarray {N idx : Nat} {C : String} {z : Int} (hw : Cond.classLink own idx C ∈ AW) (hao : C ∈ x_ao) (hd : decode cc pc = .ok (.anewarray idx, 3)) (hz : z = (N : Int)) (hN : N < 1000) (hB : XRB K (k + 1) (n + N)) (kk : XE K own cc nL (k + 1) (n + N) (pc + 3) ls (.ref h.length :: st) (h ++ [ra C N (fun _ => none)])) : XE K own cc nL k n pc ls (.int (zI z) :: st) h := by
  intro p l e R s m args below meth c A D α0 n0 Q hK hC α H locs lsA ha hn hW hl ol os
  obtain ⟨tys, ws, hK2, hP, hD, hS, hR⟩ := id hW
  have hr : RI z := ⟨by omega, by omega⟩
  obtain ⟨b1, b2⟩ := hB _ _ _ _ _ _ _ _ _ _ _ _ _ _ _ hK
  refine va_newq (N' := N) hC.1 hC.2.1 hC.2.2.2.1 (hC.2.2.2.2.1 _ hw) (hC.2.2.2.2.2.2.2.2.1 _ hao) hK2 hP hD hS hC.2.2.2.2.2.1 (by rw [zI_lt0 hr]; omega) (by show (zI z).toInt.toNat = N; rw [zI_toInt hr]; omega) (by omega) b1 b2 hd (fun q kA H1 hK3 hP1 hD1 hS1 => ?_)
  rw [x_push_st (N := h.length) (os_t os)]
  exact kk p l e R s m args below meth c A D α0 n0 Q hK hC (xnew α h.length q) H1 locs lsA (ha.tr hn (xnew_ag α h.length q)) (by rw [List.length_append]; exact Nat.le_trans hn (Nat.le_add_right _ _))
    ⟨_, _, hK3, hP1, hD1, hS1, hR.push (c := ra C N (fun _ => none)) (fun k q hq => by rw [List.getElem?_append_left (List.getElem?_eq_some_iff.mp hq).1]; exact hq) (fun _ _ e => by cases e) ⟨kA, tys.length, by simp, rfl⟩⟩ (by rw [x_push_ls ol]; exact hl)
    (fun v hv => (ol v hv).mono (by simp)) (os_c (xok_ref (by simp)) (fun v hv => (os_t os v hv).mono (by simp)))
theorem XE.new {idx ci N : Nat} {fs : List Value} (hf : XN own idx ci N fs) (hd : decode cc pc = .ok (.new idx, 3)) (hB : XRB K (k + 1) (n + N)) (kk : XE K own cc nL (k + 1) (n + N) (pc + 3) ls (.ref h.length :: st) (h ++ [.inr (ci, fs)])) : XE K own cc nL k n pc ls st h := by
  intro p l e R s m args below meth c A D α0 n0 Q hK hC α H locs lsA ha hn hW hl ol os
  obtain ⟨tys, ws, hK2, hP, hD, hS, hR⟩ := id hW
  obtain ⟨b1, b2⟩ := hB _ _ _ _ _ _ _ _ _ _ _ _ _ _ _ hK
  obtain ⟨C, T, ty, h1, h2, h3, h4, h5, h6, h7, h8⟩ := hf
  refine va_new hC.1 hC.2.1 hC.2.2.2.2.1 h2 ty h3 hC.2.2.2.1 (hC.2.2.2.2.1 _ h4) (hC.2.2.2.2.1 _ h5) (hC.2.2.2.2.1 _ h6) hK2 hP hD hS hC.2.2.2.2.2.1 h1 h7 b1 b2 hd (fun q H1 hP1 hD1 hS1 => ?_)
  rw [x_push_st (N := h.length) os]
  exact kk p l e R s m args below meth c A D α0 n0 Q hK hC (xnew α h.length q) H1 locs lsA (ha.tr hn (xnew_ag α h.length q)) (by rw [List.length_append]; exact Nat.le_trans hn (Nat.le_add_right _ _))
    ⟨_, _, hK2, hP1, hD1, hS1, hR.push (c := .inr (ci, fs)) (fun k q hq => hq) (fun v hv i hi => by
      rw [← h8 (fun _ => 0)] at hv
      obtain ⟨w, hw, e⟩ := List.mem_map.mp hv
      have h9 := h8 (fun j => j + 1)
      subst hi
      exfalso
      have hv2 : Value.ref i ∈ fs := by rw [← h8 (fun _ => 0)]; exact hv
      have key : ∀ (β : Nat → Nat), ∃ j, β j = i := by
        intro β
        rw [← h8 β] at hv2
        obtain ⟨w, -, e⟩ := List.mem_map.mp hv2
        cases w <;> first | (cases e; done) | skip
        rename_i b
        exact ⟨b, by cases e; rfl⟩
      obtain ⟨j, hj⟩ := key (fun _ => i + 1)
      omega) (by show _ = _; rw [h8])⟩ (by rw [x_push_ls ol]; exact hl)
    (fun v hv => (ol v hv).mono (by simp)) (os_c (xok_ref (by simp)) (fun v hv => (os v hv).mono (by simp)))
theorem x_recv {D : va_G} {A : Nat → Prop} {s : State} {α : Nat → Nat} {tys : List (ClassId × FieldType)} {ws : va_W} {H : Heap} (hK2 : va_K D vwCl tys s) (hP : va_P D vwCl ws H) (hR : XREL α h tys ws) {a ci : Nat} {fs : List Value} {C : String} {T : u_T} {N : Nat} (ho : h[a]? = some (.inr (ci, fs))) (hc : vwCl[ci]? = some (C, T, N)) : ∃ cell : Cell, H[α a]? = some cell ∧ cell.vm.isStatics = false ∧ s.vm.findClass C = some cell.cls := by
  obtain ⟨-, w, hwe, hcr⟩ := hR.2 a _ ho
  have hcr : w = .inr (ci, fs.map (xcv α)) := hcr
  subst hcr
  exact va_recv hK2 hP hc hwe
theorem XE.instY {idx ci a : Nat} {fs : List Value} {C nm : String} {T : u_T} {N : Nat} (hw : Cond.classLink own idx nm ∈ AW) (hc : vwCl[ci]? = some (C, T, N)) (hca : (C, nm) ∈ x_cast) (hd : decode cc pc = .ok (.instanceof idx, 3)) (ho : h[a]? = some (.inr (ci, fs))) (kk : XE K own cc nL k n (pc + 3) ls (.int (zI 1) :: st) h) : XE K own cc nL k n pc ls (.ref a :: st) h := by
  intro p l e R s m args below meth c A D α0 n0 Q hK hC α H locs lsA ha hn hW hl ol os
  obtain ⟨tys, ws, hK2, hP, hD, hS, hR⟩ := id hW
  exact va_instY hC.1 hC.2.1 hC.2.2.2.1 (hC.2.2.2.2.1 _ hw) (hC.2.2.2.2.2.2.2.1 _ hca) (x_recv (A := A) hK2 hP hR ho hc) hd (kk p l e R s m args below meth c A D α0 n0 Q hK hC α H locs lsA ha hn hW hl ol (os_c (xok_int _ _) (os_t os)))
theorem XE.instS {idx ci a : Nat} {fs : List Value} {C : String} {T : u_T} {N : Nat} (hw : Cond.classLink own idx C ∈ AW) (hc : vwCl[ci]? = some (C, T, N)) (hd : decode cc pc = .ok (.instanceof idx, 3)) (ho : h[a]? = some (.inr (ci, fs))) (kk : XE K own cc nL k n (pc + 3) ls (.int (zI 1) :: st) h) : XE K own cc nL k n pc ls (.ref a :: st) h := by
  intro p l e R s m args below meth c A D α0 n0 Q hK hC α H locs lsA ha hn hW hl ol os
  obtain ⟨tys, ws, hK2, hP, hD, hS, hR⟩ := id hW
  exact va_instS hC.1 hC.2.1 hC.2.2.2.1 (hC.2.2.2.2.1 _ hw) (hK2.1 ci _ hc).2 (x_recv (A := A) hK2 hP hR ho hc) hd (kk p l e R s m args below meth c A D α0 n0 Q hK hC α H locs lsA ha hn hW hl ol (os_c (xok_int _ _) (os_t os)))
theorem XE.instN {idx ci a : Nat} {fs : List Value} {C nm : String} {T : u_T} {N : Nat} (hw : Cond.classLink own idx nm ∈ AW) (hc : vwCl[ci]? = some (C, T, N)) (hca : (C, nm) ∈ x_nc) (hd : decode cc pc = .ok (.instanceof idx, 3)) (ho : h[a]? = some (.inr (ci, fs))) (kk : XE K own cc nL k n (pc + 3) ls (.int (zI 0) :: st) h) : XE K own cc nL k n pc ls (.ref a :: st) h := by
  intro p l e R s m args below meth c A D α0 n0 Q hK hC α H locs lsA ha hn hW hl ol os
  obtain ⟨tys, ws, hK2, hP, hD, hS, hR⟩ := id hW
  exact va_instNo hC.1 hC.2.1 hC.2.2.2.1 (hC.2.2.2.2.1 _ hw) (hC.2.2.2.2.2.2.2.2.2 _ hca) (x_recv (A := A) hK2 hP hR ho hc) hd (kk p l e R s m args below meth c A D α0 n0 Q hK hC α H locs lsA ha hn hW hl ol (os_c (xok_int _ _) (os_t os)))
theorem XE.objInit {idx a : Nat} (hw : Cond.methodLink own idx objectInit ∈ AW ∧ Cond.instanceMethod objectInit ∈ AW ∧ Cond.code objectInit ⟨#[0xb1]⟩ 1 none ∈ AW) (hd : decode cc pc = .ok (.invokespecial idx, 3)) (hB : XRD K 0 1 0 0) (hst : st = []) (kk : XE K own cc nL k n (pc + 3) ls st h) : XE K own cc nL k n pc ls (.ref a :: st) h := by
  intro p l e R s m args below meth c A D α0 n0 Q hK hC α H locs lsA ha hn hW hl ol os
  obtain ⟨⟨b1, b2⟩, -⟩ := hB _ _ _ _ _ _ _ _ _ _ _ _ _ _ _ hK
  subst hst
  refine W.objInit hC.1 hC.2.1 hC.2.2.2.1 (hC.2.2.2.2.1 _ hw.1) (hC.2.2.2.2.1 _ hw.2.1) (hC.2.2.2.2.1 _ hw.2.2) rfl (by rw [hC.2.2.1]; exact hl.1) (a := α a) (rest := []) rfl hd (by omega) (by show 0 + 0 + 12 ≤ _; omega) ?_
  exact kk p l e R s m args below meth c A D α0 n0 Q hK hC α H locs lsA ha hn hW hl ol (os_t os)
end HR2
/-! returns -/
section RET
variable {own : String} {cc : ByteArray} {nL k n pc : Nat} {ls : List (Nat × Value)} {h : XH} {y : MethodName} {d mc ms : Nat} {P : Option Value → XH → Prop}
theorem XE.ireturn {x : Int32} (hd : decode cc pc = .ok (.ireturn, 1)) (hk : k ≤ mc) (hn2 : n ≤ ms) (hp : P (some (.int x)) h) : XE (XKM y (some .int) d mc ms P) own cc nL k n pc ls [.int x] h := by
  intro p l e R s m args below meth c A D α0 n0 Q hK hC α H locs lsA ha hn hW hl ol os
  obtain ⟨tys, ws, hK2, hP, hD, hS, hR⟩ := id hW
  obtain ⟨rfl, hr, hlk, hnm, rfl⟩ := hK
  refine W.widen hk hn2 ?_
  exact W.iret hC.1 hC.2.1 hr (fun t ht hWm => ⟨⟨α, some (.int x), h, tys, ws, rfl, ha, hn, fun w hw => by cases hw; exact xok_int _ _, hp, va_K.moved hWm.alike hK2, by rw [ht]; exact hP, hD, hR⟩, hS.F ht⟩) hS.2.2 hd hlk
theorem XE.zreturn {x : Int} (hd : decode cc pc = .ok (.ireturn, 1)) (hx : x = 0 ∨ x = 1) (hk : k ≤ mc) (hn2 : n ≤ ms) (hp : P (some (.int (zI x))) h) : XE (XKM y (some .boolean) d mc ms P) own cc nL k n pc ls [.int (zI x)] h := by
  intro p l e R s m args below meth c A D α0 n0 Q hK hC α H locs lsA ha hn hW hl ol os
  obtain ⟨tys, ws, hK2, hP, hD, hS, hR⟩ := id hW
  obtain ⟨rfl, hr, hlk, hnm, rfl⟩ := hK
  refine W.widen hk hn2 ?_
  exact W.zret hC.1 hC.2.1 hr (by rcases hx with rfl | rfl <;> decide +kernel) (fun t ht hWm => ⟨⟨α, some (.int (zI x)), h, tys, ws, rfl, ha, hn, fun w hw => by cases hw; exact xok_int _ _, hp, va_K.moved hWm.alike hK2, by rw [ht]; exact hP, hD, hR⟩, hS.F ht⟩) hS.2.2 hd hlk
theorem XE.lreturn {x : Int64} (hd : decode cc pc = .ok (.lreturn, 1)) (hk : k ≤ mc) (hn2 : n ≤ ms) (hp : P (some (.long x)) h) : XE (XKM y (some .long) d mc ms P) own cc nL k n pc ls [.long x] h := by
  intro p l e R s m args below meth c A D α0 n0 Q hK hC α H locs lsA ha hn hW hl ol os
  obtain ⟨tys, ws, hK2, hP, hD, hS, hR⟩ := id hW
  obtain ⟨rfl, hr, hlk, hnm, rfl⟩ := hK
  refine W.widen hk hn2 ?_
  exact W.lret hC.1 hC.2.1 hr (fun t ht hWm => ⟨⟨α, some (.long x), h, tys, ws, rfl, ha, hn, fun w hw => by cases hw; exact xok_long _ _, hp, va_K.moved hWm.alike hK2, by rw [ht]; exact hP, hD, hR⟩, hS.F ht⟩) hS.2.2 hd hlk
theorem XE.areturn {r : Option Nat} {C : String} (hd : decode cc pc = .ok (.areturn, 1)) (hk : k ≤ mc) (hn2 : n ≤ ms) (hp : P (some (va_rf r)) h) : XE (XKM y (some (.object C)) d mc ms P) own cc nL k n pc ls [va_rf r] h := by
  intro p l e R s m args below meth c A D α0 n0 Q hK hC α H locs lsA ha hn hW hl ol os
  obtain ⟨tys, ws, hK2, hP, hD, hS, hR⟩ := id hW
  obtain ⟨rfl, hr, hlk, hnm, rfl⟩ := hK
  refine W.widen hk hn2 ?_
  exact W.aret hC.1 hC.2.1 hr (Or.inl ⟨C, rfl⟩) (by cases r with | none => exact Or.inl rfl | some i => exact Or.inr ⟨_, rfl⟩) (fun t ht hWm => ⟨⟨α, some (va_rf r), h, tys, ws, rfl, ha, hn, fun w hw => by cases hw; exact os_h os, hp, va_K.moved hWm.alike hK2, by rw [ht]; exact hP, hD, hR⟩, hS.F ht⟩) hS.2.2 hd hlk
theorem XE.vreturn (hd : decode cc pc = .ok (.return_, 1)) (hk : k ≤ mc) (hn2 : n ≤ ms) (hp : P none h) : XE (XKM y none d mc ms P) own cc nL k n pc ls [] h := by
  intro p l e R s m args below meth c A D α0 n0 Q hK hC α H locs lsA ha hn hW hl ol os
  obtain ⟨tys, ws, hK2, hP, hD, hS, hR⟩ := id hW
  obtain ⟨rfl, hr, hlk, hnm, rfl⟩ := hK
  refine W.widen hk hn2 ?_
  exact W.vret hC.1 hC.2.1 hr (fun t ht hWm => ⟨⟨α, none, h, tys, ws, rfl, ha, hn, fun w hw => (by cases hw), hp, va_K.moved hWm.alike hK2, by rw [ht]; exact hP, hD, hR⟩, hS.F ht⟩) hS.2.2 hd hlk
end RET
/-! calls -/
def XMI (y : MethodName) (cc : ByteArray) (nL : Nat) (ret : Option FieldType) (a : Nat) : Prop := Cond.code y cc nL ret ∈ AW ∧ Cond.initialized y.cls ∈ AW ∧ y.cls ≠ "java/lang/invoke/MethodHandle" ∧ y.cls ≠ "java/lang/invoke/VarHandle" ∧ (parseMethodDescriptor y.desc).map (fun d => d.parameters.length) = some a
theorem XMI.good {y : MethodName} {cc : ByteArray} {nL : Nat} {ret : Option FieldType} {a : Nat} (h : XMI y cc nL ret a) : GoodIn AW (Cond.code y cc nL ret :: AW) := fun w hw => by
  rcases List.mem_cons.mp hw with e | hw
  · subst e; exact ⟨h.1, AW_good h.1⟩
  · exact ⟨hw, AW_good hw⟩
def XCs (own : String) (idx : Nat) (y : MethodName) : Prop := Cond.methodLink own idx y ∈ AW ∧ Cond.static y ∈ AW
def XCi (own : String) (idx : Nat) (y : MethodName) : Prop := y.name = "<init>" ∧ Cond.instanceMethod y ∈ AW ∧ (Cond.methodLink own idx y ∈ AW ∨ ∃ host, (own, idx, y, host) ∈ x_nest)
def XCv (own : String) (idx ci : Nat) (y : MethodName) : Prop := ∃ (C : String) (T : u_T) (N : Nat), vwCl[ci]? = some (C, T, N) ∧ Cond.instanceMethod y ∈ AW ∧
  ((y.cls = C ∧ Cond.methodLink own idx y ∈ AW ∧ Cond.selects C y y ∈ AW) ∨
   (∃ (x : MethodName) (owner : String), y = ⟨owner, x.name, x.desc⟩ ∧ Cond.methodLink own idx x ∈ AW ∧ Cond.sameMethod x.cls owner x.name x.desc ∈ AW ∧ Cond.selects C x y ∈ AW ∧ owner ≠ "java/lang/invoke/MethodHandle" ∧ owner ≠ "java/lang/invoke/VarHandle" ∧ parseMethodDescriptor x.desc = parseMethodDescriptor y.desc) ∨
   (∃ (x : MethodName) (owner : String) (b0 : ByteArray) (m0 : Nat) (r0 : Option FieldType), Cond.methodLink own idx x ∈ AW ∧ Cond.sameMethod x.cls owner x.name x.desc ∈ AW ∧ Cond.instanceMethod ⟨owner, x.name, x.desc⟩ ∈ AW ∧ Cond.selects C x y ∈ AW ∧ Cond.code ⟨owner, x.name, x.desc⟩ b0 m0 r0 ∈ AW ∧ owner ≠ "java/lang/invoke/MethodHandle" ∧ owner ≠ "java/lang/invoke/VarHandle" ∧ parseMethodDescriptor x.desc = parseMethodDescriptor y.desc))
section CALL
variable {K : XK} {own : String} {cc : ByteArray} {nL k n pc : Nat} {ls : List (Nat × Value)} {h : XH}
theorem x_call {p : Program} {l : Launch} {e : Env} {R : Room} {s : State} {m : MethodId} {args : Array Value} {below : List Frame} {meth : Method} {c : Code} {A : Nat → Prop} {D : va_G} {α0 : Nat → Nat} {n0 : Nat} {Q : State → Prop} {α : Nat → Nat} {H : Heap} {locs : List Loc} {lsA : Array Slot} {ws : va_W} {stk rest : List Value} {P : Option Value → XH → Prop} {mc ms : Nat} {aa : Array Value}
    (hK : K p l e R s m args below meth c A D α0 n0 Q) (hC : XCX p s m args c A own cc nL) (ha : xag n0 α0 α) (hn : n0 ≤ h.length) (hP : va_P D vwCl ws H) (hD : va_D A ws) (hS : va_S A s.heap H locs) (hl : lv_has lsA nL (xlm α ls)) (ol : ∀ q ∈ ls, xok h.length q.2) (orest : ∀ v ∈ rest, xok h.length v)
    (hr : va_Run p l e R s m args below meth c H locs k n mc ms (F0 m pc lsA stk) (rest.map (xcv α)) (XQG D α h.length P (va_A ws H.size) aa) (va_A ws H.size))
    (kk : ∀ (v1 : Option Value) (h1 : XH), P v1 h1 → XE K own cc nL (k + mc) (n + ms) (pc + 3) ls (v1.toList ++ rest) h1) : W p l e R s m args below meth c H locs k n Q (F0 m pc lsA stk) := by
  intro T hT X
  obtain ⟨v, st0, t, T', L, h0, X', hL, e1, e2, ⟨⟨β, v1, h1, tys1, ws1, hv, q1, q2, q3, q4, q5, q6, q7, q8⟩, hz, hk⟩, st⟩ := hr T hT X
  cases hv
  rw [h0] at hz hk
  have hF : ∀ q : Nat, va_A ws H.size q → A q := fun q hq => by
    rcases hq with ⟨i, w, hw⟩ | hq
    · exact hD.2 i _ hw
    · exact hC.2.2.2.2.2.1 q (Nat.le_trans hS.1 hq)
  have hS1 : va_S A s.heap T'.heap (locs ++ L) := ⟨Nat.le_trans hS.1 (by rw [e1]; exact hz), fun q g1 g2 => by rw [e1, hk q (Nat.lt_of_lt_of_le g1 hS.1) (fun z => g2 (hF q z))]; exact hS.2.1 q g1 g2, fun q hq => by
      rcases List.mem_append.mp hq with g | g
      · exact hS.2.2 q g
      · exact hF _ (hL q g)⟩
  have hal : s.vm.Alike t.vm := by rw [← e2]; exact X'.warmed.alike
  have els : xlm β ls = xlm α ls := List.map_congr_left fun v hv => by rw [xcv_ag q1 (ol v hv)]
  have est : (v1.map (xcv β)).toList ++ rest.map (xcv α) = (v1.toList ++ rest).map (xcv β) := by
    rw [List.map_append]
    congr 1
    · cases v1 <;> rfl
    · exact (List.map_congr_left fun v hv => xcv_ag q1 (orest v hv)).symm
  obtain ⟨t2, a1, b1⟩ := kk v1 h1 q4 p l e R s m args below meth c A D α0 n0 Q hK hC β T'.heap (locs ++ L) lsA (ha.tr hn q1) (Nat.le_trans hn q2) ⟨tys1, ws1, va_K.moved hal.symm q5, by rw [e1]; exact q6, q7.weaken (fun k q _ hq => hF _ hq), hS1, q8⟩ (by rw [els]; exact hl) (fun v hv => (ol v hv).mono q2)
    (fun w hw => by
      rcases List.mem_append.mp hw with g | g
      · exact q3 w (Option.mem_toList.mp g)
      · exact (orest w g).mono q2) T' rfl X'
  rw [← est] at a1
  exact ⟨t2, st t2 a1, b1⟩
theorem x_blind {D : va_G} {α : Nat → Nat} {sz : Nat} {tys : List (ClassId × FieldType)} {ws : va_W} {args : List Value} : FrameBlind (XPc D α sz tys ws args) := by
  intro a U g mk q
  obtain ⟨q0, q1, qP, qK, qD, qN⟩ := q
  exact ⟨q0, q1, qP, va_K.moved (u := U) (U := U.calling g mk a) (Vm.Alike.refl U.vm) qK, qD, qN.same rfl⟩
theorem x_pre {D : va_G} {A : Nat → Prop} {s : State} {α : Nat → Nat} {tys : List (ClassId × FieldType)} {ws : va_W} {H : Heap} {As : List Value} (hK2 : va_K D vwCl tys s) (hP : va_P D vwCl ws H) (hD : va_D A ws) (hN : XNF s) : ∀ U : State, U.heap = H → s.WarmedH U.vm → XPc D α H.size tys ws As (As.map (xcv α)).toArray U :=
  fun U hU hW => ⟨rfl, by rw [hU], by rw [hU]; exact hP, va_K.moved hW.alike hK2, hD.weaken (fun _ _ _ _ => trivial), hN.warm hW⟩
theorem x_cat {α : Nat → Nat} {st : List Value} (h : (st.map fun v => v.category).sum ≤ 8) : ((st.map (xcv α)).map fun v => v.category).sum ≤ 8 := by
  rw [List.map_map]
  have e : ((fun v : Value => v.category) ∘ xcv α) = fun v => v.category := by funext v; exact xcv_cat α v
  rw [e]; exact h
variable {idx : Nat} {y : MethodName} {cc' : ByteArray} {nL' d mc ms a : Nat} {ret : Option FieldType} {As st stk : List Value} {P : Option Value → XH → Prop}
theorem XE.calls (hc : XCs own idx y) (hm : XMI y cc' nL' ret a) (hsp : XSp y cc' nL' ret d mc ms As h P) (hd : decode cc pc = .ok (.invokestatic idx, 3)) (hstk : stk = As.reverse ++ st) (hlen : As.length = a) (hcat : (st.map fun v => v.category).sum ≤ 8) (hroom : XRD K d nL' (k + mc) (n + ms))
    (kk : ∀ (v1 : Option Value) (h1 : XH), P v1 h1 → XE K own cc nL (k + mc) (n + ms) (pc + 3) ls (v1.toList ++ st) h1) : XE K own cc nL k n pc ls stk h := by
  intro p l e R s m args below meth c A D α0 n0 Q hK hC α H locs lsA ha hn hW hl ol os
  obtain ⟨tys, ws, hK2, hP, hD, hS, hR⟩ := id hW
  obtain ⟨b1, b2⟩ := hroom _ _ _ _ _ _ _ _ _ _ _ _ _ _ _ hK
  subst hstk
  have oas : ∀ v ∈ As, xok h.length v := fun v hv => os v (List.mem_append_left _ (List.mem_reverse.mpr hv))
  have ost : ∀ v ∈ st, xok h.length v := fun v hv => os v (List.mem_append_right _ hv)
  have e0 : (As.reverse ++ st).map (xcv α) = (As.map (xcv α)).reverse ++ st.map (xcv α) := by rw [List.map_append, List.map_reverse]
  rw [e0]
  exact x_call hK hC ha hn hP hD hS hl ol ost
    (va_runS (y := y) (ws := Cond.code y cc' nL' ret :: AW) (rm := XRM d mc ms) (As := As.map (xcv α)) (n := a) (Ts := AW) ⟨hC.1, hC.2.1, hC.2.2.1, hC.2.2.2.1, hC.2.2.2.2.1⟩ (hsp l D α H.size tys ws hR oas)
      ⟨callB_of a hC.2.2.2.2.1 hm.good rfl rfl rfl (hC.2.2.2.2.1 _ hm.2.1) (hC.2.2.2.2.1 _ hc.1) hm.2.2 b1, hC.2.2.2.2.1 _ hc.2⟩
      ⟨x_blind, x_pre hK2 hP hD hC.2.2.2.2.2.2⟩ rfl (by rw [List.length_map]; exact hlen) hl.1 rfl (lv_room (x_cat hcat)) hd b2) kk
theorem XE.calli {b : Nat} (hc : XCi own idx y) (hm : XMI y cc' nL' none a) (hsp : XSp y cc' nL' none d mc ms (.ref b :: As) h P) (hd : decode cc pc = .ok (.invokespecial idx, 3)) (hstk : stk = As.reverse ++ .ref b :: st) (hlen : As.length = a) (hcat : (st.map fun v => v.category).sum ≤ 8) (hroom : XRD K d nL' (k + mc) (n + ms))
    (kk : ∀ (v1 : Option Value) (h1 : XH), P v1 h1 → XE K own cc nL (k + mc) (n + ms) (pc + 3) ls (v1.toList ++ st) h1) : XE K own cc nL k n pc ls stk h := by
  intro p l e R s m args below meth c A D α0 n0 Q hK hC α H locs lsA ha hn hW hl ol os
  obtain ⟨tys, ws, hK2, hP, hD, hS, hR⟩ := id hW
  obtain ⟨b1, b2⟩ := hroom _ _ _ _ _ _ _ _ _ _ _ _ _ _ _ hK
  subst hstk
  have oas : ∀ v ∈ Value.ref b :: As, xok h.length v := fun v hv => by
    rcases List.mem_cons.mp hv with g | g
    · subst g; exact os _ (List.mem_append_right _ List.mem_cons_self)
    · exact os v (List.mem_append_left _ (List.mem_reverse.mpr g))
  have ost : ∀ v ∈ st, xok h.length v := fun v hv => os v (List.mem_append_right _ (List.mem_cons_of_mem _ hv))
  have e0 : (As.reverse ++ .ref b :: st).map (xcv α) = (As.map (xcv α)).reverse ++ .ref (α b) :: st.map (xcv α) := by rw [List.map_append, List.map_reverse]; rfl
  rw [e0]
  have hM := hsp l D α H.size tys ws hR oas
  have hpre := x_pre (As := .ref b :: As) (α := α) hK2 hP hD hC.2.2.2.2.2.2
  obtain ⟨hc1, hc2, hc3 | ⟨host, hc3⟩⟩ := hc
  · exact x_call hK hC ha hn hP hD hS hl ol ost
      (va_runI (y := y) (ws := Cond.code y cc' nL' none :: AW) (rm := XRM d mc ms) (b := α b) (As := As.map (xcv α)) (n := a) (Ts := AW) ⟨hC.1, hC.2.1, hC.2.2.1, hC.2.2.2.1, hC.2.2.2.2.1⟩ hM
        ⟨callB_of a hC.2.2.2.2.1 hm.good rfl rfl rfl (hC.2.2.2.2.1 _ hm.2.1) (hC.2.2.2.2.1 _ hc3) hm.2.2 b1, hc1, hC.2.2.2.2.1 _ hc2⟩
        ⟨x_blind, hpre⟩ rfl (by rw [List.length_map]; exact hlen) hl.1 rfl (lv_room (x_cat hcat)) hd b2) kk
  · exact x_call hK hC ha hn hP hD hS hl ol ost
      (va_runIN (y := y) (host := host) (ws := Cond.code y cc' nL' none :: AW) (rm := XRM d mc ms) (b := α b) (As := As.map (xcv α)) (n := a) (Ts := AW) ⟨hC.1, hC.2.1, hC.2.2.1, hC.2.2.2.1, hC.2.2.2.2.1⟩ hM
        ⟨va_cnB a hC.2.2.2.2.1 hm.good rfl rfl rfl (hC.2.2.2.2.2.2.1 _ hc3) (hC.2.2.2.2.1 _ hm.2.1) hm.2.2 b1, hc1, hC.2.2.2.2.1 _ hc2⟩
        ⟨x_blind, hpre⟩ rfl (by rw [List.length_map]; exact hlen) hl.1 rfl (lv_room (x_cat hcat)) hd b2) kk
theorem XE.callv {b ci : Nat} {fs : List Value} (hc : XCv own idx ci y) (hm : XMI y cc' nL' ret a) (ho : h[b]? = some (.inr (ci, fs))) (hsp : XSp y cc' nL' ret d mc ms (.ref b :: As) h P) (hd : decode cc pc = .ok (.invokevirtual idx, 3)) (hstk : stk = As.reverse ++ .ref b :: st) (hlen : As.length = a) (hcat : (st.map fun v => v.category).sum ≤ 8) (hroom : XRD K d nL' (k + mc) (n + ms))
    (kk : ∀ (v1 : Option Value) (h1 : XH), P v1 h1 → XE K own cc nL (k + mc) (n + ms) (pc + 3) ls (v1.toList ++ st) h1) : XE K own cc nL k n pc ls stk h := by
  intro p l e R s m args below meth c A D α0 n0 Q hK hC α H locs lsA ha hn hW hl ol os
  obtain ⟨tys, ws, hK2, hP, hD, hS, hR⟩ := id hW
  obtain ⟨b1, b2⟩ := hroom _ _ _ _ _ _ _ _ _ _ _ _ _ _ _ hK
  subst hstk
  have oas : ∀ v ∈ Value.ref b :: As, xok h.length v := fun v hv => by
    rcases List.mem_cons.mp hv with g | g
    · subst g; exact os _ (List.mem_append_right _ List.mem_cons_self)
    · exact os v (List.mem_append_left _ (List.mem_reverse.mpr g))
  have ost : ∀ v ∈ st, xok h.length v := fun v hv => os v (List.mem_append_right _ (List.mem_cons_of_mem _ hv))
  have e0 : (As.reverse ++ .ref b :: st).map (xcv α) = (As.map (xcv α)).reverse ++ .ref (α b) :: st.map (xcv α) := by rw [List.map_append, List.map_reverse]; rfl
  rw [e0]
  have hM := hsp l D α H.size tys ws hR oas
  have hpre := x_pre (As := .ref b :: As) (α := α) hK2 hP hD hC.2.2.2.2.2.2
  have okw : ∀ w ∈ AW, w.before args s = true := hC.2.2.2.2.1
  obtain ⟨C, T, N, hcl, hin, hc⟩ := hc
  have hrcv := x_recv (A := A) hK2 hP hR ho hcl
  rcases hc with ⟨g1, g2, g3⟩ | ⟨x, owner, g1, g2, g3, g4, g5, g6, g7⟩ | ⟨x, owner, b0, m0, r0, g2, g3, g8, g4, g9, g5, g6, g7⟩
  · exact x_call hK hC ha hn hP hD hS hl ol ost
      (va_runV (y := y) (C := C) (ws := Cond.code y cc' nL' ret :: AW) (rm := XRM d mc ms) (b := α b) (As := As.map (xcv α)) (n := a) (Ts := AW) ⟨hC.1, hC.2.1, hC.2.2.1, hC.2.2.2.1, okw⟩ hM
        ⟨callB_of a okw hm.good rfl rfl rfl (okw _ hm.2.1) (okw _ g2) hm.2.2 b1, okw _ hin, okw _ g3⟩
        ⟨x_blind, hrcv, hpre⟩ rfl (by rw [List.length_map]; exact hlen) hl.1 rfl (lv_room (x_cat hcat)) hd b2) kk
  · exact x_call hK hC ha hn hP hD hS hl ol ost
      (va_runU (x := x) (y := y) (C := C) (owner := owner) (ws := Cond.code y cc' nL' ret :: AW) (rm := XRM d mc ms) (b := α b) (As := As.map (xcv α)) (n := a) (Ts := AW) ⟨hC.1, hC.2.1, hC.2.2.1, hC.2.2.2.1, okw⟩ hM
        (va_cwU a okw (fun w hw => by
          simp only [va_wsU, List.mem_append, List.mem_cons, List.not_mem_nil, or_false] at hw
          rcases hw with (rfl | rfl | rfl | rfl | rfl) | hw
          · exact ⟨g2, AW_good g2⟩
          · exact ⟨g3, AW_good g3⟩
          · exact ⟨g4, AW_good g4⟩
          · exact ⟨hin, AW_good hin⟩
          · exact ⟨hm.2.1, AW_good hm.2.1⟩
          · exact hm.good w (List.mem_cons.mpr hw)) rfl rfl rfl g1 ⟨g5, g6, by rw [g7]; exact hm.2.2.2.2⟩ b1)
        ⟨x_blind, hrcv, hpre⟩ rfl (by rw [List.length_map]; exact hlen) hl.1 rfl (lv_room (x_cat hcat)) hd b2) kk
  · exact x_call hK hC ha hn hP hD hS hl ol ost
      (va_runU (x := x) (y := y) (C := C) (owner := owner) (ws := Cond.code y cc' nL' ret :: AW) (rm := XRM d mc ms) (b := α b) (As := As.map (xcv α)) (n := a) (Ts := AW) ⟨hC.1, hC.2.1, hC.2.2.1, hC.2.2.2.1, okw⟩ hM
        (va_cwO a okw (fun w hw => by
          simp only [va_wsO, List.mem_append, List.mem_cons, List.not_mem_nil, or_false] at hw
          rcases hw with (rfl | rfl | rfl | rfl | rfl | rfl) | hw
          · exact ⟨g2, AW_good g2⟩
          · exact ⟨g3, AW_good g3⟩
          · exact ⟨g8, AW_good g8⟩
          · exact ⟨g4, AW_good g4⟩
          · exact ⟨hin, AW_good hin⟩
          · exact ⟨hm.2.1, AW_good hm.2.1⟩
          · exact hm.good w (List.mem_cons.mpr hw)) rfl rfl rfl g9 ⟨g5, g6, by rw [g7]; exact hm.2.2.2.2⟩ b1)
        ⟨x_blind, hrcv, hpre⟩ rfl (by rw [List.length_map]; exact hlen) hl.1 rfl (lv_room (x_cat hcat)) hd b2) kk
end CALL
end
section
theorem AWi {w : Cond} (i : Nat) (h : lw_tbl[i]? = some w) (g : goodWord w = true) : w ∈ AW := AW_of (List.mem_of_getElem? h) g
theorem AWall (ws : List Cond) (ps : List Nat) (hp : ws = ps.filterMap (fun i => lw_tbl[i]?)) (h : ws.all goodWord = true) : ∀ w ∈ ws, w ∈ AW := fun w hw => by
  have h1 := List.all_eq_true.mp h w hw
  rw [hp] at hw
  obtain ⟨i, -, hi⟩ := List.mem_filterMap.mp hw
  exact AWi i hi h1
/-! the tables' words, as the rules ask for them: by program -/
set_option maxRecDepth 100000 in
theorem wa_X0 : ∀ w ∈ wsX00, w ∈ AW := AWall _ [321, 322] (by decide +kernel) (by decide +kernel)
set_option maxRecDepth 100000 in
theorem wa_X1 : ∀ w ∈ wsX10, w ∈ AW := AWall _ [362, 364, 366] (by decide +kernel) (by decide +kernel)
set_option maxRecDepth 100000 in
theorem wa_X2 : ∀ w ∈ wsX20, w ∈ AW := AWall _ [330, 331] (by decide +kernel) (by decide +kernel)
set_option maxRecDepth 100000 in
theorem wa_X3 : ∀ w ∈ wsX30, w ∈ AW := AWall _ [344, 345] (by decide +kernel) (by decide +kernel)
set_option maxRecDepth 100000 in
theorem wa_X4 : ∀ w ∈ wsX40, w ∈ AW := AWall _ [177, 179, 181, 183, 185, 187, 189] (by decide +kernel) (by decide +kernel)
set_option maxRecDepth 100000 in
theorem wa_X5 : ∀ w ∈ wsX50, w ∈ AW := AWall _ [85, 87] (by decide +kernel) (by decide +kernel)
set_option maxRecDepth 100000 in
theorem wa_X6 : ∀ w ∈ wsX60, w ∈ AW := AWall _ [105, 107, 109, 111] (by decide +kernel) (by decide +kernel)
set_option maxRecDepth 100000 in
theorem wa_X7 : ∀ w ∈ wsX70, w ∈ AW := AWall _ [151, 153, 155, 157, 159] (by decide +kernel) (by decide +kernel)
set_option maxRecDepth 100000 in
theorem wa_X8 : ∀ w ∈ wsX80, w ∈ AW := AWall _ [310, 312] (by decide +kernel) (by decide +kernel)
set_option maxRecDepth 100000 in
theorem wa_X9 : ∀ w ∈ wsX90, w ∈ AW := AWall _ [339, 340] (by decide +kernel) (by decide +kernel)
set_option maxRecDepth 100000 in
theorem wa_X10 : ∀ w ∈ wsX100, w ∈ AW := AWall _ [131, 133, 135, 137, 139] (by decide +kernel) (by decide +kernel)
set_option maxRecDepth 100000 in
theorem wa_X11 : ∀ w ∈ wsX110, w ∈ AW := AWall _ [201, 203, 205, 207, 209, 211, 213, 215, 217] (by decide +kernel) (by decide +kernel)
set_option maxRecDepth 100000 in
theorem wa_X12 : ∀ w ∈ wsX120, w ∈ AW := AWall _ [776, 778, 780, 782, 784, 786, 788, 790, 792, 794, 796, 798, 800, 802, 804, 806, 808, 810, 812, 814, 816, 818, 820, 822, 824, 826, 828, 830, 832, 834, 836, 838, 840, 842, 844, 846, 848, 850, 852, 854] (by decide +kernel) (by decide +kernel)
set_option maxRecDepth 100000 in
theorem tq_J6_265 : Cond.constant RJ6 265 (zI (1431655765)) ∈ AW := (AWi 502 (by decide +kernel) rfl)
set_option maxRecDepth 100000 in
theorem tq_J6_266 : Cond.constant RJ6 266 (zI (858993459)) ∈ AW := (AWi 503 (by decide +kernel) rfl)
set_option maxRecDepth 100000 in
theorem tq_J6_267 : Cond.constant RJ6 267 (zI (252645135)) ∈ AW := (AWi 504 (by decide +kernel) rfl)
set_option maxRecDepth 100000 in
theorem tn_L_7 : XN RL 7 11 9 [.null, .null, .null, .null, .null, .null, .int (zI 0), .int (zI 0), .int (zI 0)] := ⟨RX11, TX11, tyX11, rfl, wa_X11, tyX11_ok, (AWi 69 (by decide +kernel) rfl), (AWi 70 (by decide +kernel) rfl), (AWi 54 (by decide +kernel) rfl), by decide +kernel, fun _ => rfl⟩
set_option maxRecDepth 100000 in
theorem tn_L_10 : XN RL 10 12 40 [.int (zI 0), .int (zI 0), .int (zI 0), .null, .null, .null, .null, .null, .null, .null, .int (zI 0), .int (zI 0), .int (zI 0), .null, .null, .null, .null, .int (zI 0), .int (zI 0), .null, .int (zI 0), .int (zI 0), .int (zI 0), .int (zI 0), .int (zI 0), .null, .long 0, .null, .int (zI 0), .int (zI 0), .int (zI 0), .int (zI 0), .int (zI 0), .null, .null, .null, .null, .null, .null, .long 0] := ⟨RX12, TX12, tyX12, rfl, wa_X12, tyX12_ok, (AWi 730 (by decide +kernel) rfl), (AWi 731 (by decide +kernel) rfl), (AWi 60 (by decide +kernel) rfl), by decide +kernel, fun _ => rfl⟩
set_option maxRecDepth 100000 in
theorem tp_X1_7_1 : XP RX1 7 1 0 true .int := ⟨RX1, TX1, 3, "ConfessBySize$Crime", tyX1, rfl, by decide, wa_X1, ((AWi 356 (by decide +kernel) rfl) : Cond.fieldLink RX1 7 "ConfessBySize$Crime" "toldSize" "I" ∈ AW), by decide +kernel, tyX1_ok, nmX1, rfl, by decide +kernel⟩
set_option maxRecDepth 100000 in
theorem tp_X1_13_1 : XP RX1 13 1 1 true .int := ⟨RX1, TX1, 3, "ConfessBySize$Crime", tyX1, rfl, by decide, wa_X1, ((AWi 358 (by decide +kernel) rfl) : Cond.fieldLink RX1 13 "ConfessBySize$Crime" "hand" "I" ∈ AW), by decide +kernel, tyX1_ok, nmX1, rfl, by decide +kernel⟩
set_option maxRecDepth 100000 in
theorem tp_X1_16_1 : XP RX1 16 1 2 true .int := ⟨RX1, TX1, 3, "ConfessBySize$Crime", tyX1, rfl, by decide, wa_X1, ((AWi 360 (by decide +kernel) rfl) : Cond.fieldLink RX1 16 "ConfessBySize$Crime" "reward" "I" ∈ AW), by decide +kernel, tyX1_ok, nmX1, rfl, by decide +kernel⟩
set_option maxRecDepth 100000 in
theorem tf_X10_9_10 : XF RX10 9 10 0 := ⟨RX10, TX10, 5, "ConfessBySize$Trials", rfl, by decide, wa_X10, ((AWi 126 (by decide +kernel) rfl) : Cond.fieldLink RX10 9 "ConfessBySize$Trials" "persons" "[I" ∈ AW), by decide +kernel⟩
set_option maxRecDepth 100000 in
theorem tf_X10_15_10 : XF RX10 15 10 1 := ⟨RX10, TX10, 5, "ConfessBySize$Trials", rfl, by decide, wa_X10, ((AWi 127 (by decide +kernel) rfl) : Cond.fieldLink RX10 15 "ConfessBySize$Trials" "crimeSizes" "[I" ∈ AW), by decide +kernel⟩
set_option maxRecDepth 100000 in
theorem tf_X10_18_10 : XF RX10 18 10 2 := ⟨RX10, TX10, 5, "ConfessBySize$Trials", rfl, by decide, wa_X10, ((AWi 128 (by decide +kernel) rfl) : Cond.fieldLink RX10 18 "ConfessBySize$Trials" "crimeHands" "[I" ∈ AW), by decide +kernel⟩
set_option maxRecDepth 100000 in
theorem tf_X10_21_10 : XF RX10 21 10 3 := ⟨RX10, TX10, 5, "ConfessBySize$Trials", rfl, by decide, wa_X10, ((AWi 129 (by decide +kernel) rfl) : Cond.fieldLink RX10 21 "ConfessBySize$Trials" "didFit" "[Z" ∈ AW), by decide +kernel⟩
set_option maxRecDepth 100000 in
theorem tf_X10_25_10 : XF RX10 25 10 4 := ⟨RX10, TX10, 5, "ConfessBySize$Trials", rfl, by decide, wa_X10, ((AWi 130 (by decide +kernel) rfl) : Cond.fieldLink RX10 25 "ConfessBySize$Trials" "many" "I" ∈ AW), by decide +kernel⟩
set_option maxRecDepth 100000 in
theorem tp_X10_9_10 : XP RX10 9 10 0 true (.array .int) := ⟨RX10, TX10, 5, "ConfessBySize$Trials", tyX10, rfl, by decide, wa_X10, ((AWi 126 (by decide +kernel) rfl) : Cond.fieldLink RX10 9 "ConfessBySize$Trials" "persons" "[I" ∈ AW), by decide +kernel, tyX10_ok, nmX10, rfl, by decide +kernel⟩
set_option maxRecDepth 100000 in
theorem tp_X10_15_10 : XP RX10 15 10 1 true (.array .int) := ⟨RX10, TX10, 5, "ConfessBySize$Trials", tyX10, rfl, by decide, wa_X10, ((AWi 127 (by decide +kernel) rfl) : Cond.fieldLink RX10 15 "ConfessBySize$Trials" "crimeSizes" "[I" ∈ AW), by decide +kernel, tyX10_ok, nmX10, rfl, by decide +kernel⟩
set_option maxRecDepth 100000 in
theorem tp_X10_18_10 : XP RX10 18 10 2 true (.array .int) := ⟨RX10, TX10, 5, "ConfessBySize$Trials", tyX10, rfl, by decide, wa_X10, ((AWi 128 (by decide +kernel) rfl) : Cond.fieldLink RX10 18 "ConfessBySize$Trials" "crimeHands" "[I" ∈ AW), by decide +kernel, tyX10_ok, nmX10, rfl, by decide +kernel⟩
set_option maxRecDepth 100000 in
theorem tp_X10_21_10 : XP RX10 21 10 3 true (.array .boolean) := ⟨RX10, TX10, 5, "ConfessBySize$Trials", tyX10, rfl, by decide, wa_X10, ((AWi 129 (by decide +kernel) rfl) : Cond.fieldLink RX10 21 "ConfessBySize$Trials" "didFit" "[Z" ∈ AW), by decide +kernel, tyX10_ok, nmX10, rfl, by decide +kernel⟩
set_option maxRecDepth 100000 in
theorem tp_X10_25_10 : XP RX10 25 10 4 false .int := ⟨RX10, TX10, 5, "ConfessBySize$Trials", tyX10, rfl, by decide, wa_X10, ((AWi 130 (by decide +kernel) rfl) : Cond.fieldLink RX10 25 "ConfessBySize$Trials" "many" "I" ∈ AW), by decide +kernel, tyX10_ok, nmX10, rfl, by decide +kernel⟩
set_option maxRecDepth 100000 in
theorem tf_X11_10_11 : XF RX11 10 11 0 := ⟨RX11, TX11, 9, "ConfessBySize", rfl, by decide, wa_X11, ((AWi 192 (by decide +kernel) rfl) : Cond.fieldLink RX11 10 "ConfessBySize" "page" "LConfessBySize$Page;" ∈ AW), by decide +kernel⟩
set_option maxRecDepth 100000 in
theorem tf_X11_19_11 : XF RX11 19 11 1 := ⟨RX11, TX11, 9, "ConfessBySize", rfl, by decide, wa_X11, ((AWi 193 (by decide +kernel) rfl) : Cond.fieldLink RX11 19 "ConfessBySize" "roll" "LConfessBySize$Roll;" ∈ AW), by decide +kernel⟩
set_option maxRecDepth 100000 in
theorem tf_X11_26_11 : XF RX11 26 11 2 := ⟨RX11, TX11, 9, "ConfessBySize", rfl, by decide, wa_X11, ((AWi 194 (by decide +kernel) rfl) : Cond.fieldLink RX11 26 "ConfessBySize" "now" "LConfessBySize$Standing;" ∈ AW), by decide +kernel⟩
set_option maxRecDepth 100000 in
theorem tf_X11_30_11 : XF RX11 30 11 3 := ⟨RX11, TX11, 9, "ConfessBySize", rfl, by decide, wa_X11, ((AWi 195 (by decide +kernel) rfl) : Cond.fieldLink RX11 30 "ConfessBySize" "kept" "LConfessBySize$Standing;" ∈ AW), by decide +kernel⟩
set_option maxRecDepth 100000 in
theorem tf_X11_33_11 : XF RX11 33 11 4 := ⟨RX11, TX11, 9, "ConfessBySize", rfl, by decide, wa_X11, ((AWi 196 (by decide +kernel) rfl) : Cond.fieldLink RX11 33 "ConfessBySize" "wouldBe" "LConfessBySize$Standing;" ∈ AW), by decide +kernel⟩
set_option maxRecDepth 100000 in
theorem tf_X11_39_11 : XF RX11 39 11 5 := ⟨RX11, TX11, 9, "ConfessBySize", rfl, by decide, wa_X11, ((AWi 197 (by decide +kernel) rfl) : Cond.fieldLink RX11 39 "ConfessBySize" "matching" "LConfessBySize$Matching;" ∈ AW), by decide +kernel⟩
set_option maxRecDepth 100000 in
theorem tf_X11_72_11 : XF RX11 72 11 6 := ⟨RX11, TX11, 9, "ConfessBySize", rfl, by decide, wa_X11, ((AWi 198 (by decide +kernel) rfl) : Cond.fieldLink RX11 72 "ConfessBySize" "isKept" "Z" ∈ AW), by decide +kernel⟩
set_option maxRecDepth 100000 in
theorem tf_X11_76_11 : XF RX11 76 11 7 := ⟨RX11, TX11, 9, "ConfessBySize", rfl, by decide, wa_X11, ((AWi 199 (by decide +kernel) rfl) : Cond.fieldLink RX11 76 "ConfessBySize" "stationsRead" "I" ∈ AW), by decide +kernel⟩
set_option maxRecDepth 100000 in
theorem tf_X11_92_0 : XF RX11 92 0 0 := ⟨RX0, TX0, 2, "ConfessBySize$Man", rfl, by decide, wa_X0, ((AWi 307 (by decide +kernel) rfl) : Cond.fieldLink RX11 92 "ConfessBySize$Man" "size" "I" ∈ AW), by decide +kernel⟩
set_option maxRecDepth 100000 in
theorem tf_X11_92_2 : XF RX11 92 2 0 := ⟨RX2, TX2, 2, "ConfessBySize$Man", rfl, by decide, wa_X2, ((AWi 307 (by decide +kernel) rfl) : Cond.fieldLink RX11 92 "ConfessBySize$Man" "size" "I" ∈ AW), by decide +kernel⟩
set_option maxRecDepth 100000 in
theorem tf_X11_92_3 : XF RX11 92 3 0 := ⟨RX3, TX3, 2, "ConfessBySize$Man", rfl, by decide, wa_X3, ((AWi 307 (by decide +kernel) rfl) : Cond.fieldLink RX11 92 "ConfessBySize$Man" "size" "I" ∈ AW), by decide +kernel⟩
set_option maxRecDepth 100000 in
theorem tf_X11_92_8 : XF RX11 92 8 0 := ⟨RX8, TX8, 2, "ConfessBySize$Man", rfl, by decide, wa_X8, ((AWi 307 (by decide +kernel) rfl) : Cond.fieldLink RX11 92 "ConfessBySize$Man" "size" "I" ∈ AW), by decide +kernel⟩
set_option maxRecDepth 100000 in
theorem tf_X11_92_9 : XF RX11 92 9 0 := ⟨RX9, TX9, 2, "ConfessBySize$Man", rfl, by decide, wa_X9, ((AWi 307 (by decide +kernel) rfl) : Cond.fieldLink RX11 92 "ConfessBySize$Man" "size" "I" ∈ AW), by decide +kernel⟩
set_option maxRecDepth 100000 in
theorem tf_X11_95_0 : XF RX11 95 0 1 := ⟨RX0, TX0, 2, "ConfessBySize$Man", rfl, by decide, wa_X0, ((AWi 309 (by decide +kernel) rfl) : Cond.fieldLink RX11 95 "ConfessBySize$Man" "hand" "I" ∈ AW), by decide +kernel⟩
set_option maxRecDepth 100000 in
theorem tf_X11_95_2 : XF RX11 95 2 1 := ⟨RX2, TX2, 2, "ConfessBySize$Man", rfl, by decide, wa_X2, ((AWi 309 (by decide +kernel) rfl) : Cond.fieldLink RX11 95 "ConfessBySize$Man" "hand" "I" ∈ AW), by decide +kernel⟩
set_option maxRecDepth 100000 in
theorem tf_X11_95_3 : XF RX11 95 3 1 := ⟨RX3, TX3, 2, "ConfessBySize$Man", rfl, by decide, wa_X3, ((AWi 309 (by decide +kernel) rfl) : Cond.fieldLink RX11 95 "ConfessBySize$Man" "hand" "I" ∈ AW), by decide +kernel⟩
set_option maxRecDepth 100000 in
theorem tf_X11_95_8 : XF RX11 95 8 1 := ⟨RX8, TX8, 2, "ConfessBySize$Man", rfl, by decide, wa_X8, ((AWi 309 (by decide +kernel) rfl) : Cond.fieldLink RX11 95 "ConfessBySize$Man" "hand" "I" ∈ AW), by decide +kernel⟩
set_option maxRecDepth 100000 in
theorem tf_X11_95_9 : XF RX11 95 9 1 := ⟨RX9, TX9, 2, "ConfessBySize$Man", rfl, by decide, wa_X9, ((AWi 309 (by decide +kernel) rfl) : Cond.fieldLink RX11 95 "ConfessBySize$Man" "hand" "I" ∈ AW), by decide +kernel⟩
set_option maxRecDepth 100000 in
theorem tf_X11_129_1 : XF RX11 129 1 1 := ⟨RX1, TX1, 3, "ConfessBySize$Crime", rfl, by decide, wa_X1, ((AWi 359 (by decide +kernel) rfl) : Cond.fieldLink RX11 129 "ConfessBySize$Crime" "hand" "I" ∈ AW), by decide +kernel⟩
set_option maxRecDepth 100000 in
theorem tf_X11_132_1 : XF RX11 132 1 2 := ⟨RX1, TX1, 3, "ConfessBySize$Crime", rfl, by decide, wa_X1, ((AWi 361 (by decide +kernel) rfl) : Cond.fieldLink RX11 132 "ConfessBySize$Crime" "reward" "I" ∈ AW), by decide +kernel⟩
set_option maxRecDepth 100000 in
theorem tf_X11_152_7 : XF RX11 152 7 4 := ⟨RX7, TX7, 5, "ConfessBySize$Standing", rfl, by decide, wa_X7, ((AWi 150 (by decide +kernel) rfl) : Cond.fieldLink RX11 152 "ConfessBySize$Standing" "timesConfessed" "I" ∈ AW), by decide +kernel⟩
set_option maxRecDepth 100000 in
theorem tf_X11_162_7 : XF RX11 162 7 3 := ⟨RX7, TX7, 5, "ConfessBySize$Standing", rfl, by decide, wa_X7, ((AWi 148 (by decide +kernel) rfl) : Cond.fieldLink RX11 162 "ConfessBySize$Standing" "stitchesMade" "I" ∈ AW), by decide +kernel⟩
set_option maxRecDepth 100000 in
theorem tf_X11_177_11 : XF RX11 177 11 8 := ⟨RX11, TX11, 9, "ConfessBySize", rfl, by decide, wa_X11, ((AWi 200 (by decide +kernel) rfl) : Cond.fieldLink RX11 177 "ConfessBySize" "stitchingsDone" "I" ∈ AW), by decide +kernel⟩
set_option maxRecDepth 100000 in
theorem tf_X11_184_7 : XF RX11 184 7 2 := ⟨RX7, TX7, 5, "ConfessBySize$Standing", rfl, by decide, wa_X7, ((AWi 146 (by decide +kernel) rfl) : Cond.fieldLink RX11 184 "ConfessBySize$Standing" "trials" "LConfessBySize$Trials;" ∈ AW), by decide +kernel⟩
set_option maxRecDepth 100000 in
theorem tf_X11_283_4 : XF RX11 283 4 5 := ⟨RX4, TX4, 7, "ConfessBySize$Matching", rfl, by decide, wa_X4, ((AWi 174 (by decide +kernel) rfl) : Cond.fieldLink RX11 283 "ConfessBySize$Matching" "bestMany" "I" ∈ AW), by decide +kernel⟩
set_option maxRecDepth 100000 in
theorem tf_X11_286_4 : XF RX11 286 4 6 := ⟨RX4, TX4, 7, "ConfessBySize$Matching", rfl, by decide, wa_X4, ((AWi 176 (by decide +kernel) rfl) : Cond.fieldLink RX11 286 "ConfessBySize$Matching" "bestReward" "I" ∈ AW), by decide +kernel⟩
set_option maxRecDepth 100000 in
theorem tk_X11_242 : Cond.classLink RX11 242 RX8 ∈ AW := (AWi 515 (by decide +kernel) rfl)
set_option maxRecDepth 100000 in
theorem tk_X11_244 : Cond.classLink RX11 244 RX0 ∈ AW := (AWi 516 (by decide +kernel) rfl)
set_option maxRecDepth 100000 in
theorem tk_X11_246 : Cond.classLink RX11 246 RX2 ∈ AW := (AWi 517 (by decide +kernel) rfl)
set_option maxRecDepth 100000 in
theorem tk_X11_248 : Cond.classLink RX11 248 RX9 ∈ AW := (AWi 518 (by decide +kernel) rfl)
set_option maxRecDepth 100000 in
theorem tq_X11_222 : Cond.constantLong RX11 222 (1009) ∈ AW := (AWi 720 (by decide +kernel) rfl)
set_option maxRecDepth 100000 in
theorem tq_X11_224 : Cond.constantLong RX11 224 (31) ∈ AW := (AWi 721 (by decide +kernel) rfl)
set_option maxRecDepth 100000 in
theorem tq_X11_315 : Cond.constantLong RX11 315 (1103515245) ∈ AW := (AWi 685 (by decide +kernel) rfl)
set_option maxRecDepth 100000 in
theorem tq_X11_317 : Cond.constantLong RX11 317 (12345) ∈ AW := (AWi 686 (by decide +kernel) rfl)
set_option maxRecDepth 100000 in
theorem tq_X11_319 : Cond.constantLong RX11 319 (2147483647) ∈ AW := (AWi 687 (by decide +kernel) rfl)
set_option maxRecDepth 100000 in
theorem tq_X11_321 : Cond.constant RX11 321 (zI (65536)) ∈ AW := (AWi 691 (by decide +kernel) rfl)
set_option maxRecDepth 100000 in
theorem tn_X11_7 : XN RX11 7 5 2 [.null, .int (zI 0)] := ⟨RX5, TX5, tyX5, rfl, wa_X5, tyX5_ok, (AWi 77 (by decide +kernel) rfl), (AWi 78 (by decide +kernel) rfl), (AWi 55 (by decide +kernel) rfl), by decide +kernel, fun _ => rfl⟩
set_option maxRecDepth 100000 in
theorem tn_X11_16 : XN RX11 16 6 4 [.null, .null, .int (zI 0), .int (zI 0)] := ⟨RX6, TX6, tyX6, rfl, wa_X6, tyX6_ok, (AWi 91 (by decide +kernel) rfl), (AWi 92 (by decide +kernel) rfl), (AWi 56 (by decide +kernel) rfl), by decide +kernel, fun _ => rfl⟩
set_option maxRecDepth 100000 in
theorem tn_X11_23 : XN RX11 23 7 5 [.null, .null, .null, .int (zI 0), .int (zI 0)] := ⟨RX7, TX7, tyX7, rfl, wa_X7, tyX7_ok, (AWi 114 (by decide +kernel) rfl), (AWi 115 (by decide +kernel) rfl), (AWi 57 (by decide +kernel) rfl), by decide +kernel, fun _ => rfl⟩
set_option maxRecDepth 100000 in
theorem tn_X11_36 : XN RX11 36 4 7 [.null, .null, .null, .null, .int (zI 0), .int (zI 0), .int (zI 0)] := ⟨RX4, TX4, tyX4, rfl, wa_X4, tyX4_ok, (AWi 162 (by decide +kernel) rfl), (AWi 163 (by decide +kernel) rfl), (AWi 59 (by decide +kernel) rfl), by decide +kernel, fun _ => rfl⟩
set_option maxRecDepth 100000 in
theorem tp_X11_10_11 : XP RX11 10 11 0 true (.object "ConfessBySize$Page") := ⟨RX11, TX11, 9, "ConfessBySize", tyX11, rfl, by decide, wa_X11, ((AWi 192 (by decide +kernel) rfl) : Cond.fieldLink RX11 10 "ConfessBySize" "page" "LConfessBySize$Page;" ∈ AW), by decide +kernel, tyX11_ok, nmX11, rfl, by decide +kernel⟩
set_option maxRecDepth 100000 in
theorem tp_X11_19_11 : XP RX11 19 11 1 true (.object "ConfessBySize$Roll") := ⟨RX11, TX11, 9, "ConfessBySize", tyX11, rfl, by decide, wa_X11, ((AWi 193 (by decide +kernel) rfl) : Cond.fieldLink RX11 19 "ConfessBySize" "roll" "LConfessBySize$Roll;" ∈ AW), by decide +kernel, tyX11_ok, nmX11, rfl, by decide +kernel⟩
set_option maxRecDepth 100000 in
theorem tp_X11_26_11 : XP RX11 26 11 2 true (.object "ConfessBySize$Standing") := ⟨RX11, TX11, 9, "ConfessBySize", tyX11, rfl, by decide, wa_X11, ((AWi 194 (by decide +kernel) rfl) : Cond.fieldLink RX11 26 "ConfessBySize" "now" "LConfessBySize$Standing;" ∈ AW), by decide +kernel, tyX11_ok, nmX11, rfl, by decide +kernel⟩
set_option maxRecDepth 100000 in
theorem tp_X11_30_11 : XP RX11 30 11 3 true (.object "ConfessBySize$Standing") := ⟨RX11, TX11, 9, "ConfessBySize", tyX11, rfl, by decide, wa_X11, ((AWi 195 (by decide +kernel) rfl) : Cond.fieldLink RX11 30 "ConfessBySize" "kept" "LConfessBySize$Standing;" ∈ AW), by decide +kernel, tyX11_ok, nmX11, rfl, by decide +kernel⟩
set_option maxRecDepth 100000 in
theorem tp_X11_33_11 : XP RX11 33 11 4 true (.object "ConfessBySize$Standing") := ⟨RX11, TX11, 9, "ConfessBySize", tyX11, rfl, by decide, wa_X11, ((AWi 196 (by decide +kernel) rfl) : Cond.fieldLink RX11 33 "ConfessBySize" "wouldBe" "LConfessBySize$Standing;" ∈ AW), by decide +kernel, tyX11_ok, nmX11, rfl, by decide +kernel⟩
set_option maxRecDepth 100000 in
theorem tp_X11_39_11 : XP RX11 39 11 5 true (.object "ConfessBySize$Matching") := ⟨RX11, TX11, 9, "ConfessBySize", tyX11, rfl, by decide, wa_X11, ((AWi 197 (by decide +kernel) rfl) : Cond.fieldLink RX11 39 "ConfessBySize" "matching" "LConfessBySize$Matching;" ∈ AW), by decide +kernel, tyX11_ok, nmX11, rfl, by decide +kernel⟩
set_option maxRecDepth 100000 in
theorem tp_X11_72_11 : XP RX11 72 11 6 false .boolean := ⟨RX11, TX11, 9, "ConfessBySize", tyX11, rfl, by decide, wa_X11, ((AWi 198 (by decide +kernel) rfl) : Cond.fieldLink RX11 72 "ConfessBySize" "isKept" "Z" ∈ AW), by decide +kernel, tyX11_ok, nmX11, rfl, by decide +kernel⟩
set_option maxRecDepth 100000 in
theorem tp_X11_76_11 : XP RX11 76 11 7 false .int := ⟨RX11, TX11, 9, "ConfessBySize", tyX11, rfl, by decide, wa_X11, ((AWi 199 (by decide +kernel) rfl) : Cond.fieldLink RX11 76 "ConfessBySize" "stationsRead" "I" ∈ AW), by decide +kernel, tyX11_ok, nmX11, rfl, by decide +kernel⟩
set_option maxRecDepth 100000 in
theorem tp_X11_152_7 : XP RX11 152 7 4 false .int := ⟨RX7, TX7, 5, "ConfessBySize$Standing", tyX7, rfl, by decide, wa_X7, ((AWi 150 (by decide +kernel) rfl) : Cond.fieldLink RX11 152 "ConfessBySize$Standing" "timesConfessed" "I" ∈ AW), by decide +kernel, tyX7_ok, nmX7, rfl, by decide +kernel⟩
set_option maxRecDepth 100000 in
theorem tp_X11_162_7 : XP RX11 162 7 3 false .int := ⟨RX7, TX7, 5, "ConfessBySize$Standing", tyX7, rfl, by decide, wa_X7, ((AWi 148 (by decide +kernel) rfl) : Cond.fieldLink RX11 162 "ConfessBySize$Standing" "stitchesMade" "I" ∈ AW), by decide +kernel, tyX7_ok, nmX7, rfl, by decide +kernel⟩
set_option maxRecDepth 100000 in
theorem tp_X11_177_11 : XP RX11 177 11 8 false .int := ⟨RX11, TX11, 9, "ConfessBySize", tyX11, rfl, by decide, wa_X11, ((AWi 200 (by decide +kernel) rfl) : Cond.fieldLink RX11 177 "ConfessBySize" "stitchingsDone" "I" ∈ AW), by decide +kernel, tyX11_ok, nmX11, rfl, by decide +kernel⟩
set_option maxRecDepth 100000 in
theorem tf_X12_7_12 : XF RX12 7 12 3 := ⟨RX12, TX12, 40, "ConfessBySizeModel", rfl, by decide, wa_X12, ((AWi 739 (by decide +kernel) rfl) : Cond.fieldLink RX12 7 "ConfessBySizeModel" "kindOf" "[I" ∈ AW), by decide +kernel⟩
set_option maxRecDepth 100000 in
theorem tf_X12_13_12 : XF RX12 13 12 4 := ⟨RX12, TX12, 40, "ConfessBySizeModel", rfl, by decide, wa_X12, ((AWi 740 (by decide +kernel) rfl) : Cond.fieldLink RX12 13 "ConfessBySizeModel" "sizeOf" "[I" ∈ AW), by decide +kernel⟩
set_option maxRecDepth 100000 in
theorem tf_X12_16_12 : XF RX12 16 12 5 := ⟨RX12, TX12, 40, "ConfessBySizeModel", rfl, by decide, wa_X12, ((AWi 741 (by decide +kernel) rfl) : Cond.fieldLink RX12 16 "ConfessBySizeModel" "handOf" "[I" ∈ AW), by decide +kernel⟩
set_option maxRecDepth 100000 in
theorem tf_X12_19_12 : XF RX12 19 12 6 := ⟨RX12, TX12, 40, "ConfessBySizeModel", rfl, by decide, wa_X12, ((AWi 742 (by decide +kernel) rfl) : Cond.fieldLink RX12 19 "ConfessBySizeModel" "crimeSize" "[I" ∈ AW), by decide +kernel⟩
set_option maxRecDepth 100000 in
theorem tf_X12_22_12 : XF RX12 22 12 7 := ⟨RX12, TX12, 40, "ConfessBySizeModel", rfl, by decide, wa_X12, ((AWi 743 (by decide +kernel) rfl) : Cond.fieldLink RX12 22 "ConfessBySizeModel" "crimeHand" "[I" ∈ AW), by decide +kernel⟩
set_option maxRecDepth 100000 in
theorem tf_X12_25_12 : XF RX12 25 12 8 := ⟨RX12, TX12, 40, "ConfessBySizeModel", rfl, by decide, wa_X12, ((AWi 744 (by decide +kernel) rfl) : Cond.fieldLink RX12 25 "ConfessBySizeModel" "rewardOf" "[I" ∈ AW), by decide +kernel⟩
set_option maxRecDepth 100000 in
theorem tf_X12_28_12 : XF RX12 28 12 9 := ⟨RX12, TX12, 40, "ConfessBySizeModel", rfl, by decide, wa_X12, ((AWi 745 (by decide +kernel) rfl) : Cond.fieldLink RX12 28 "ConfessBySizeModel" "hasOf" "[I" ∈ AW), by decide +kernel⟩
set_option maxRecDepth 100000 in
theorem tf_X12_31_12 : XF RX12 31 12 13 := ⟨RX12, TX12, 40, "ConfessBySizeModel", rfl, by decide, wa_X12, ((AWi 749 (by decide +kernel) rfl) : Cond.fieldLink RX12 31 "ConfessBySizeModel" "triedWho" "[I" ∈ AW), by decide +kernel⟩
set_option maxRecDepth 100000 in
theorem tf_X12_34_12 : XF RX12 34 12 14 := ⟨RX12, TX12, 40, "ConfessBySizeModel", rfl, by decide, wa_X12, ((AWi 750 (by decide +kernel) rfl) : Cond.fieldLink RX12 34 "ConfessBySizeModel" "triedSize" "[I" ∈ AW), by decide +kernel⟩
set_option maxRecDepth 100000 in
theorem tf_X12_37_12 : XF RX12 37 12 15 := ⟨RX12, TX12, 40, "ConfessBySizeModel", rfl, by decide, wa_X12, ((AWi 751 (by decide +kernel) rfl) : Cond.fieldLink RX12 37 "ConfessBySizeModel" "triedHand" "[I" ∈ AW), by decide +kernel⟩
set_option maxRecDepth 100000 in
theorem tf_X12_40_12 : XF RX12 40 12 16 := ⟨RX12, TX12, 40, "ConfessBySizeModel", rfl, by decide, wa_X12, ((AWi 752 (by decide +kernel) rfl) : Cond.fieldLink RX12 40 "ConfessBySizeModel" "triedFits" "[I" ∈ AW), by decide +kernel⟩
set_option maxRecDepth 100000 in
theorem tf_X12_43_12 : XF RX12 43 12 19 := ⟨RX12, TX12, 40, "ConfessBySizeModel", rfl, by decide, wa_X12, ((AWi 755 (by decide +kernel) rfl) : Cond.fieldLink RX12 43 "ConfessBySizeModel" "page" "[B" ∈ AW), by decide +kernel⟩
set_option maxRecDepth 100000 in
theorem tf_X12_47_12 : XF RX12 47 12 25 := ⟨RX12, TX12, 40, "ConfessBySizeModel", rfl, by decide, wa_X12, ((AWi 761 (by decide +kernel) rfl) : Cond.fieldLink RX12 47 "ConfessBySizeModel" "savedSize" "[I" ∈ AW), by decide +kernel⟩
set_option maxRecDepth 100000 in
theorem tf_X12_50_12 : XF RX12 50 12 27 := ⟨RX12, TX12, 40, "ConfessBySizeModel", rfl, by decide, wa_X12, ((AWi 763 (by decide +kernel) rfl) : Cond.fieldLink RX12 50 "ConfessBySizeModel" "savedHas" "[I" ∈ AW), by decide +kernel⟩
set_option maxRecDepth 100000 in
theorem tf_X12_53_12 : XF RX12 53 12 33 := ⟨RX12, TX12, 40, "ConfessBySizeModel", rfl, by decide, wa_X12, ((AWi 769 (by decide +kernel) rfl) : Cond.fieldLink RX12 53 "ConfessBySizeModel" "keptSize" "[I" ∈ AW), by decide +kernel⟩
set_option maxRecDepth 100000 in
theorem tf_X12_56_12 : XF RX12 56 12 34 := ⟨RX12, TX12, 40, "ConfessBySizeModel", rfl, by decide, wa_X12, ((AWi 770 (by decide +kernel) rfl) : Cond.fieldLink RX12 56 "ConfessBySizeModel" "keptHas" "[I" ∈ AW), by decide +kernel⟩
set_option maxRecDepth 100000 in
theorem tf_X12_59_12 : XF RX12 59 12 35 := ⟨RX12, TX12, 40, "ConfessBySizeModel", rfl, by decide, wa_X12, ((AWi 771 (by decide +kernel) rfl) : Cond.fieldLink RX12 59 "ConfessBySizeModel" "keptWho" "[I" ∈ AW), by decide +kernel⟩
set_option maxRecDepth 100000 in
theorem tf_X12_62_12 : XF RX12 62 12 36 := ⟨RX12, TX12, 40, "ConfessBySizeModel", rfl, by decide, wa_X12, ((AWi 772 (by decide +kernel) rfl) : Cond.fieldLink RX12 62 "ConfessBySizeModel" "keptTriedSize" "[I" ∈ AW), by decide +kernel⟩
set_option maxRecDepth 100000 in
theorem tf_X12_65_12 : XF RX12 65 12 37 := ⟨RX12, TX12, 40, "ConfessBySizeModel", rfl, by decide, wa_X12, ((AWi 773 (by decide +kernel) rfl) : Cond.fieldLink RX12 65 "ConfessBySizeModel" "keptTriedHand" "[I" ∈ AW), by decide +kernel⟩
set_option maxRecDepth 100000 in
theorem tf_X12_68_12 : XF RX12 68 12 38 := ⟨RX12, TX12, 40, "ConfessBySizeModel", rfl, by decide, wa_X12, ((AWi 774 (by decide +kernel) rfl) : Cond.fieldLink RX12 68 "ConfessBySizeModel" "keptFits" "[I" ∈ AW), by decide +kernel⟩
set_option maxRecDepth 100000 in
theorem tf_X12_75_12 : XF RX12 75 12 18 := ⟨RX12, TX12, 40, "ConfessBySizeModel", rfl, by decide, wa_X12, ((AWi 754 (by decide +kernel) rfl) : Cond.fieldLink RX12 75 "ConfessBySizeModel" "pageLength" "I" ∈ AW), by decide +kernel⟩
set_option maxRecDepth 100000 in
theorem tf_X12_86_12 : XF RX12 86 12 22 := ⟨RX12, TX12, 40, "ConfessBySizeModel", rfl, by decide, wa_X12, ((AWi 758 (by decide +kernel) rfl) : Cond.fieldLink RX12 86 "ConfessBySizeModel" "newCrimes" "I" ∈ AW), by decide +kernel⟩
set_option maxRecDepth 100000 in
theorem tf_X12_89_12 : XF RX12 89 12 20 := ⟨RX12, TX12, 40, "ConfessBySizeModel", rfl, by decide, wa_X12, ((AWi 756 (by decide +kernel) rfl) : Cond.fieldLink RX12 89 "ConfessBySizeModel" "isWhole" "Z" ∈ AW), by decide +kernel⟩
set_option maxRecDepth 100000 in
theorem tf_X12_93_12 : XF RX12 93 12 21 := ⟨RX12, TX12, 40, "ConfessBySizeModel", rfl, by decide, wa_X12, ((AWi 757 (by decide +kernel) rfl) : Cond.fieldLink RX12 93 "ConfessBySizeModel" "newMany" "I" ∈ AW), by decide +kernel⟩
set_option maxRecDepth 100000 in
theorem tf_X12_106_12 : XF RX12 106 12 1 := ⟨RX12, TX12, 40, "ConfessBySizeModel", rfl, by decide, wa_X12, ((AWi 737 (by decide +kernel) rfl) : Cond.fieldLink RX12 106 "ConfessBySizeModel" "people" "I" ∈ AW), by decide +kernel⟩
set_option maxRecDepth 100000 in
theorem tf_X12_109_12 : XF RX12 109 12 2 := ⟨RX12, TX12, 40, "ConfessBySizeModel", rfl, by decide, wa_X12, ((AWi 738 (by decide +kernel) rfl) : Cond.fieldLink RX12 109 "ConfessBySizeModel" "crimes" "I" ∈ AW), by decide +kernel⟩
set_option maxRecDepth 100000 in
theorem tf_X12_112_12 : XF RX12 112 12 0 := ⟨RX12, TX12, 40, "ConfessBySizeModel", rfl, by decide, wa_X12, ((AWi 736 (by decide +kernel) rfl) : Cond.fieldLink RX12 112 "ConfessBySizeModel" "stations" "I" ∈ AW), by decide +kernel⟩
set_option maxRecDepth 100000 in
theorem tf_X12_115_12 : XF RX12 115 12 10 := ⟨RX12, TX12, 40, "ConfessBySizeModel", rfl, by decide, wa_X12, ((AWi 746 (by decide +kernel) rfl) : Cond.fieldLink RX12 115 "ConfessBySizeModel" "stitchMany" "I" ∈ AW), by decide +kernel⟩
set_option maxRecDepth 100000 in
theorem tf_X12_118_12 : XF RX12 118 12 11 := ⟨RX12, TX12, 40, "ConfessBySizeModel", rfl, by decide, wa_X12, ((AWi 747 (by decide +kernel) rfl) : Cond.fieldLink RX12 118 "ConfessBySizeModel" "confessions" "I" ∈ AW), by decide +kernel⟩
set_option maxRecDepth 100000 in
theorem tf_X12_121_12 : XF RX12 121 12 12 := ⟨RX12, TX12, 40, "ConfessBySizeModel", rfl, by decide, wa_X12, ((AWi 748 (by decide +kernel) rfl) : Cond.fieldLink RX12 121 "ConfessBySizeModel" "triedMany" "I" ∈ AW), by decide +kernel⟩
set_option maxRecDepth 100000 in
theorem tf_X12_179_12 : XF RX12 179 12 23 := ⟨RX12, TX12, 40, "ConfessBySizeModel", rfl, by decide, wa_X12, ((AWi 759 (by decide +kernel) rfl) : Cond.fieldLink RX12 179 "ConfessBySizeModel" "matchMany" "I" ∈ AW), by decide +kernel⟩
set_option maxRecDepth 100000 in
theorem tf_X12_182_12 : XF RX12 182 12 24 := ⟨RX12, TX12, 40, "ConfessBySizeModel", rfl, by decide, wa_X12, ((AWi 760 (by decide +kernel) rfl) : Cond.fieldLink RX12 182 "ConfessBySizeModel" "matchReward" "I" ∈ AW), by decide +kernel⟩
set_option maxRecDepth 100000 in
theorem tf_X12_207_12 : XF RX12 207 12 17 := ⟨RX12, TX12, 40, "ConfessBySizeModel", rfl, by decide, wa_X12, ((AWi 753 (by decide +kernel) rfl) : Cond.fieldLink RX12 207 "ConfessBySizeModel" "asks" "I" ∈ AW), by decide +kernel⟩
set_option maxRecDepth 100000 in
theorem tf_X12_218_12 : XF RX12 218 12 26 := ⟨RX12, TX12, 40, "ConfessBySizeModel", rfl, by decide, wa_X12, ((AWi 762 (by decide +kernel) rfl) : Cond.fieldLink RX12 218 "ConfessBySizeModel" "seedNow" "J" ∈ AW), by decide +kernel⟩
set_option maxRecDepth 100000 in
theorem tf_X12_238_12 : XF RX12 238 12 28 := ⟨RX12, TX12, 40, "ConfessBySizeModel", rfl, by decide, wa_X12, ((AWi 764 (by decide +kernel) rfl) : Cond.fieldLink RX12 238 "ConfessBySizeModel" "isKept" "Z" ∈ AW), by decide +kernel⟩
set_option maxRecDepth 100000 in
theorem tf_X12_241_12 : XF RX12 241 12 29 := ⟨RX12, TX12, 40, "ConfessBySizeModel", rfl, by decide, wa_X12, ((AWi 765 (by decide +kernel) rfl) : Cond.fieldLink RX12 241 "ConfessBySizeModel" "keptStation" "I" ∈ AW), by decide +kernel⟩
set_option maxRecDepth 100000 in
theorem tf_X12_244_12 : XF RX12 244 12 30 := ⟨RX12, TX12, 40, "ConfessBySizeModel", rfl, by decide, wa_X12, ((AWi 766 (by decide +kernel) rfl) : Cond.fieldLink RX12 244 "ConfessBySizeModel" "keptStitches" "I" ∈ AW), by decide +kernel⟩
set_option maxRecDepth 100000 in
theorem tf_X12_247_12 : XF RX12 247 12 31 := ⟨RX12, TX12, 40, "ConfessBySizeModel", rfl, by decide, wa_X12, ((AWi 767 (by decide +kernel) rfl) : Cond.fieldLink RX12 247 "ConfessBySizeModel" "keptConfessions" "I" ∈ AW), by decide +kernel⟩
set_option maxRecDepth 100000 in
theorem tf_X12_250_12 : XF RX12 250 12 32 := ⟨RX12, TX12, 40, "ConfessBySizeModel", rfl, by decide, wa_X12, ((AWi 768 (by decide +kernel) rfl) : Cond.fieldLink RX12 250 "ConfessBySizeModel" "keptTried" "I" ∈ AW), by decide +kernel⟩
set_option maxRecDepth 100000 in
theorem tf_X12_258_12 : XF RX12 258 12 39 := ⟨RX12, TX12, 40, "ConfessBySizeModel", rfl, by decide, wa_X12, ((AWi 775 (by decide +kernel) rfl) : Cond.fieldLink RX12 258 "ConfessBySizeModel" "h" "J" ∈ AW), by decide +kernel⟩
set_option maxRecDepth 100000 in
theorem tq_X12_203 : Cond.constant RX12 203 (zI (268435456)) ∈ AW := (AWi 948 (by decide +kernel) rfl)
set_option maxRecDepth 100000 in
theorem tq_X12_216 : Cond.constantLong RX12 216 (1103515245) ∈ AW := (AWi 1052 (by decide +kernel) rfl)
set_option maxRecDepth 100000 in
theorem tq_X12_222 : Cond.constantLong RX12 222 (12345) ∈ AW := (AWi 1053 (by decide +kernel) rfl)
set_option maxRecDepth 100000 in
theorem tq_X12_224 : Cond.constantLong RX12 224 (2147483647) ∈ AW := (AWi 1054 (by decide +kernel) rfl)
set_option maxRecDepth 100000 in
theorem tq_X12_226 : Cond.constantLong RX12 226 (65536) ∈ AW := (AWi 1055 (by decide +kernel) rfl)
set_option maxRecDepth 100000 in
theorem tq_X12_256 : Cond.constantLong RX12 256 (31) ∈ AW := (AWi 1085 (by decide +kernel) rfl)
set_option maxRecDepth 100000 in
theorem tq_X12_261 : Cond.constantLong RX12 261 (1009) ∈ AW := (AWi 1080 (by decide +kernel) rfl)
set_option maxRecDepth 100000 in
theorem tp_X12_7_12 : XP RX12 7 12 3 true (.array .int) := ⟨RX12, TX12, 40, "ConfessBySizeModel", tyX12, rfl, by decide, wa_X12, ((AWi 739 (by decide +kernel) rfl) : Cond.fieldLink RX12 7 "ConfessBySizeModel" "kindOf" "[I" ∈ AW), by decide +kernel, tyX12_ok, nmX12, rfl, by decide +kernel⟩
set_option maxRecDepth 100000 in
theorem tp_X12_13_12 : XP RX12 13 12 4 true (.array .int) := ⟨RX12, TX12, 40, "ConfessBySizeModel", tyX12, rfl, by decide, wa_X12, ((AWi 740 (by decide +kernel) rfl) : Cond.fieldLink RX12 13 "ConfessBySizeModel" "sizeOf" "[I" ∈ AW), by decide +kernel, tyX12_ok, nmX12, rfl, by decide +kernel⟩
set_option maxRecDepth 100000 in
theorem tp_X12_16_12 : XP RX12 16 12 5 true (.array .int) := ⟨RX12, TX12, 40, "ConfessBySizeModel", tyX12, rfl, by decide, wa_X12, ((AWi 741 (by decide +kernel) rfl) : Cond.fieldLink RX12 16 "ConfessBySizeModel" "handOf" "[I" ∈ AW), by decide +kernel, tyX12_ok, nmX12, rfl, by decide +kernel⟩
set_option maxRecDepth 100000 in
theorem tp_X12_19_12 : XP RX12 19 12 6 true (.array .int) := ⟨RX12, TX12, 40, "ConfessBySizeModel", tyX12, rfl, by decide, wa_X12, ((AWi 742 (by decide +kernel) rfl) : Cond.fieldLink RX12 19 "ConfessBySizeModel" "crimeSize" "[I" ∈ AW), by decide +kernel, tyX12_ok, nmX12, rfl, by decide +kernel⟩
set_option maxRecDepth 100000 in
theorem tp_X12_22_12 : XP RX12 22 12 7 true (.array .int) := ⟨RX12, TX12, 40, "ConfessBySizeModel", tyX12, rfl, by decide, wa_X12, ((AWi 743 (by decide +kernel) rfl) : Cond.fieldLink RX12 22 "ConfessBySizeModel" "crimeHand" "[I" ∈ AW), by decide +kernel, tyX12_ok, nmX12, rfl, by decide +kernel⟩
set_option maxRecDepth 100000 in
theorem tp_X12_25_12 : XP RX12 25 12 8 true (.array .int) := ⟨RX12, TX12, 40, "ConfessBySizeModel", tyX12, rfl, by decide, wa_X12, ((AWi 744 (by decide +kernel) rfl) : Cond.fieldLink RX12 25 "ConfessBySizeModel" "rewardOf" "[I" ∈ AW), by decide +kernel, tyX12_ok, nmX12, rfl, by decide +kernel⟩
set_option maxRecDepth 100000 in
theorem tp_X12_28_12 : XP RX12 28 12 9 true (.array .int) := ⟨RX12, TX12, 40, "ConfessBySizeModel", tyX12, rfl, by decide, wa_X12, ((AWi 745 (by decide +kernel) rfl) : Cond.fieldLink RX12 28 "ConfessBySizeModel" "hasOf" "[I" ∈ AW), by decide +kernel, tyX12_ok, nmX12, rfl, by decide +kernel⟩
set_option maxRecDepth 100000 in
theorem tp_X12_31_12 : XP RX12 31 12 13 true (.array .int) := ⟨RX12, TX12, 40, "ConfessBySizeModel", tyX12, rfl, by decide, wa_X12, ((AWi 749 (by decide +kernel) rfl) : Cond.fieldLink RX12 31 "ConfessBySizeModel" "triedWho" "[I" ∈ AW), by decide +kernel, tyX12_ok, nmX12, rfl, by decide +kernel⟩
set_option maxRecDepth 100000 in
theorem tp_X12_34_12 : XP RX12 34 12 14 true (.array .int) := ⟨RX12, TX12, 40, "ConfessBySizeModel", tyX12, rfl, by decide, wa_X12, ((AWi 750 (by decide +kernel) rfl) : Cond.fieldLink RX12 34 "ConfessBySizeModel" "triedSize" "[I" ∈ AW), by decide +kernel, tyX12_ok, nmX12, rfl, by decide +kernel⟩
set_option maxRecDepth 100000 in
theorem tp_X12_37_12 : XP RX12 37 12 15 true (.array .int) := ⟨RX12, TX12, 40, "ConfessBySizeModel", tyX12, rfl, by decide, wa_X12, ((AWi 751 (by decide +kernel) rfl) : Cond.fieldLink RX12 37 "ConfessBySizeModel" "triedHand" "[I" ∈ AW), by decide +kernel, tyX12_ok, nmX12, rfl, by decide +kernel⟩
set_option maxRecDepth 100000 in
theorem tp_X12_40_12 : XP RX12 40 12 16 true (.array .int) := ⟨RX12, TX12, 40, "ConfessBySizeModel", tyX12, rfl, by decide, wa_X12, ((AWi 752 (by decide +kernel) rfl) : Cond.fieldLink RX12 40 "ConfessBySizeModel" "triedFits" "[I" ∈ AW), by decide +kernel, tyX12_ok, nmX12, rfl, by decide +kernel⟩
set_option maxRecDepth 100000 in
theorem tp_X12_43_12 : XP RX12 43 12 19 true (.array .byte) := ⟨RX12, TX12, 40, "ConfessBySizeModel", tyX12, rfl, by decide, wa_X12, ((AWi 755 (by decide +kernel) rfl) : Cond.fieldLink RX12 43 "ConfessBySizeModel" "page" "[B" ∈ AW), by decide +kernel, tyX12_ok, nmX12, rfl, by decide +kernel⟩
set_option maxRecDepth 100000 in
theorem tp_X12_47_12 : XP RX12 47 12 25 true (.array .int) := ⟨RX12, TX12, 40, "ConfessBySizeModel", tyX12, rfl, by decide, wa_X12, ((AWi 761 (by decide +kernel) rfl) : Cond.fieldLink RX12 47 "ConfessBySizeModel" "savedSize" "[I" ∈ AW), by decide +kernel, tyX12_ok, nmX12, rfl, by decide +kernel⟩
set_option maxRecDepth 100000 in
theorem tp_X12_50_12 : XP RX12 50 12 27 true (.array .int) := ⟨RX12, TX12, 40, "ConfessBySizeModel", tyX12, rfl, by decide, wa_X12, ((AWi 763 (by decide +kernel) rfl) : Cond.fieldLink RX12 50 "ConfessBySizeModel" "savedHas" "[I" ∈ AW), by decide +kernel, tyX12_ok, nmX12, rfl, by decide +kernel⟩
set_option maxRecDepth 100000 in
theorem tp_X12_53_12 : XP RX12 53 12 33 true (.array .int) := ⟨RX12, TX12, 40, "ConfessBySizeModel", tyX12, rfl, by decide, wa_X12, ((AWi 769 (by decide +kernel) rfl) : Cond.fieldLink RX12 53 "ConfessBySizeModel" "keptSize" "[I" ∈ AW), by decide +kernel, tyX12_ok, nmX12, rfl, by decide +kernel⟩
set_option maxRecDepth 100000 in
theorem tp_X12_56_12 : XP RX12 56 12 34 true (.array .int) := ⟨RX12, TX12, 40, "ConfessBySizeModel", tyX12, rfl, by decide, wa_X12, ((AWi 770 (by decide +kernel) rfl) : Cond.fieldLink RX12 56 "ConfessBySizeModel" "keptHas" "[I" ∈ AW), by decide +kernel, tyX12_ok, nmX12, rfl, by decide +kernel⟩
set_option maxRecDepth 100000 in
theorem tp_X12_59_12 : XP RX12 59 12 35 true (.array .int) := ⟨RX12, TX12, 40, "ConfessBySizeModel", tyX12, rfl, by decide, wa_X12, ((AWi 771 (by decide +kernel) rfl) : Cond.fieldLink RX12 59 "ConfessBySizeModel" "keptWho" "[I" ∈ AW), by decide +kernel, tyX12_ok, nmX12, rfl, by decide +kernel⟩
set_option maxRecDepth 100000 in
theorem tp_X12_62_12 : XP RX12 62 12 36 true (.array .int) := ⟨RX12, TX12, 40, "ConfessBySizeModel", tyX12, rfl, by decide, wa_X12, ((AWi 772 (by decide +kernel) rfl) : Cond.fieldLink RX12 62 "ConfessBySizeModel" "keptTriedSize" "[I" ∈ AW), by decide +kernel, tyX12_ok, nmX12, rfl, by decide +kernel⟩
set_option maxRecDepth 100000 in
theorem tp_X12_65_12 : XP RX12 65 12 37 true (.array .int) := ⟨RX12, TX12, 40, "ConfessBySizeModel", tyX12, rfl, by decide, wa_X12, ((AWi 773 (by decide +kernel) rfl) : Cond.fieldLink RX12 65 "ConfessBySizeModel" "keptTriedHand" "[I" ∈ AW), by decide +kernel, tyX12_ok, nmX12, rfl, by decide +kernel⟩
set_option maxRecDepth 100000 in
theorem tp_X12_68_12 : XP RX12 68 12 38 true (.array .int) := ⟨RX12, TX12, 40, "ConfessBySizeModel", tyX12, rfl, by decide, wa_X12, ((AWi 774 (by decide +kernel) rfl) : Cond.fieldLink RX12 68 "ConfessBySizeModel" "keptFits" "[I" ∈ AW), by decide +kernel, tyX12_ok, nmX12, rfl, by decide +kernel⟩
set_option maxRecDepth 100000 in
theorem tp_X12_75_12 : XP RX12 75 12 18 false .int := ⟨RX12, TX12, 40, "ConfessBySizeModel", tyX12, rfl, by decide, wa_X12, ((AWi 754 (by decide +kernel) rfl) : Cond.fieldLink RX12 75 "ConfessBySizeModel" "pageLength" "I" ∈ AW), by decide +kernel, tyX12_ok, nmX12, rfl, by decide +kernel⟩
set_option maxRecDepth 100000 in
theorem tp_X12_86_12 : XP RX12 86 12 22 false .int := ⟨RX12, TX12, 40, "ConfessBySizeModel", tyX12, rfl, by decide, wa_X12, ((AWi 758 (by decide +kernel) rfl) : Cond.fieldLink RX12 86 "ConfessBySizeModel" "newCrimes" "I" ∈ AW), by decide +kernel, tyX12_ok, nmX12, rfl, by decide +kernel⟩
set_option maxRecDepth 100000 in
theorem tp_X12_89_12 : XP RX12 89 12 20 false .boolean := ⟨RX12, TX12, 40, "ConfessBySizeModel", tyX12, rfl, by decide, wa_X12, ((AWi 756 (by decide +kernel) rfl) : Cond.fieldLink RX12 89 "ConfessBySizeModel" "isWhole" "Z" ∈ AW), by decide +kernel, tyX12_ok, nmX12, rfl, by decide +kernel⟩
set_option maxRecDepth 100000 in
theorem tp_X12_93_12 : XP RX12 93 12 21 false .int := ⟨RX12, TX12, 40, "ConfessBySizeModel", tyX12, rfl, by decide, wa_X12, ((AWi 757 (by decide +kernel) rfl) : Cond.fieldLink RX12 93 "ConfessBySizeModel" "newMany" "I" ∈ AW), by decide +kernel, tyX12_ok, nmX12, rfl, by decide +kernel⟩
set_option maxRecDepth 100000 in
theorem tp_X12_106_12 : XP RX12 106 12 1 false .int := ⟨RX12, TX12, 40, "ConfessBySizeModel", tyX12, rfl, by decide, wa_X12, ((AWi 737 (by decide +kernel) rfl) : Cond.fieldLink RX12 106 "ConfessBySizeModel" "people" "I" ∈ AW), by decide +kernel, tyX12_ok, nmX12, rfl, by decide +kernel⟩
set_option maxRecDepth 100000 in
theorem tp_X12_109_12 : XP RX12 109 12 2 false .int := ⟨RX12, TX12, 40, "ConfessBySizeModel", tyX12, rfl, by decide, wa_X12, ((AWi 738 (by decide +kernel) rfl) : Cond.fieldLink RX12 109 "ConfessBySizeModel" "crimes" "I" ∈ AW), by decide +kernel, tyX12_ok, nmX12, rfl, by decide +kernel⟩
set_option maxRecDepth 100000 in
theorem tp_X12_112_12 : XP RX12 112 12 0 false .int := ⟨RX12, TX12, 40, "ConfessBySizeModel", tyX12, rfl, by decide, wa_X12, ((AWi 736 (by decide +kernel) rfl) : Cond.fieldLink RX12 112 "ConfessBySizeModel" "stations" "I" ∈ AW), by decide +kernel, tyX12_ok, nmX12, rfl, by decide +kernel⟩
set_option maxRecDepth 100000 in
theorem tp_X12_115_12 : XP RX12 115 12 10 false .int := ⟨RX12, TX12, 40, "ConfessBySizeModel", tyX12, rfl, by decide, wa_X12, ((AWi 746 (by decide +kernel) rfl) : Cond.fieldLink RX12 115 "ConfessBySizeModel" "stitchMany" "I" ∈ AW), by decide +kernel, tyX12_ok, nmX12, rfl, by decide +kernel⟩
set_option maxRecDepth 100000 in
theorem tp_X12_118_12 : XP RX12 118 12 11 false .int := ⟨RX12, TX12, 40, "ConfessBySizeModel", tyX12, rfl, by decide, wa_X12, ((AWi 747 (by decide +kernel) rfl) : Cond.fieldLink RX12 118 "ConfessBySizeModel" "confessions" "I" ∈ AW), by decide +kernel, tyX12_ok, nmX12, rfl, by decide +kernel⟩
set_option maxRecDepth 100000 in
theorem tp_X12_121_12 : XP RX12 121 12 12 false .int := ⟨RX12, TX12, 40, "ConfessBySizeModel", tyX12, rfl, by decide, wa_X12, ((AWi 748 (by decide +kernel) rfl) : Cond.fieldLink RX12 121 "ConfessBySizeModel" "triedMany" "I" ∈ AW), by decide +kernel, tyX12_ok, nmX12, rfl, by decide +kernel⟩
set_option maxRecDepth 100000 in
theorem tp_X12_179_12 : XP RX12 179 12 23 false .int := ⟨RX12, TX12, 40, "ConfessBySizeModel", tyX12, rfl, by decide, wa_X12, ((AWi 759 (by decide +kernel) rfl) : Cond.fieldLink RX12 179 "ConfessBySizeModel" "matchMany" "I" ∈ AW), by decide +kernel, tyX12_ok, nmX12, rfl, by decide +kernel⟩
set_option maxRecDepth 100000 in
theorem tp_X12_182_12 : XP RX12 182 12 24 false .int := ⟨RX12, TX12, 40, "ConfessBySizeModel", tyX12, rfl, by decide, wa_X12, ((AWi 760 (by decide +kernel) rfl) : Cond.fieldLink RX12 182 "ConfessBySizeModel" "matchReward" "I" ∈ AW), by decide +kernel, tyX12_ok, nmX12, rfl, by decide +kernel⟩
set_option maxRecDepth 100000 in
theorem tp_X12_207_12 : XP RX12 207 12 17 false .int := ⟨RX12, TX12, 40, "ConfessBySizeModel", tyX12, rfl, by decide, wa_X12, ((AWi 753 (by decide +kernel) rfl) : Cond.fieldLink RX12 207 "ConfessBySizeModel" "asks" "I" ∈ AW), by decide +kernel, tyX12_ok, nmX12, rfl, by decide +kernel⟩
set_option maxRecDepth 100000 in
theorem tp_X12_218_12 : XP RX12 218 12 26 false .long := ⟨RX12, TX12, 40, "ConfessBySizeModel", tyX12, rfl, by decide, wa_X12, ((AWi 762 (by decide +kernel) rfl) : Cond.fieldLink RX12 218 "ConfessBySizeModel" "seedNow" "J" ∈ AW), by decide +kernel, tyX12_ok, nmX12, rfl, by decide +kernel⟩
set_option maxRecDepth 100000 in
theorem tp_X12_238_12 : XP RX12 238 12 28 false .boolean := ⟨RX12, TX12, 40, "ConfessBySizeModel", tyX12, rfl, by decide, wa_X12, ((AWi 764 (by decide +kernel) rfl) : Cond.fieldLink RX12 238 "ConfessBySizeModel" "isKept" "Z" ∈ AW), by decide +kernel, tyX12_ok, nmX12, rfl, by decide +kernel⟩
set_option maxRecDepth 100000 in
theorem tp_X12_241_12 : XP RX12 241 12 29 false .int := ⟨RX12, TX12, 40, "ConfessBySizeModel", tyX12, rfl, by decide, wa_X12, ((AWi 765 (by decide +kernel) rfl) : Cond.fieldLink RX12 241 "ConfessBySizeModel" "keptStation" "I" ∈ AW), by decide +kernel, tyX12_ok, nmX12, rfl, by decide +kernel⟩
set_option maxRecDepth 100000 in
theorem tp_X12_244_12 : XP RX12 244 12 30 false .int := ⟨RX12, TX12, 40, "ConfessBySizeModel", tyX12, rfl, by decide, wa_X12, ((AWi 766 (by decide +kernel) rfl) : Cond.fieldLink RX12 244 "ConfessBySizeModel" "keptStitches" "I" ∈ AW), by decide +kernel, tyX12_ok, nmX12, rfl, by decide +kernel⟩
set_option maxRecDepth 100000 in
theorem tp_X12_247_12 : XP RX12 247 12 31 false .int := ⟨RX12, TX12, 40, "ConfessBySizeModel", tyX12, rfl, by decide, wa_X12, ((AWi 767 (by decide +kernel) rfl) : Cond.fieldLink RX12 247 "ConfessBySizeModel" "keptConfessions" "I" ∈ AW), by decide +kernel, tyX12_ok, nmX12, rfl, by decide +kernel⟩
set_option maxRecDepth 100000 in
theorem tp_X12_250_12 : XP RX12 250 12 32 false .int := ⟨RX12, TX12, 40, "ConfessBySizeModel", tyX12, rfl, by decide, wa_X12, ((AWi 768 (by decide +kernel) rfl) : Cond.fieldLink RX12 250 "ConfessBySizeModel" "keptTried" "I" ∈ AW), by decide +kernel, tyX12_ok, nmX12, rfl, by decide +kernel⟩
set_option maxRecDepth 100000 in
theorem tp_X12_258_12 : XP RX12 258 12 39 false .long := ⟨RX12, TX12, 40, "ConfessBySizeModel", tyX12, rfl, by decide, wa_X12, ((AWi 775 (by decide +kernel) rfl) : Cond.fieldLink RX12 258 "ConfessBySizeModel" "h" "J" ∈ AW), by decide +kernel, tyX12_ok, nmX12, rfl, by decide +kernel⟩
set_option maxRecDepth 100000 in
theorem tf_X3_15_0 : XF RX3 15 0 1 := ⟨RX0, TX0, 2, "ConfessBySize$Man", rfl, by decide, wa_X0, ((AWi 308 (by decide +kernel) rfl) : Cond.fieldLink RX3 15 "ConfessBySize$Man" "hand" "I" ∈ AW), by decide +kernel⟩
set_option maxRecDepth 100000 in
theorem tf_X3_15_2 : XF RX3 15 2 1 := ⟨RX2, TX2, 2, "ConfessBySize$Man", rfl, by decide, wa_X2, ((AWi 308 (by decide +kernel) rfl) : Cond.fieldLink RX3 15 "ConfessBySize$Man" "hand" "I" ∈ AW), by decide +kernel⟩
set_option maxRecDepth 100000 in
theorem tf_X3_15_3 : XF RX3 15 3 1 := ⟨RX3, TX3, 2, "ConfessBySize$Man", rfl, by decide, wa_X3, ((AWi 308 (by decide +kernel) rfl) : Cond.fieldLink RX3 15 "ConfessBySize$Man" "hand" "I" ∈ AW), by decide +kernel⟩
set_option maxRecDepth 100000 in
theorem tf_X3_15_8 : XF RX3 15 8 1 := ⟨RX8, TX8, 2, "ConfessBySize$Man", rfl, by decide, wa_X8, ((AWi 308 (by decide +kernel) rfl) : Cond.fieldLink RX3 15 "ConfessBySize$Man" "hand" "I" ∈ AW), by decide +kernel⟩
set_option maxRecDepth 100000 in
theorem tf_X3_15_9 : XF RX3 15 9 1 := ⟨RX9, TX9, 2, "ConfessBySize$Man", rfl, by decide, wa_X9, ((AWi 308 (by decide +kernel) rfl) : Cond.fieldLink RX3 15 "ConfessBySize$Man" "hand" "I" ∈ AW), by decide +kernel⟩
set_option maxRecDepth 100000 in
theorem tp_X3_9_0 : XP RX3 9 0 0 true .int := ⟨RX0, TX0, 2, "ConfessBySize$Man", tyX0, rfl, by decide, wa_X0, ((AWi 306 (by decide +kernel) rfl) : Cond.fieldLink RX3 9 "ConfessBySize$Man" "size" "I" ∈ AW), by decide +kernel, tyX0_ok, nmX0, rfl, by decide +kernel⟩
set_option maxRecDepth 100000 in
theorem tp_X3_9_2 : XP RX3 9 2 0 true .int := ⟨RX2, TX2, 2, "ConfessBySize$Man", tyX2, rfl, by decide, wa_X2, ((AWi 306 (by decide +kernel) rfl) : Cond.fieldLink RX3 9 "ConfessBySize$Man" "size" "I" ∈ AW), by decide +kernel, tyX2_ok, nmX2, rfl, by decide +kernel⟩
set_option maxRecDepth 100000 in
theorem tp_X3_9_3 : XP RX3 9 3 0 true .int := ⟨RX3, TX3, 2, "ConfessBySize$Man", tyX3, rfl, by decide, wa_X3, ((AWi 306 (by decide +kernel) rfl) : Cond.fieldLink RX3 9 "ConfessBySize$Man" "size" "I" ∈ AW), by decide +kernel, tyX3_ok, nmX3, rfl, by decide +kernel⟩
set_option maxRecDepth 100000 in
theorem tp_X3_9_8 : XP RX3 9 8 0 true .int := ⟨RX8, TX8, 2, "ConfessBySize$Man", tyX8, rfl, by decide, wa_X8, ((AWi 306 (by decide +kernel) rfl) : Cond.fieldLink RX3 9 "ConfessBySize$Man" "size" "I" ∈ AW), by decide +kernel, tyX8_ok, nmX8, rfl, by decide +kernel⟩
set_option maxRecDepth 100000 in
theorem tp_X3_9_9 : XP RX3 9 9 0 true .int := ⟨RX9, TX9, 2, "ConfessBySize$Man", tyX9, rfl, by decide, wa_X9, ((AWi 306 (by decide +kernel) rfl) : Cond.fieldLink RX3 9 "ConfessBySize$Man" "size" "I" ∈ AW), by decide +kernel, tyX9_ok, nmX9, rfl, by decide +kernel⟩
set_option maxRecDepth 100000 in
theorem tp_X3_15_0 : XP RX3 15 0 1 true .int := ⟨RX0, TX0, 2, "ConfessBySize$Man", tyX0, rfl, by decide, wa_X0, ((AWi 308 (by decide +kernel) rfl) : Cond.fieldLink RX3 15 "ConfessBySize$Man" "hand" "I" ∈ AW), by decide +kernel, tyX0_ok, nmX0, rfl, by decide +kernel⟩
set_option maxRecDepth 100000 in
theorem tp_X3_15_2 : XP RX3 15 2 1 true .int := ⟨RX2, TX2, 2, "ConfessBySize$Man", tyX2, rfl, by decide, wa_X2, ((AWi 308 (by decide +kernel) rfl) : Cond.fieldLink RX3 15 "ConfessBySize$Man" "hand" "I" ∈ AW), by decide +kernel, tyX2_ok, nmX2, rfl, by decide +kernel⟩
set_option maxRecDepth 100000 in
theorem tp_X3_15_3 : XP RX3 15 3 1 true .int := ⟨RX3, TX3, 2, "ConfessBySize$Man", tyX3, rfl, by decide, wa_X3, ((AWi 308 (by decide +kernel) rfl) : Cond.fieldLink RX3 15 "ConfessBySize$Man" "hand" "I" ∈ AW), by decide +kernel, tyX3_ok, nmX3, rfl, by decide +kernel⟩
set_option maxRecDepth 100000 in
theorem tp_X3_15_8 : XP RX3 15 8 1 true .int := ⟨RX8, TX8, 2, "ConfessBySize$Man", tyX8, rfl, by decide, wa_X8, ((AWi 308 (by decide +kernel) rfl) : Cond.fieldLink RX3 15 "ConfessBySize$Man" "hand" "I" ∈ AW), by decide +kernel, tyX8_ok, nmX8, rfl, by decide +kernel⟩
set_option maxRecDepth 100000 in
theorem tp_X3_15_9 : XP RX3 15 9 1 true .int := ⟨RX9, TX9, 2, "ConfessBySize$Man", tyX9, rfl, by decide, wa_X9, ((AWi 308 (by decide +kernel) rfl) : Cond.fieldLink RX3 15 "ConfessBySize$Man" "hand" "I" ∈ AW), by decide +kernel, tyX9_ok, nmX9, rfl, by decide +kernel⟩
set_option maxRecDepth 100000 in
theorem tf_X4_9_4 : XF RX4 9 4 0 := ⟨RX4, TX4, 7, "ConfessBySize$Matching", rfl, by decide, wa_X4, ((AWi 168 (by decide +kernel) rfl) : Cond.fieldLink RX4 9 "ConfessBySize$Matching" "allowed" "[I" ∈ AW), by decide +kernel⟩
set_option maxRecDepth 100000 in
theorem tf_X4_15_4 : XF RX4 15 4 1 := ⟨RX4, TX4, 7, "ConfessBySize$Matching", rfl, by decide, wa_X4, ((AWi 169 (by decide +kernel) rfl) : Cond.fieldLink RX4 15 "ConfessBySize$Matching" "rewards" "[I" ∈ AW), by decide +kernel⟩
set_option maxRecDepth 100000 in
theorem tf_X4_18_4 : XF RX4 18 4 2 := ⟨RX4, TX4, 7, "ConfessBySize$Matching", rfl, by decide, wa_X4, ((AWi 170 (by decide +kernel) rfl) : Cond.fieldLink RX4 18 "ConfessBySize$Matching" "choice" "[I" ∈ AW), by decide +kernel⟩
set_option maxRecDepth 100000 in
theorem tf_X4_21_4 : XF RX4 21 4 3 := ⟨RX4, TX4, 7, "ConfessBySize$Matching", rfl, by decide, wa_X4, ((AWi 171 (by decide +kernel) rfl) : Cond.fieldLink RX4 21 "ConfessBySize$Matching" "best" "[I" ∈ AW), by decide +kernel⟩
set_option maxRecDepth 100000 in
theorem tf_X4_30_4 : XF RX4 30 4 4 := ⟨RX4, TX4, 7, "ConfessBySize$Matching", rfl, by decide, wa_X4, ((AWi 172 (by decide +kernel) rfl) : Cond.fieldLink RX4 30 "ConfessBySize$Matching" "peopleMany" "I" ∈ AW), by decide +kernel⟩
set_option maxRecDepth 100000 in
theorem tf_X4_34_4 : XF RX4 34 4 5 := ⟨RX4, TX4, 7, "ConfessBySize$Matching", rfl, by decide, wa_X4, ((AWi 173 (by decide +kernel) rfl) : Cond.fieldLink RX4 34 "ConfessBySize$Matching" "bestMany" "I" ∈ AW), by decide +kernel⟩
set_option maxRecDepth 100000 in
theorem tf_X4_37_4 : XF RX4 37 4 6 := ⟨RX4, TX4, 7, "ConfessBySize$Matching", rfl, by decide, wa_X4, ((AWi 175 (by decide +kernel) rfl) : Cond.fieldLink RX4 37 "ConfessBySize$Matching" "bestReward" "I" ∈ AW), by decide +kernel⟩
set_option maxRecDepth 100000 in
theorem tp_X4_9_4 : XP RX4 9 4 0 true (.array .int) := ⟨RX4, TX4, 7, "ConfessBySize$Matching", tyX4, rfl, by decide, wa_X4, ((AWi 168 (by decide +kernel) rfl) : Cond.fieldLink RX4 9 "ConfessBySize$Matching" "allowed" "[I" ∈ AW), by decide +kernel, tyX4_ok, nmX4, rfl, by decide +kernel⟩
set_option maxRecDepth 100000 in
theorem tp_X4_15_4 : XP RX4 15 4 1 true (.array .int) := ⟨RX4, TX4, 7, "ConfessBySize$Matching", tyX4, rfl, by decide, wa_X4, ((AWi 169 (by decide +kernel) rfl) : Cond.fieldLink RX4 15 "ConfessBySize$Matching" "rewards" "[I" ∈ AW), by decide +kernel, tyX4_ok, nmX4, rfl, by decide +kernel⟩
set_option maxRecDepth 100000 in
theorem tp_X4_18_4 : XP RX4 18 4 2 true (.array .int) := ⟨RX4, TX4, 7, "ConfessBySize$Matching", tyX4, rfl, by decide, wa_X4, ((AWi 170 (by decide +kernel) rfl) : Cond.fieldLink RX4 18 "ConfessBySize$Matching" "choice" "[I" ∈ AW), by decide +kernel, tyX4_ok, nmX4, rfl, by decide +kernel⟩
set_option maxRecDepth 100000 in
theorem tp_X4_21_4 : XP RX4 21 4 3 true (.array .int) := ⟨RX4, TX4, 7, "ConfessBySize$Matching", tyX4, rfl, by decide, wa_X4, ((AWi 171 (by decide +kernel) rfl) : Cond.fieldLink RX4 21 "ConfessBySize$Matching" "best" "[I" ∈ AW), by decide +kernel, tyX4_ok, nmX4, rfl, by decide +kernel⟩
set_option maxRecDepth 100000 in
theorem tp_X4_30_4 : XP RX4 30 4 4 false .int := ⟨RX4, TX4, 7, "ConfessBySize$Matching", tyX4, rfl, by decide, wa_X4, ((AWi 172 (by decide +kernel) rfl) : Cond.fieldLink RX4 30 "ConfessBySize$Matching" "peopleMany" "I" ∈ AW), by decide +kernel, tyX4_ok, nmX4, rfl, by decide +kernel⟩
set_option maxRecDepth 100000 in
theorem tp_X4_34_4 : XP RX4 34 4 5 false .int := ⟨RX4, TX4, 7, "ConfessBySize$Matching", tyX4, rfl, by decide, wa_X4, ((AWi 173 (by decide +kernel) rfl) : Cond.fieldLink RX4 34 "ConfessBySize$Matching" "bestMany" "I" ∈ AW), by decide +kernel, tyX4_ok, nmX4, rfl, by decide +kernel⟩
set_option maxRecDepth 100000 in
theorem tp_X4_37_4 : XP RX4 37 4 6 false .int := ⟨RX4, TX4, 7, "ConfessBySize$Matching", tyX4, rfl, by decide, wa_X4, ((AWi 175 (by decide +kernel) rfl) : Cond.fieldLink RX4 37 "ConfessBySize$Matching" "bestReward" "I" ∈ AW), by decide +kernel, tyX4_ok, nmX4, rfl, by decide +kernel⟩
set_option maxRecDepth 100000 in
theorem tf_X5_9_5 : XF RX5 9 5 0 := ⟨RX5, TX5, 2, "ConfessBySize$Page", rfl, by decide, wa_X5, ((AWi 83 (by decide +kernel) rfl) : Cond.fieldLink RX5 9 "ConfessBySize$Page" "codes" "[I" ∈ AW), by decide +kernel⟩
set_option maxRecDepth 100000 in
theorem tf_X5_15_5 : XF RX5 15 5 1 := ⟨RX5, TX5, 2, "ConfessBySize$Page", rfl, by decide, wa_X5, ((AWi 84 (by decide +kernel) rfl) : Cond.fieldLink RX5 15 "ConfessBySize$Page" "length" "I" ∈ AW), by decide +kernel⟩
set_option maxRecDepth 100000 in
theorem tp_X5_9_5 : XP RX5 9 5 0 true (.array .int) := ⟨RX5, TX5, 2, "ConfessBySize$Page", tyX5, rfl, by decide, wa_X5, ((AWi 83 (by decide +kernel) rfl) : Cond.fieldLink RX5 9 "ConfessBySize$Page" "codes" "[I" ∈ AW), by decide +kernel, tyX5_ok, nmX5, rfl, by decide +kernel⟩
set_option maxRecDepth 100000 in
theorem tp_X5_15_5 : XP RX5 15 5 1 false .int := ⟨RX5, TX5, 2, "ConfessBySize$Page", tyX5, rfl, by decide, wa_X5, ((AWi 84 (by decide +kernel) rfl) : Cond.fieldLink RX5 15 "ConfessBySize$Page" "length" "I" ∈ AW), by decide +kernel, tyX5_ok, nmX5, rfl, by decide +kernel⟩
set_option maxRecDepth 100000 in
theorem tk_X6_9 : Cond.classLink RX6 9 RX3 ∈ AW := (AWi 97 (by decide +kernel) rfl)
set_option maxRecDepth 100000 in
theorem tk_X6_17 : Cond.classLink RX6 17 RX1 ∈ AW := (AWi 99 (by decide +kernel) rfl)
set_option maxRecDepth 100000 in
theorem tf_X6_11_6 : XF RX6 11 6 0 := ⟨RX6, TX6, 4, "ConfessBySize$Roll", rfl, by decide, wa_X6, ((AWi 101 (by decide +kernel) rfl) : Cond.fieldLink RX6 11 "ConfessBySize$Roll" "people" "[LConfessBySize$Man;" ∈ AW), by decide +kernel⟩
set_option maxRecDepth 100000 in
theorem tf_X6_19_6 : XF RX6 19 6 1 := ⟨RX6, TX6, 4, "ConfessBySize$Roll", rfl, by decide, wa_X6, ((AWi 102 (by decide +kernel) rfl) : Cond.fieldLink RX6 19 "ConfessBySize$Roll" "crimes" "[LConfessBySize$Crime;" ∈ AW), by decide +kernel⟩
set_option maxRecDepth 100000 in
theorem tf_X6_23_6 : XF RX6 23 6 2 := ⟨RX6, TX6, 4, "ConfessBySize$Roll", rfl, by decide, wa_X6, ((AWi 103 (by decide +kernel) rfl) : Cond.fieldLink RX6 23 "ConfessBySize$Roll" "peopleMany" "I" ∈ AW), by decide +kernel⟩
set_option maxRecDepth 100000 in
theorem tf_X6_27_6 : XF RX6 27 6 3 := ⟨RX6, TX6, 4, "ConfessBySize$Roll", rfl, by decide, wa_X6, ((AWi 104 (by decide +kernel) rfl) : Cond.fieldLink RX6 27 "ConfessBySize$Roll" "crimesMany" "I" ∈ AW), by decide +kernel⟩
set_option maxRecDepth 100000 in
theorem tn_X6_9 : XN RX6 9 3 2 [.int (zI 0), .int (zI 0)] := ⟨RX3, TX3, tyX3, rfl, wa_X3, tyX3_ok, (AWi 97 (by decide +kernel) rfl), (AWi 342 (by decide +kernel) rfl), (AWi 62 (by decide +kernel) rfl), by decide +kernel, fun _ => rfl⟩
set_option maxRecDepth 100000 in
theorem tn_X6_17 : XN RX6 17 1 3 [.int (zI 0), .int (zI 0), .int (zI 0)] := ⟨RX1, TX1, tyX1, rfl, wa_X1, tyX1_ok, (AWi 99 (by decide +kernel) rfl), (AWi 351 (by decide +kernel) rfl), (AWi 67 (by decide +kernel) rfl), by decide +kernel, fun _ => rfl⟩
set_option maxRecDepth 100000 in
theorem tn_X6_60 : XN RX6 60 8 2 [.int (zI 0), .int (zI 0)] := ⟨RX8, TX8, tyX8, rfl, wa_X8, tyX8_ok, (AWi 297 (by decide +kernel) rfl), (AWi 298 (by decide +kernel) rfl), (AWi 63 (by decide +kernel) rfl), by decide +kernel, fun _ => rfl⟩
set_option maxRecDepth 100000 in
theorem tn_X6_65 : XN RX6 65 0 2 [.int (zI 0), .int (zI 0)] := ⟨RX0, TX0, tyX0, rfl, wa_X0, tyX0_ok, (AWi 315 (by decide +kernel) rfl), (AWi 316 (by decide +kernel) rfl), (AWi 64 (by decide +kernel) rfl), by decide +kernel, fun _ => rfl⟩
set_option maxRecDepth 100000 in
theorem tn_X6_68 : XN RX6 68 2 2 [.int (zI 0), .int (zI 0)] := ⟨RX2, TX2, tyX2, rfl, wa_X2, tyX2_ok, (AWi 324 (by decide +kernel) rfl), (AWi 325 (by decide +kernel) rfl), (AWi 65 (by decide +kernel) rfl), by decide +kernel, fun _ => rfl⟩
set_option maxRecDepth 100000 in
theorem tn_X6_71 : XN RX6 71 9 2 [.int (zI 0), .int (zI 0)] := ⟨RX9, TX9, tyX9, rfl, wa_X9, tyX9_ok, (AWi 333 (by decide +kernel) rfl), (AWi 334 (by decide +kernel) rfl), (AWi 66 (by decide +kernel) rfl), by decide +kernel, fun _ => rfl⟩
set_option maxRecDepth 100000 in
theorem tp_X6_11_6 : XP RX6 11 6 0 true (.array (.object "ConfessBySize$Man")) := ⟨RX6, TX6, 4, "ConfessBySize$Roll", tyX6, rfl, by decide, wa_X6, ((AWi 101 (by decide +kernel) rfl) : Cond.fieldLink RX6 11 "ConfessBySize$Roll" "people" "[LConfessBySize$Man;" ∈ AW), by decide +kernel, tyX6_ok, nmX6, rfl, by decide +kernel⟩
set_option maxRecDepth 100000 in
theorem tp_X6_19_6 : XP RX6 19 6 1 true (.array (.object "ConfessBySize$Crime")) := ⟨RX6, TX6, 4, "ConfessBySize$Roll", tyX6, rfl, by decide, wa_X6, ((AWi 102 (by decide +kernel) rfl) : Cond.fieldLink RX6 19 "ConfessBySize$Roll" "crimes" "[LConfessBySize$Crime;" ∈ AW), by decide +kernel, tyX6_ok, nmX6, rfl, by decide +kernel⟩
set_option maxRecDepth 100000 in
theorem tp_X6_23_6 : XP RX6 23 6 2 false .int := ⟨RX6, TX6, 4, "ConfessBySize$Roll", tyX6, rfl, by decide, wa_X6, ((AWi 103 (by decide +kernel) rfl) : Cond.fieldLink RX6 23 "ConfessBySize$Roll" "peopleMany" "I" ∈ AW), by decide +kernel, tyX6_ok, nmX6, rfl, by decide +kernel⟩
set_option maxRecDepth 100000 in
theorem tp_X6_27_6 : XP RX6 27 6 3 false .int := ⟨RX6, TX6, 4, "ConfessBySize$Roll", tyX6, rfl, by decide, wa_X6, ((AWi 104 (by decide +kernel) rfl) : Cond.fieldLink RX6 27 "ConfessBySize$Roll" "crimesMany" "I" ∈ AW), by decide +kernel, tyX6_ok, nmX6, rfl, by decide +kernel⟩
set_option maxRecDepth 100000 in
theorem tf_X7_9_7 : XF RX7 9 7 0 := ⟨RX7, TX7, 5, "ConfessBySize$Standing", rfl, by decide, wa_X7, ((AWi 143 (by decide +kernel) rfl) : Cond.fieldLink RX7 9 "ConfessBySize$Standing" "sizes" "[I" ∈ AW), by decide +kernel⟩
set_option maxRecDepth 100000 in
theorem tf_X7_15_7 : XF RX7 15 7 1 := ⟨RX7, TX7, 5, "ConfessBySize$Standing", rfl, by decide, wa_X7, ((AWi 144 (by decide +kernel) rfl) : Cond.fieldLink RX7 15 "ConfessBySize$Standing" "hasConfessed" "[I" ∈ AW), by decide +kernel⟩
set_option maxRecDepth 100000 in
theorem tf_X7_21_7 : XF RX7 21 7 2 := ⟨RX7, TX7, 5, "ConfessBySize$Standing", rfl, by decide, wa_X7, ((AWi 145 (by decide +kernel) rfl) : Cond.fieldLink RX7 21 "ConfessBySize$Standing" "trials" "LConfessBySize$Trials;" ∈ AW), by decide +kernel⟩
set_option maxRecDepth 100000 in
theorem tf_X7_31_1 : XF RX7 31 1 0 := ⟨RX1, TX1, 3, "ConfessBySize$Crime", rfl, by decide, wa_X1, ((AWi 357 (by decide +kernel) rfl) : Cond.fieldLink RX7 31 "ConfessBySize$Crime" "toldSize" "I" ∈ AW), by decide +kernel⟩
set_option maxRecDepth 100000 in
theorem tf_X7_40_7 : XF RX7 40 7 3 := ⟨RX7, TX7, 5, "ConfessBySize$Standing", rfl, by decide, wa_X7, ((AWi 147 (by decide +kernel) rfl) : Cond.fieldLink RX7 40 "ConfessBySize$Standing" "stitchesMade" "I" ∈ AW), by decide +kernel⟩
set_option maxRecDepth 100000 in
theorem tf_X7_43_7 : XF RX7 43 7 4 := ⟨RX7, TX7, 5, "ConfessBySize$Standing", rfl, by decide, wa_X7, ((AWi 149 (by decide +kernel) rfl) : Cond.fieldLink RX7 43 "ConfessBySize$Standing" "timesConfessed" "I" ∈ AW), by decide +kernel⟩
set_option maxRecDepth 100000 in
theorem tn_X7_18 : XN RX7 18 10 5 [.null, .null, .null, .null, .int (zI 0)] := ⟨RX10, TX10, tyX10, rfl, wa_X10, tyX10_ok, (AWi 120 (by decide +kernel) rfl), (AWi 121 (by decide +kernel) rfl), (AWi 58 (by decide +kernel) rfl), by decide +kernel, fun _ => rfl⟩
set_option maxRecDepth 100000 in
theorem tp_X7_9_7 : XP RX7 9 7 0 true (.array .int) := ⟨RX7, TX7, 5, "ConfessBySize$Standing", tyX7, rfl, by decide, wa_X7, ((AWi 143 (by decide +kernel) rfl) : Cond.fieldLink RX7 9 "ConfessBySize$Standing" "sizes" "[I" ∈ AW), by decide +kernel, tyX7_ok, nmX7, rfl, by decide +kernel⟩
set_option maxRecDepth 100000 in
theorem tp_X7_15_7 : XP RX7 15 7 1 true (.array .int) := ⟨RX7, TX7, 5, "ConfessBySize$Standing", tyX7, rfl, by decide, wa_X7, ((AWi 144 (by decide +kernel) rfl) : Cond.fieldLink RX7 15 "ConfessBySize$Standing" "hasConfessed" "[I" ∈ AW), by decide +kernel, tyX7_ok, nmX7, rfl, by decide +kernel⟩
set_option maxRecDepth 100000 in
theorem tp_X7_21_7 : XP RX7 21 7 2 true (.object "ConfessBySize$Trials") := ⟨RX7, TX7, 5, "ConfessBySize$Standing", tyX7, rfl, by decide, wa_X7, ((AWi 145 (by decide +kernel) rfl) : Cond.fieldLink RX7 21 "ConfessBySize$Standing" "trials" "LConfessBySize$Trials;" ∈ AW), by decide +kernel, tyX7_ok, nmX7, rfl, by decide +kernel⟩
set_option maxRecDepth 100000 in
theorem tp_X7_40_7 : XP RX7 40 7 3 false .int := ⟨RX7, TX7, 5, "ConfessBySize$Standing", tyX7, rfl, by decide, wa_X7, ((AWi 147 (by decide +kernel) rfl) : Cond.fieldLink RX7 40 "ConfessBySize$Standing" "stitchesMade" "I" ∈ AW), by decide +kernel, tyX7_ok, nmX7, rfl, by decide +kernel⟩
set_option maxRecDepth 100000 in
theorem tp_X7_43_7 : XP RX7 43 7 4 false .int := ⟨RX7, TX7, 5, "ConfessBySize$Standing", tyX7, rfl, by decide, wa_X7, ((AWi 149 (by decide +kernel) rfl) : Cond.fieldLink RX7 43 "ConfessBySize$Standing" "timesConfessed" "I" ∈ AW), by decide +kernel, tyX7_ok, nmX7, rfl, by decide +kernel⟩
set_option maxRecDepth 100000 in
theorem tm_X11_init : XMI yX11_init cX11_init 1 none 0 := ⟨(AWi 73 (by decide +kernel) rfl), (AWi 54 (by decide +kernel) rfl), by decide +kernel, by decide +kernel, by decide +kernel⟩
set_option maxRecDepth 100000 in
theorem tm_X5_init : XMI yX5_init cX5_init 1 none 0 := ⟨(AWi 81 (by decide +kernel) rfl), (AWi 55 (by decide +kernel) rfl), by decide +kernel, by decide +kernel, by decide +kernel⟩
set_option maxRecDepth 100000 in
theorem tm_X6_init : XMI yX6_init cX6_init 1 none 0 := ⟨(AWi 95 (by decide +kernel) rfl), (AWi 56 (by decide +kernel) rfl), by decide +kernel, by decide +kernel, by decide +kernel⟩
set_option maxRecDepth 100000 in
theorem tm_X7_init : XMI yX7_init cX7_init 2 none 0 := ⟨(AWi 118 (by decide +kernel) rfl), (AWi 57 (by decide +kernel) rfl), by decide +kernel, by decide +kernel, by decide +kernel⟩
set_option maxRecDepth 100000 in
theorem tm_X10_init : XMI yX10_init cX10_init 1 none 0 := ⟨(AWi 124 (by decide +kernel) rfl), (AWi 58 (by decide +kernel) rfl), by decide +kernel, by decide +kernel, by decide +kernel⟩
set_option maxRecDepth 100000 in
theorem tm_X4_init : XMI yX4_init cX4_init 1 none 0 := ⟨(AWi 166 (by decide +kernel) rfl), (AWi 59 (by decide +kernel) rfl), by decide +kernel, by decide +kernel, by decide +kernel⟩
set_option maxRecDepth 100000 in
theorem tm_X11_letter : XMI yX11_letter cX11_letter 2 (some FieldType.int) 1 := ⟨(AWi 223 (by decide +kernel) rfl), (AWi 54 (by decide +kernel) rfl), by decide +kernel, by decide +kernel, by decide +kernel⟩
set_option maxRecDepth 100000 in
theorem tm_X5_isFull : XMI yX5_isFull cX5_isFull 1 (some FieldType.boolean) 0 := ⟨(AWi 227 (by decide +kernel) rfl), (AWi 55 (by decide +kernel) rfl), by decide +kernel, by decide +kernel, by decide +kernel⟩
set_option maxRecDepth 100000 in
theorem tm_X5_add : XMI yX5_add cX5_add 2 none 1 := ⟨(AWi 231 (by decide +kernel) rfl), (AWi 55 (by decide +kernel) rfl), by decide +kernel, by decide +kernel, by decide +kernel⟩
set_option maxRecDepth 100000 in
theorem tm_X5_length : XMI yX5_length cX5_length 1 (some FieldType.int) 0 := ⟨(AWi 235 (by decide +kernel) rfl), (AWi 55 (by decide +kernel) rfl), by decide +kernel, by decide +kernel, by decide +kernel⟩
set_option maxRecDepth 100000 in
theorem tm_X11_blank : XMI yX11_blank cX11_blank 2 (some FieldType.int) 0 := ⟨(AWi 239 (by decide +kernel) rfl), (AWi 54 (by decide +kernel) rfl), by decide +kernel, by decide +kernel, by decide +kernel⟩
set_option maxRecDepth 100000 in
theorem tm_X5_clear : XMI yX5_clear cX5_clear 1 none 0 := ⟨(AWi 243 (by decide +kernel) rfl), (AWi 55 (by decide +kernel) rfl), by decide +kernel, by decide +kernel, by decide +kernel⟩
set_option maxRecDepth 100000 in
theorem tm_X11_fault : XMI yX11_fault cX11_fault 1 (some FieldType.int) 0 := ⟨(AWi 247 (by decide +kernel) rfl), (AWi 54 (by decide +kernel) rfl), by decide +kernel, by decide +kernel, by decide +kernel⟩
set_option maxRecDepth 100000 in
theorem tm_X5_firstFault : XMI yX5_firstFault cX5_firstFault 4 (some FieldType.int) 0 := ⟨(AWi 251 (by decide +kernel) rfl), (AWi 55 (by decide +kernel) rfl), by decide +kernel, by decide +kernel, by decide +kernel⟩
set_option maxRecDepth 100000 in
theorem tm_X5_semicolon : XMI yX5_semicolon cX5_semicolon 2 (some FieldType.int) 0 := ⟨(AWi 255 (by decide +kernel) rfl), (AWi 55 (by decide +kernel) rfl), by decide +kernel, by decide +kernel, by decide +kernel⟩
set_option maxRecDepth 100000 in
theorem tm_X5_codeAt : XMI yX5_codeAt cX5_codeAt 2 (some FieldType.int) 1 := ⟨(AWi 259 (by decide +kernel) rfl), (AWi 55 (by decide +kernel) rfl), by decide +kernel, by decide +kernel, by decide +kernel⟩
set_option maxRecDepth 100000 in
theorem tm_X5_isOfPeople : XMI yX5_isOfPeople cX5_isOfPeople 3 (some FieldType.boolean) 2 := ⟨(AWi 262 (by decide +kernel) rfl), (AWi 55 (by decide +kernel) rfl), by decide +kernel, by decide +kernel, by decide +kernel⟩
set_option maxRecDepth 100000 in
theorem tm_X5_isKindLetter : XMI yX5_isKindLetter cX5_isKindLetter 1 (some FieldType.boolean) 1 := ⟨(AWi 265 (by decide +kernel) rfl), (AWi 55 (by decide +kernel) rfl), by decide +kernel, by decide +kernel, by decide +kernel⟩
set_option maxRecDepth 100000 in
theorem tm_X5_isDigit : XMI yX5_isDigit cX5_isDigit 3 (some FieldType.boolean) 3 := ⟨(AWi 268 (by decide +kernel) rfl), (AWi 55 (by decide +kernel) rfl), by decide +kernel, by decide +kernel, by decide +kernel⟩
set_option maxRecDepth 100000 in
theorem tm_X5_isOfCrimes : XMI yX5_isOfCrimes cX5_isOfCrimes 2 (some FieldType.boolean) 2 := ⟨(AWi 271 (by decide +kernel) rfl), (AWi 55 (by decide +kernel) rfl), by decide +kernel, by decide +kernel, by decide +kernel⟩
set_option maxRecDepth 100000 in
theorem tm_X11_station : XMI yX11_station cX11_station 1 (some FieldType.int) 0 := ⟨(AWi 275 (by decide +kernel) rfl), (AWi 54 (by decide +kernel) rfl), by decide +kernel, by decide +kernel, by decide +kernel⟩
set_option maxRecDepth 100000 in
theorem tm_X5_isStation : XMI yX5_isStation cX5_isStation 2 (some FieldType.boolean) 0 := ⟨(AWi 279 (by decide +kernel) rfl), (AWi 55 (by decide +kernel) rfl), by decide +kernel, by decide +kernel, by decide +kernel⟩
set_option maxRecDepth 100000 in
theorem tm_X6_read : XMI yX6_read cX6_read 4 none 1 := ⟨(AWi 284 (by decide +kernel) rfl), (AWi 56 (by decide +kernel) rfl), by decide +kernel, by decide +kernel, by decide +kernel⟩
set_option maxRecDepth 100000 in
theorem tm_J9_min_7cf53 : XMI yJ9_min_7cf53 cJ9_min_7cf53 2 (some FieldType.int) 2 := ⟨(AWi 288 (by decide +kernel) rfl), (AWi 61 (by decide +kernel) rfl), by decide +kernel, by decide +kernel, by decide +kernel⟩
set_option maxRecDepth 100000 in
theorem tm_X6_manAt : XMI yX6_manAt cX6_manAt 4 (some (FieldType.object "ConfessBySize$Man")) 2 := ⟨(AWi 291 (by decide +kernel) rfl), (AWi 56 (by decide +kernel) rfl), by decide +kernel, by decide +kernel, by decide +kernel⟩
set_option maxRecDepth 100000 in
theorem tm_X5_digitAt : XMI yX5_digitAt cX5_digitAt 2 (some FieldType.int) 1 := ⟨(AWi 295 (by decide +kernel) rfl), (AWi 55 (by decide +kernel) rfl), by decide +kernel, by decide +kernel, by decide +kernel⟩
set_option maxRecDepth 100000 in
theorem tm_X8_init : XMI yX8_init cX8_init 3 none 2 := ⟨(AWi 301 (by decide +kernel) rfl), (AWi 63 (by decide +kernel) rfl), by decide +kernel, by decide +kernel, by decide +kernel⟩
set_option maxRecDepth 100000 in
theorem tm_X3_init : XMI yX3_init cX3_init 3 none 2 := ⟨(AWi 304 (by decide +kernel) rfl), (AWi 62 (by decide +kernel) rfl), by decide +kernel, by decide +kernel, by decide +kernel⟩
set_option maxRecDepth 100000 in
theorem tm_X0_init : XMI yX0_init cX0_init 3 none 2 := ⟨(AWi 319 (by decide +kernel) rfl), (AWi 64 (by decide +kernel) rfl), by decide +kernel, by decide +kernel, by decide +kernel⟩
set_option maxRecDepth 100000 in
theorem tm_X2_init : XMI yX2_init cX2_init 3 none 2 := ⟨(AWi 328 (by decide +kernel) rfl), (AWi 65 (by decide +kernel) rfl), by decide +kernel, by decide +kernel, by decide +kernel⟩
set_option maxRecDepth 100000 in
theorem tm_X9_init : XMI yX9_init cX9_init 3 none 2 := ⟨(AWi 337 (by decide +kernel) rfl), (AWi 66 (by decide +kernel) rfl), by decide +kernel, by decide +kernel, by decide +kernel⟩
set_option maxRecDepth 100000 in
theorem tm_X6_crimeAt : XMI yX6_crimeAt cX6_crimeAt 2 (some (FieldType.object "ConfessBySize$Crime")) 2 := ⟨(AWi 350 (by decide +kernel) rfl), (AWi 56 (by decide +kernel) rfl), by decide +kernel, by decide +kernel, by decide +kernel⟩
set_option maxRecDepth 100000 in
theorem tm_X1_init : XMI yX1_init cX1_init 4 none 3 := ⟨(AWi 354 (by decide +kernel) rfl), (AWi 67 (by decide +kernel) rfl), by decide +kernel, by decide +kernel, by decide +kernel⟩
set_option maxRecDepth 100000 in
theorem tm_X7_begin : XMI yX7_begin cX7_begin 4 none 1 := ⟨(AWi 372 (by decide +kernel) rfl), (AWi 57 (by decide +kernel) rfl), by decide +kernel, by decide +kernel, by decide +kernel⟩
set_option maxRecDepth 100000 in
theorem tm_X6_crimeOf : XMI yX6_crimeOf cX6_crimeOf 2 (some (FieldType.object "ConfessBySize$Crime")) 1 := ⟨(AWi 376 (by decide +kernel) rfl), (AWi 56 (by decide +kernel) rfl), by decide +kernel, by decide +kernel, by decide +kernel⟩
set_option maxRecDepth 100000 in
theorem tm_X10_clear : XMI yX10_clear cX10_clear 1 none 0 := ⟨(AWi 380 (by decide +kernel) rfl), (AWi 58 (by decide +kernel) rfl), by decide +kernel, by decide +kernel, by decide +kernel⟩
set_option maxRecDepth 100000 in
theorem tm_X6_crimesMany : XMI yX6_crimesMany cX6_crimesMany 1 (some FieldType.int) 0 := ⟨(AWi 384 (by decide +kernel) rfl), (AWi 56 (by decide +kernel) rfl), by decide +kernel, by decide +kernel, by decide +kernel⟩
set_option maxRecDepth 100000 in
theorem tm_X11_about : XMI yX11_about cX11_about 4 (some FieldType.int) 2 := ⟨(AWi 388 (by decide +kernel) rfl), (AWi 54 (by decide +kernel) rfl), by decide +kernel, by decide +kernel, by decide +kernel⟩
set_option maxRecDepth 100000 in
theorem tm_X6_manOf : XMI yX6_manOf cX6_manOf 2 (some (FieldType.object "ConfessBySize$Man")) 1 := ⟨(AWi 392 (by decide +kernel) rfl), (AWi 56 (by decide +kernel) rfl), by decide +kernel, by decide +kernel, by decide +kernel⟩
set_option maxRecDepth 100000 in
theorem tm_X0_kind : XMI yX0_kind cX0_kind 1 (some FieldType.int) 0 := ⟨(AWi 399 (by decide +kernel) rfl), (AWi 64 (by decide +kernel) rfl), by decide +kernel, by decide +kernel, by decide +kernel⟩
set_option maxRecDepth 100000 in
theorem tm_X2_kind : XMI yX2_kind cX2_kind 1 (some FieldType.int) 0 := ⟨(AWi 402 (by decide +kernel) rfl), (AWi 65 (by decide +kernel) rfl), by decide +kernel, by decide +kernel, by decide +kernel⟩
set_option maxRecDepth 100000 in
theorem tm_X8_kind : XMI yX8_kind cX8_kind 1 (some FieldType.int) 0 := ⟨(AWi 405 (by decide +kernel) rfl), (AWi 63 (by decide +kernel) rfl), by decide +kernel, by decide +kernel, by decide +kernel⟩
set_option maxRecDepth 100000 in
theorem tm_X9_kind : XMI yX9_kind cX9_kind 1 (some FieldType.int) 0 := ⟨(AWi 408 (by decide +kernel) rfl), (AWi 66 (by decide +kernel) rfl), by decide +kernel, by decide +kernel, by decide +kernel⟩
set_option maxRecDepth 100000 in
theorem tm_X3_kind : XMI yX3_kind cX3_kind 1 (some FieldType.int) 0 := ⟨(AWi 409 (by decide +kernel) rfl), (AWi 62 (by decide +kernel) rfl), by decide +kernel, by decide +kernel, by decide +kernel⟩
set_option maxRecDepth 100000 in
theorem tm_X0_bears : XMI yX0_bears cX0_bears 1 (some FieldType.int) 0 := ⟨(AWi 416 (by decide +kernel) rfl), (AWi 64 (by decide +kernel) rfl), by decide +kernel, by decide +kernel, by decide +kernel⟩
set_option maxRecDepth 100000 in
theorem tm_X8_bears : XMI yX8_bears cX8_bears 1 (some FieldType.int) 0 := ⟨(AWi 420 (by decide +kernel) rfl), (AWi 63 (by decide +kernel) rfl), by decide +kernel, by decide +kernel, by decide +kernel⟩
set_option maxRecDepth 100000 in
theorem tm_X3_bears : XMI yX3_bears cX3_bears 1 (some FieldType.int) 0 := ⟨(AWi 422 (by decide +kernel) rfl), (AWi 62 (by decide +kernel) rfl), by decide +kernel, by decide +kernel, by decide +kernel⟩
set_option maxRecDepth 100000 in
theorem tm_X7_crimeOn : XMI yX7_crimeOn cX7_crimeOn 2 (some FieldType.int) 1 := ⟨(AWi 426 (by decide +kernel) rfl), (AWi 57 (by decide +kernel) rfl), by decide +kernel, by decide +kernel, by decide +kernel⟩
set_option maxRecDepth 100000 in
theorem tm_X11_paidTo : XMI yX11_paidTo cX11_paidTo 4 (some FieldType.int) 2 := ⟨(AWi 430 (by decide +kernel) rfl), (AWi 54 (by decide +kernel) rfl), by decide +kernel, by decide +kernel, by decide +kernel⟩
set_option maxRecDepth 100000 in
theorem tm_X11_crimesFitting : XMI yX11_crimesFitting cX11_crimesFitting 4 (some FieldType.int) 1 := ⟨(AWi 435 (by decide +kernel) rfl), (AWi 54 (by decide +kernel) rfl), by decide +kernel, by decide +kernel, by decide +kernel⟩
set_option maxRecDepth 100000 in
theorem tm_X7_sizeOf : XMI yX7_sizeOf cX7_sizeOf 2 (some FieldType.int) 1 := ⟨(AWi 439 (by decide +kernel) rfl), (AWi 57 (by decide +kernel) rfl), by decide +kernel, by decide +kernel, by decide +kernel⟩
set_option maxRecDepth 100000 in
theorem tm_X11_isFitting : XMI yX11_isFitting cX11_isFitting 6 (some FieldType.boolean) 3 := ⟨(AWi 443 (by decide +kernel) rfl), (AWi 54 (by decide +kernel) rfl), by decide +kernel, by decide +kernel, by decide +kernel⟩
set_option maxRecDepth 100000 in
theorem tm_X3_wouldFit : XMI yX3_wouldFit cX3_wouldFit 4 (some FieldType.boolean) 3 := ⟨(AWi 452 (by decide +kernel) rfl), (AWi 62 (by decide +kernel) rfl), by decide +kernel, by decide +kernel, by decide +kernel⟩
set_option maxRecDepth 100000 in
theorem tm_X9_hasHandLike : XMI yX9_hasHandLike cX9_hasHandLike 2 (some FieldType.boolean) 1 := ⟨(AWi 462 (by decide +kernel) rfl), (AWi 66 (by decide +kernel) rfl), by decide +kernel, by decide +kernel, by decide +kernel⟩
set_option maxRecDepth 100000 in
theorem tm_X3_hasHandLike : XMI yX3_hasHandLike cX3_hasHandLike 2 (some FieldType.boolean) 1 := ⟨(AWi 463 (by decide +kernel) rfl), (AWi 62 (by decide +kernel) rfl), by decide +kernel, by decide +kernel, by decide +kernel⟩
set_option maxRecDepth 100000 in
theorem tm_X2_counted : XMI yX2_counted cX2_counted 2 (some FieldType.int) 1 := ⟨(AWi 471 (by decide +kernel) rfl), (AWi 65 (by decide +kernel) rfl), by decide +kernel, by decide +kernel, by decide +kernel⟩
set_option maxRecDepth 100000 in
theorem tm_X3_counted : XMI yX3_counted cX3_counted 2 (some FieldType.int) 1 := ⟨(AWi 474 (by decide +kernel) rfl), (AWi 62 (by decide +kernel) rfl), by decide +kernel, by decide +kernel, by decide +kernel⟩
set_option maxRecDepth 100000 in
theorem tm_J9_abs_0f7a4 : XMI yJ9_abs_0f7a4 cJ9_abs_0f7a4 1 (some FieldType.int) 1 := ⟨(AWi 477 (by decide +kernel) rfl), (AWi 61 (by decide +kernel) rfl), by decide +kernel, by decide +kernel, by decide +kernel⟩
set_option maxRecDepth 100000 in
theorem tm_X11_sizesLeft : XMI yX11_sizesLeft cX11_sizesLeft 5 (some FieldType.int) 1 := ⟨(AWi 482 (by decide +kernel) rfl), (AWi 54 (by decide +kernel) rfl), by decide +kernel, by decide +kernel, by decide +kernel⟩
set_option maxRecDepth 100000 in
theorem tm_X10_allow : XMI yX10_allow cX10_allow 6 (some FieldType.boolean) 3 := ⟨(AWi 486 (by decide +kernel) rfl), (AWi 58 (by decide +kernel) rfl), by decide +kernel, by decide +kernel, by decide +kernel⟩
set_option maxRecDepth 100000 in
theorem tm_X11_bitOfSize : XMI yX11_bitOfSize cX11_bitOfSize 1 (some FieldType.int) 1 := ⟨(AWi 490 (by decide +kernel) rfl), (AWi 54 (by decide +kernel) rfl), by decide +kernel, by decide +kernel, by decide +kernel⟩
set_option maxRecDepth 100000 in
theorem tm_X11_nextToTry : XMI yX11_nextToTry cX11_nextToTry 7 (some FieldType.int) 1 := ⟨(AWi 494 (by decide +kernel) rfl), (AWi 54 (by decide +kernel) rfl), by decide +kernel, by decide +kernel, by decide +kernel⟩
set_option maxRecDepth 100000 in
theorem tm_X11_leftAtWorst : XMI yX11_leftAtWorst cX11_leftAtWorst 9 (some FieldType.int) 3 := ⟨(AWi 498 (by decide +kernel) rfl), (AWi 54 (by decide +kernel) rfl), by decide +kernel, by decide +kernel, by decide +kernel⟩
set_option maxRecDepth 100000 in
theorem tm_J6_bitCount_0f7a4 : XMI yJ6_bitCount_0f7a4 cJ6_bitCount_0f7a4 1 (some FieldType.int) 1 := ⟨(AWi 501 (by decide +kernel) rfl), (AWi 68 (by decide +kernel) rfl), by decide +kernel, by decide +kernel, by decide +kernel⟩
set_option maxRecDepth 100000 in
theorem tm_J9_max_7cf53 : XMI yJ9_max_7cf53 cJ9_max_7cf53 2 (some FieldType.int) 2 := ⟨(AWi 507 (by decide +kernel) rfl), (AWi 61 (by decide +kernel) rfl), by decide +kernel, by decide +kernel, by decide +kernel⟩
set_option maxRecDepth 100000 in
theorem tm_X11_as : XMI yX11_as cX11_as 4 (some FieldType.int) 2 := ⟨(AWi 511 (by decide +kernel) rfl), (AWi 54 (by decide +kernel) rfl), by decide +kernel, by decide +kernel, by decide +kernel⟩
set_option maxRecDepth 100000 in
theorem tm_X11_isOfKind : XMI yX11_isOfKind cX11_isOfKind 2 (some FieldType.boolean) 2 := ⟨(AWi 514 (by decide +kernel) rfl), (AWi 54 (by decide +kernel) rfl), by decide +kernel, by decide +kernel, by decide +kernel⟩
set_option maxRecDepth 100000 in
theorem tm_X11_crime : XMI yX11_crime cX11_crime 4 (some FieldType.int) 2 := ⟨(AWi 522 (by decide +kernel) rfl), (AWi 54 (by decide +kernel) rfl), by decide +kernel, by decide +kernel, by decide +kernel⟩
set_option maxRecDepth 100000 in
theorem tm_X7_hangsOn : XMI yX7_hangsOn cX7_hangsOn 3 (some FieldType.int) 1 := ⟨(AWi 526 (by decide +kernel) rfl), (AWi 57 (by decide +kernel) rfl), by decide +kernel, by decide +kernel, by decide +kernel⟩
set_option maxRecDepth 100000 in
theorem tm_X11_peopleFitted : XMI yX11_peopleFitted cX11_peopleFitted 4 (some FieldType.int) 1 := ⟨(AWi 530 (by decide +kernel) rfl), (AWi 54 (by decide +kernel) rfl), by decide +kernel, by decide +kernel, by decide +kernel⟩
set_option maxRecDepth 100000 in
theorem tm_X6_peopleMany : XMI yX6_peopleMany cX6_peopleMany 1 (some FieldType.int) 0 := ⟨(AWi 534 (by decide +kernel) rfl), (AWi 56 (by decide +kernel) rfl), by decide +kernel, by decide +kernel, by decide +kernel⟩
set_option maxRecDepth 100000 in
theorem tm_X11_halvesOf : XMI yX11_halvesOf cX11_halvesOf 4 (some FieldType.int) 1 := ⟨(AWi 538 (by decide +kernel) rfl), (AWi 54 (by decide +kernel) rfl), by decide +kernel, by decide +kernel, by decide +kernel⟩
set_option maxRecDepth 100000 in
theorem tm_X11_canGoHalves : XMI yX11_canGoHalves cX11_canGoHalves 7 (some FieldType.boolean) 3 := ⟨(AWi 542 (by decide +kernel) rfl), (AWi 54 (by decide +kernel) rfl), by decide +kernel, by decide +kernel, by decide +kernel⟩
set_option maxRecDepth 100000 in
theorem tm_X11_confess : XMI yX11_confess cX11_confess 3 (some FieldType.int) 2 := ⟨(AWi 548 (by decide +kernel) rfl), (AWi 54 (by decide +kernel) rfl), by decide +kernel, by decide +kernel, by decide +kernel⟩
set_option maxRecDepth 100000 in
theorem tm_X11_mayConfess : XMI yX11_mayConfess cX11_mayConfess 4 (some FieldType.boolean) 3 := ⟨(AWi 552 (by decide +kernel) rfl), (AWi 54 (by decide +kernel) rfl), by decide +kernel, by decide +kernel, by decide +kernel⟩
set_option maxRecDepth 100000 in
theorem tm_X11_isFree : XMI yX11_isFree cX11_isFree 4 (some FieldType.boolean) 2 := ⟨(AWi 556 (by decide +kernel) rfl), (AWi 54 (by decide +kernel) rfl), by decide +kernel, by decide +kernel, by decide +kernel⟩
set_option maxRecDepth 100000 in
theorem tm_X0_doesConfess : XMI yX0_doesConfess cX0_doesConfess 1 (some FieldType.boolean) 0 := ⟨(AWi 563 (by decide +kernel) rfl), (AWi 64 (by decide +kernel) rfl), by decide +kernel, by decide +kernel, by decide +kernel⟩
set_option maxRecDepth 100000 in
theorem tm_X3_doesConfess : XMI yX3_doesConfess cX3_doesConfess 1 (some FieldType.boolean) 0 := ⟨(AWi 567 (by decide +kernel) rfl), (AWi 62 (by decide +kernel) rfl), by decide +kernel, by decide +kernel, by decide +kernel⟩
set_option maxRecDepth 100000 in
theorem tm_X7_hang : XMI yX7_hang cX7_hang 3 none 2 := ⟨(AWi 571 (by decide +kernel) rfl), (AWi 57 (by decide +kernel) rfl), by decide +kernel, by decide +kernel, by decide +kernel⟩
set_option maxRecDepth 100000 in
theorem tm_X11_recant : XMI yX11_recant cX11_recant 3 (some FieldType.int) 1 := ⟨(AWi 575 (by decide +kernel) rfl), (AWi 54 (by decide +kernel) rfl), by decide +kernel, by decide +kernel, by decide +kernel⟩
set_option maxRecDepth 100000 in
theorem tm_X11_alter : XMI yX11_alter cX11_alter 4 (some FieldType.int) 2 := ⟨(AWi 579 (by decide +kernel) rfl), (AWi 54 (by decide +kernel) rfl), by decide +kernel, by decide +kernel, by decide +kernel⟩
set_option maxRecDepth 100000 in
theorem tm_X11_isSize : XMI yX11_isSize cX11_isSize 1 (some FieldType.boolean) 1 := ⟨(AWi 582 (by decide +kernel) rfl), (AWi 54 (by decide +kernel) rfl), by decide +kernel, by decide +kernel, by decide +kernel⟩
set_option maxRecDepth 100000 in
theorem tm_X7_resize : XMI yX7_resize cX7_resize 3 none 2 := ⟨(AWi 586 (by decide +kernel) rfl), (AWi 57 (by decide +kernel) rfl), by decide +kernel, by decide +kernel, by decide +kernel⟩
set_option maxRecDepth 100000 in
theorem tm_X11_match : XMI yX11_match cX11_match 2 (some FieldType.int) 1 := ⟨(AWi 590 (by decide +kernel) rfl), (AWi 54 (by decide +kernel) rfl), by decide +kernel, by decide +kernel, by decide +kernel⟩
set_option maxRecDepth 100000 in
theorem tm_X11_isOfMatch : XMI yX11_isOfMatch cX11_isOfMatch 1 (some FieldType.boolean) 1 := ⟨(AWi 593 (by decide +kernel) rfl), (AWi 54 (by decide +kernel) rfl), by decide +kernel, by decide +kernel, by decide +kernel⟩
set_option maxRecDepth 100000 in
theorem tm_X11_isOpen : XMI yX11_isOpen cX11_isOpen 1 (some FieldType.boolean) 0 := ⟨(AWi 597 (by decide +kernel) rfl), (AWi 54 (by decide +kernel) rfl), by decide +kernel, by decide +kernel, by decide +kernel⟩
set_option maxRecDepth 100000 in
theorem tm_X11_findMatch : XMI yX11_findMatch cX11_findMatch 3 none 0 := ⟨(AWi 601 (by decide +kernel) rfl), (AWi 54 (by decide +kernel) rfl), by decide +kernel, by decide +kernel, by decide +kernel⟩
set_option maxRecDepth 100000 in
theorem tm_X4_begin : XMI yX4_begin cX4_begin 3 none 1 := ⟨(AWi 605 (by decide +kernel) rfl), (AWi 59 (by decide +kernel) rfl), by decide +kernel, by decide +kernel, by decide +kernel⟩
set_option maxRecDepth 100000 in
theorem tm_X4_allow : XMI yX4_allow cX4_allow 3 none 2 := ⟨(AWi 610 (by decide +kernel) rfl), (AWi 59 (by decide +kernel) rfl), by decide +kernel, by decide +kernel, by decide +kernel⟩
set_option maxRecDepth 100000 in
theorem tm_X4_reward : XMI yX4_reward cX4_reward 3 none 2 := ⟨(AWi 614 (by decide +kernel) rfl), (AWi 59 (by decide +kernel) rfl), by decide +kernel, by decide +kernel, by decide +kernel⟩
set_option maxRecDepth 100000 in
theorem tm_X4_find : XMI yX4_find cX4_find 1 none 0 := ⟨(AWi 618 (by decide +kernel) rfl), (AWi 59 (by decide +kernel) rfl), by decide +kernel, by decide +kernel, by decide +kernel⟩
set_option maxRecDepth 100000 in
theorem tm_X4_choose : XMI yX4_choose cX4_choose 7 none 5 := ⟨(AWi 621 (by decide +kernel) rfl), (AWi 59 (by decide +kernel) rfl), by decide +kernel, by decide +kernel, by decide +kernel⟩
set_option maxRecDepth 100000 in
theorem tm_X4_keepIfBetter : XMI yX4_keepIfBetter cX4_keepIfBetter 4 none 2 := ⟨(AWi 625 (by decide +kernel) rfl), (AWi 59 (by decide +kernel) rfl), by decide +kernel, by decide +kernel, by decide +kernel⟩
set_option maxRecDepth 100000 in
theorem tm_X11_toldOfMatch : XMI yX11_toldOfMatch cX11_toldOfMatch 2 (some FieldType.int) 1 := ⟨(AWi 629 (by decide +kernel) rfl), (AWi 54 (by decide +kernel) rfl), by decide +kernel, by decide +kernel, by decide +kernel⟩
set_option maxRecDepth 100000 in
theorem tm_X4_bestOn : XMI yX4_bestOn cX4_bestOn 2 (some FieldType.int) 1 := ⟨(AWi 633 (by decide +kernel) rfl), (AWi 59 (by decide +kernel) rfl), by decide +kernel, by decide +kernel, by decide +kernel⟩
set_option maxRecDepth 100000 in
theorem tm_X11_stitches : XMI yX11_stitches cX11_stitches 1 (some FieldType.int) 0 := ⟨(AWi 637 (by decide +kernel) rfl), (AWi 54 (by decide +kernel) rfl), by decide +kernel, by decide +kernel, by decide +kernel⟩
set_option maxRecDepth 100000 in
theorem tm_X11_fewestStitches : XMI yX11_fewestStitches cX11_fewestStitches 7 (some FieldType.int) 3 := ⟨(AWi 640 (by decide +kernel) rfl), (AWi 54 (by decide +kernel) rfl), by decide +kernel, by decide +kernel, by decide +kernel⟩
set_option maxRecDepth 100000 in
theorem tm_X11_stitchesFor : XMI yX11_stitchesFor cX11_stitchesFor 5 (some FieldType.int) 2 := ⟨(AWi 644 (by decide +kernel) rfl), (AWi 54 (by decide +kernel) rfl), by decide +kernel, by decide +kernel, by decide +kernel⟩
set_option maxRecDepth 100000 in
theorem tm_X11_tried : XMI yX11_tried cX11_tried 5 (some FieldType.int) 3 := ⟨(AWi 648 (by decide +kernel) rfl), (AWi 54 (by decide +kernel) rfl), by decide +kernel, by decide +kernel, by decide +kernel⟩
set_option maxRecDepth 100000 in
theorem tm_X10_isFull : XMI yX10_isFull cX10_isFull 1 (some FieldType.boolean) 0 := ⟨(AWi 652 (by decide +kernel) rfl), (AWi 58 (by decide +kernel) rfl), by decide +kernel, by decide +kernel, by decide +kernel⟩
set_option maxRecDepth 100000 in
theorem tm_X10_add : XMI yX10_add cX10_add 5 none 4 := ⟨(AWi 656 (by decide +kernel) rfl), (AWi 58 (by decide +kernel) rfl), by decide +kernel, by decide +kernel, by decide +kernel⟩
set_option maxRecDepth 100000 in
theorem tm_X10_many : XMI yX10_many cX10_many 1 (some FieldType.int) 0 := ⟨(AWi 660 (by decide +kernel) rfl), (AWi 58 (by decide +kernel) rfl), by decide +kernel, by decide +kernel, by decide +kernel⟩
set_option maxRecDepth 100000 in
theorem tm_X11_forget : XMI yX11_forget cX11_forget 2 (some FieldType.int) 0 := ⟨(AWi 664 (by decide +kernel) rfl), (AWi 54 (by decide +kernel) rfl), by decide +kernel, by decide +kernel, by decide +kernel⟩
set_option maxRecDepth 100000 in
theorem tm_X11_weeks : XMI yX11_weeks cX11_weeks 7 (some FieldType.int) 3 := ⟨(AWi 669 (by decide +kernel) rfl), (AWi 54 (by decide +kernel) rfl), by decide +kernel, by decide +kernel, by decide +kernel⟩
set_option maxRecDepth 100000 in
theorem tm_X7_copyFrom : XMI yX7_copyFrom cX7_copyFrom 3 none 1 := ⟨(AWi 673 (by decide +kernel) rfl), (AWi 57 (by decide +kernel) rfl), by decide +kernel, by decide +kernel, by decide +kernel⟩
set_option maxRecDepth 100000 in
theorem tm_X10_copyFrom : XMI yX10_copyFrom cX10_copyFrom 3 none 1 := ⟨(AWi 679 (by decide +kernel) rfl), (AWi 58 (by decide +kernel) rfl), by decide +kernel, by decide +kernel, by decide +kernel⟩
set_option maxRecDepth 100000 in
theorem tm_X11_seedAfter : XMI yX11_seedAfter cX11_seedAfter 1 (some FieldType.int) 1 := ⟨(AWi 684 (by decide +kernel) rfl), (AWi 54 (by decide +kernel) rfl), by decide +kernel, by decide +kernel, by decide +kernel⟩
set_option maxRecDepth 100000 in
theorem tm_X11_drawn : XMI yX11_drawn cX11_drawn 2 (some FieldType.int) 2 := ⟨(AWi 690 (by decide +kernel) rfl), (AWi 54 (by decide +kernel) rfl), by decide +kernel, by decide +kernel, by decide +kernel⟩
set_option maxRecDepth 100000 in
theorem tm_X11_comesFor : XMI yX11_comesFor cX11_comesFor 3 none 2 := ⟨(AWi 695 (by decide +kernel) rfl), (AWi 54 (by decide +kernel) rfl), by decide +kernel, by decide +kernel, by decide +kernel⟩
set_option maxRecDepth 100000 in
theorem tm_X7_hanging : XMI yX7_hanging cX7_hanging 3 (some FieldType.int) 0 := ⟨(AWi 699 (by decide +kernel) rfl), (AWi 57 (by decide +kernel) rfl), by decide +kernel, by decide +kernel, by decide +kernel⟩
set_option maxRecDepth 100000 in
theorem tm_X11_paidInAll : XMI yX11_paidInAll cX11_paidInAll 4 (some FieldType.int) 1 := ⟨(AWi 703 (by decide +kernel) rfl), (AWi 54 (by decide +kernel) rfl), by decide +kernel, by decide +kernel, by decide +kernel⟩
set_option maxRecDepth 100000 in
theorem tm_X11_image : XMI yX11_image cX11_image 1 (some FieldType.int) 0 := ⟨(AWi 707 (by decide +kernel) rfl), (AWi 54 (by decide +kernel) rfl), by decide +kernel, by decide +kernel, by decide +kernel⟩
set_option maxRecDepth 100000 in
theorem tm_X11_restore : XMI yX11_restore cX11_restore 1 (some FieldType.int) 0 := ⟨(AWi 711 (by decide +kernel) rfl), (AWi 54 (by decide +kernel) rfl), by decide +kernel, by decide +kernel, by decide +kernel⟩
set_option maxRecDepth 100000 in
theorem tm_X11_count : XMI yX11_count cX11_count 2 (some FieldType.int) 1 := ⟨(AWi 715 (by decide +kernel) rfl), (AWi 54 (by decide +kernel) rfl), by decide +kernel, by decide +kernel, by decide +kernel⟩
set_option maxRecDepth 100000 in
theorem tm_X11_digest : XMI yX11_digest cX11_digest 5 (some FieldType.long) 0 := ⟨(AWi 719 (by decide +kernel) rfl), (AWi 54 (by decide +kernel) rfl), by decide +kernel, by decide +kernel, by decide +kernel⟩
set_option maxRecDepth 100000 in
theorem tm_X11_withMatch : XMI yX11_withMatch cX11_withMatch 6 (some FieldType.long) 1 := ⟨(AWi 727 (by decide +kernel) rfl), (AWi 54 (by decide +kernel) rfl), by decide +kernel, by decide +kernel, by decide +kernel⟩
set_option maxRecDepth 100000 in
theorem tm_X12_init : XMI yX12_init cX12_init 1 none 0 := ⟨(AWi 734 (by decide +kernel) rfl), (AWi 60 (by decide +kernel) rfl), by decide +kernel, by decide +kernel, by decide +kernel⟩
set_option maxRecDepth 100000 in
theorem tm_X12_letter : XMI yX12_letter cX12_letter 2 (some FieldType.int) 1 := ⟨(AWi 861 (by decide +kernel) rfl), (AWi 60 (by decide +kernel) rfl), by decide +kernel, by decide +kernel, by decide +kernel⟩
set_option maxRecDepth 100000 in
theorem tm_X12_within : XMI yX12_within cX12_within 3 (some FieldType.boolean) 3 := ⟨(AWi 864 (by decide +kernel) rfl), (AWi 60 (by decide +kernel) rfl), by decide +kernel, by decide +kernel, by decide +kernel⟩
set_option maxRecDepth 100000 in
theorem tm_X12_blank : XMI yX12_blank cX12_blank 2 (some FieldType.int) 0 := ⟨(AWi 868 (by decide +kernel) rfl), (AWi 60 (by decide +kernel) rfl), by decide +kernel, by decide +kernel, by decide +kernel⟩
set_option maxRecDepth 100000 in
theorem tm_X12_fault : XMI yX12_fault cX12_fault 1 (some FieldType.int) 0 := ⟨(AWi 872 (by decide +kernel) rfl), (AWi 60 (by decide +kernel) rfl), by decide +kernel, by decide +kernel, by decide +kernel⟩
set_option maxRecDepth 100000 in
theorem tm_X12_read : XMI yX12_read cX12_read 3 (some FieldType.int) 0 := ⟨(AWi 876 (by decide +kernel) rfl), (AWi 60 (by decide +kernel) rfl), by decide +kernel, by decide +kernel, by decide +kernel⟩
set_option maxRecDepth 100000 in
theorem tm_X12_readOne : XMI yX12_readOne cX12_readOne 2 (some FieldType.int) 1 := ⟨(AWi 880 (by decide +kernel) rfl), (AWi 60 (by decide +kernel) rfl), by decide +kernel, by decide +kernel, by decide +kernel⟩
set_option maxRecDepth 100000 in
theorem tm_X12_kindBy : XMI yX12_kindBy cX12_kindBy 1 (some FieldType.int) 1 := ⟨(AWi 883 (by decide +kernel) rfl), (AWi 60 (by decide +kernel) rfl), by decide +kernel, by decide +kernel, by decide +kernel⟩
set_option maxRecDepth 100000 in
theorem tm_X12_isFigure : XMI yX12_isFigure cX12_isFigure 4 (some FieldType.boolean) 3 := ⟨(AWi 887 (by decide +kernel) rfl), (AWi 60 (by decide +kernel) rfl), by decide +kernel, by decide +kernel, by decide +kernel⟩
set_option maxRecDepth 100000 in
theorem tm_X12_readCrimes : XMI yX12_readCrimes cX12_readCrimes 3 (some FieldType.int) 1 := ⟨(AWi 891 (by decide +kernel) rfl), (AWi 60 (by decide +kernel) rfl), by decide +kernel, by decide +kernel, by decide +kernel⟩
set_option maxRecDepth 100000 in
theorem tm_X12_station : XMI yX12_station cX12_station 4 (some FieldType.int) 0 := ⟨(AWi 895 (by decide +kernel) rfl), (AWi 60 (by decide +kernel) rfl), by decide +kernel, by decide +kernel, by decide +kernel⟩
set_option maxRecDepth 100000 in
theorem tm_X12_about : XMI yX12_about cX12_about 3 (some FieldType.int) 2 := ⟨(AWi 899 (by decide +kernel) rfl), (AWi 60 (by decide +kernel) rfl), by decide +kernel, by decide +kernel, by decide +kernel⟩
set_option maxRecDepth 100000 in
theorem tm_X12_isOne : XMI yX12_isOne cX12_isOne 2 (some FieldType.boolean) 1 := ⟨(AWi 903 (by decide +kernel) rfl), (AWi 60 (by decide +kernel) rfl), by decide +kernel, by decide +kernel, by decide +kernel⟩
set_option maxRecDepth 100000 in
theorem tm_X12_oneNow : XMI yX12_oneNow cX12_oneNow 3 (some FieldType.int) 2 := ⟨(AWi 907 (by decide +kernel) rfl), (AWi 60 (by decide +kernel) rfl), by decide +kernel, by decide +kernel, by decide +kernel⟩
set_option maxRecDepth 100000 in
theorem tm_X12_bears : XMI yX12_bears cX12_bears 2 (some FieldType.int) 1 := ⟨(AWi 911 (by decide +kernel) rfl), (AWi 60 (by decide +kernel) rfl), by decide +kernel, by decide +kernel, by decide +kernel⟩
set_option maxRecDepth 100000 in
theorem tm_X12_paid : XMI yX12_paid cX12_paid 2 (some FieldType.int) 1 := ⟨(AWi 915 (by decide +kernel) rfl), (AWi 60 (by decide +kernel) rfl), by decide +kernel, by decide +kernel, by decide +kernel⟩
set_option maxRecDepth 100000 in
theorem tm_X12_fitting : XMI yX12_fitting cX12_fitting 4 (some FieldType.int) 1 := ⟨(AWi 919 (by decide +kernel) rfl), (AWi 60 (by decide +kernel) rfl), by decide +kernel, by decide +kernel, by decide +kernel⟩
set_option maxRecDepth 100000 in
theorem tm_X12_fits : XMI yX12_fits cX12_fits 3 (some FieldType.boolean) 2 := ⟨(AWi 923 (by decide +kernel) rfl), (AWi 60 (by decide +kernel) rfl), by decide +kernel, by decide +kernel, by decide +kernel⟩
set_option maxRecDepth 100000 in
theorem tm_X12_fitsBy : XMI yX12_fitsBy cX12_fitsBy 6 (some FieldType.boolean) 4 := ⟨(AWi 927 (by decide +kernel) rfl), (AWi 60 (by decide +kernel) rfl), by decide +kernel, by decide +kernel, by decide +kernel⟩
set_option maxRecDepth 100000 in
theorem tm_X12_counts : XMI yX12_counts cX12_counts 3 (some FieldType.int) 2 := ⟨(AWi 931 (by decide +kernel) rfl), (AWi 60 (by decide +kernel) rfl), by decide +kernel, by decide +kernel, by decide +kernel⟩
set_option maxRecDepth 100000 in
theorem tm_X12_isHand : XMI yX12_isHand cX12_isHand 3 (some FieldType.boolean) 2 := ⟨(AWi 935 (by decide +kernel) rfl), (AWi 60 (by decide +kernel) rfl), by decide +kernel, by decide +kernel, by decide +kernel⟩
set_option maxRecDepth 100000 in
theorem tm_X12_howLarge : XMI yX12_howLarge cX12_howLarge 4 (some FieldType.int) 1 := ⟨(AWi 939 (by decide +kernel) rfl), (AWi 60 (by decide +kernel) rfl), by decide +kernel, by decide +kernel, by decide +kernel⟩
set_option maxRecDepth 100000 in
theorem tm_X12_couldBe : XMI yX12_couldBe cX12_couldBe 5 (some FieldType.boolean) 2 := ⟨(AWi 943 (by decide +kernel) rfl), (AWi 60 (by decide +kernel) rfl), by decide +kernel, by decide +kernel, by decide +kernel⟩
set_option maxRecDepth 100000 in
theorem tm_X12_nextOf : XMI yX12_nextOf cX12_nextOf 9 (some FieldType.int) 1 := ⟨(AWi 947 (by decide +kernel) rfl), (AWi 60 (by decide +kernel) rfl), by decide +kernel, by decide +kernel, by decide +kernel⟩
set_option maxRecDepth 100000 in
theorem tm_X12_isIn : XMI yX12_isIn cX12_isIn 2 (some FieldType.boolean) 2 := ⟨(AWi 951 (by decide +kernel) rfl), (AWi 60 (by decide +kernel) rfl), by decide +kernel, by decide +kernel, by decide +kernel⟩
set_option maxRecDepth 100000 in
theorem tm_X12_as : XMI yX12_as cX12_as 4 (some FieldType.int) 2 := ⟨(AWi 955 (by decide +kernel) rfl), (AWi 60 (by decide +kernel) rfl), by decide +kernel, by decide +kernel, by decide +kernel⟩
set_option maxRecDepth 100000 in
theorem tm_X12_crime : XMI yX12_crime cX12_crime 3 (some FieldType.int) 2 := ⟨(AWi 959 (by decide +kernel) rfl), (AWi 60 (by decide +kernel) rfl), by decide +kernel, by decide +kernel, by decide +kernel⟩
set_option maxRecDepth 100000 in
theorem tm_X12_isCrime : XMI yX12_isCrime cX12_isCrime 2 (some FieldType.boolean) 1 := ⟨(AWi 963 (by decide +kernel) rfl), (AWi 60 (by decide +kernel) rfl), by decide +kernel, by decide +kernel, by decide +kernel⟩
set_option maxRecDepth 100000 in
theorem tm_X12_crimeNow : XMI yX12_crimeNow cX12_crimeNow 3 (some FieldType.int) 2 := ⟨(AWi 967 (by decide +kernel) rfl), (AWi 60 (by decide +kernel) rfl), by decide +kernel, by decide +kernel, by decide +kernel⟩
set_option maxRecDepth 100000 in
theorem tm_X12_hangsOn : XMI yX12_hangsOn cX12_hangsOn 4 (some FieldType.int) 1 := ⟨(AWi 971 (by decide +kernel) rfl), (AWi 60 (by decide +kernel) rfl), by decide +kernel, by decide +kernel, by decide +kernel⟩
set_option maxRecDepth 100000 in
theorem tm_X12_fitted : XMI yX12_fitted cX12_fitted 4 (some FieldType.int) 1 := ⟨(AWi 975 (by decide +kernel) rfl), (AWi 60 (by decide +kernel) rfl), by decide +kernel, by decide +kernel, by decide +kernel⟩
set_option maxRecDepth 100000 in
theorem tm_X12_halvesOf : XMI yX12_halvesOf cX12_halvesOf 7 (some FieldType.int) 1 := ⟨(AWi 979 (by decide +kernel) rfl), (AWi 60 (by decide +kernel) rfl), by decide +kernel, by decide +kernel, by decide +kernel⟩
set_option maxRecDepth 100000 in
theorem tm_X12_confess : XMI yX12_confess cX12_confess 3 (some FieldType.int) 2 := ⟨(AWi 983 (by decide +kernel) rfl), (AWi 60 (by decide +kernel) rfl), by decide +kernel, by decide +kernel, by decide +kernel⟩
set_option maxRecDepth 100000 in
theorem tm_X12_isFree : XMI yX12_isFree cX12_isFree 2 (some FieldType.boolean) 1 := ⟨(AWi 987 (by decide +kernel) rfl), (AWi 60 (by decide +kernel) rfl), by decide +kernel, by decide +kernel, by decide +kernel⟩
set_option maxRecDepth 100000 in
theorem tm_X12_recant : XMI yX12_recant cX12_recant 3 (some FieldType.int) 1 := ⟨(AWi 991 (by decide +kernel) rfl), (AWi 60 (by decide +kernel) rfl), by decide +kernel, by decide +kernel, by decide +kernel⟩
set_option maxRecDepth 100000 in
theorem tm_X12_alter : XMI yX12_alter cX12_alter 4 (some FieldType.int) 2 := ⟨(AWi 995 (by decide +kernel) rfl), (AWi 60 (by decide +kernel) rfl), by decide +kernel, by decide +kernel, by decide +kernel⟩
set_option maxRecDepth 100000 in
theorem tm_X12_match : XMI yX12_match cX12_match 2 (some FieldType.int) 1 := ⟨(AWi 999 (by decide +kernel) rfl), (AWi 60 (by decide +kernel) rfl), by decide +kernel, by decide +kernel, by decide +kernel⟩
set_option maxRecDepth 100000 in
theorem tm_X12_matchNow : XMI yX12_matchNow cX12_matchNow 7 (some FieldType.int) 1 := ⟨(AWi 1003 (by decide +kernel) rfl), (AWi 60 (by decide +kernel) rfl), by decide +kernel, by decide +kernel, by decide +kernel⟩
set_option maxRecDepth 100000 in
theorem tm_X12_codes : XMI yX12_codes cX12_codes 3 (some FieldType.int) 0 := ⟨(AWi 1007 (by decide +kernel) rfl), (AWi 60 (by decide +kernel) rfl), by decide +kernel, by decide +kernel, by decide +kernel⟩
set_option maxRecDepth 100000 in
theorem tm_X12_isMatch : XMI yX12_isMatch cX12_isMatch 6 (some FieldType.boolean) 1 := ⟨(AWi 1011 (by decide +kernel) rfl), (AWi 60 (by decide +kernel) rfl), by decide +kernel, by decide +kernel, by decide +kernel⟩
set_option maxRecDepth 100000 in
theorem tm_X12_hasBy : XMI yX12_hasBy cX12_hasBy 5 (some FieldType.int) 2 := ⟨(AWi 1015 (by decide +kernel) rfl), (AWi 60 (by decide +kernel) rfl), by decide +kernel, by decide +kernel, by decide +kernel⟩
set_option maxRecDepth 100000 in
theorem tm_X12_stitches : XMI yX12_stitches cX12_stitches 1 (some FieldType.int) 0 := ⟨(AWi 1019 (by decide +kernel) rfl), (AWi 60 (by decide +kernel) rfl), by decide +kernel, by decide +kernel, by decide +kernel⟩
set_option maxRecDepth 100000 in
theorem tm_X12_stitchesNow : XMI yX12_stitchesNow cX12_stitchesNow 6 (some FieldType.int) 0 := ⟨(AWi 1023 (by decide +kernel) rfl), (AWi 60 (by decide +kernel) rfl), by decide +kernel, by decide +kernel, by decide +kernel⟩
set_option maxRecDepth 100000 in
theorem tm_X12_freeCrimes : XMI yX12_freeCrimes cX12_freeCrimes 3 (some FieldType.int) 0 := ⟨(AWi 1027 (by decide +kernel) rfl), (AWi 60 (by decide +kernel) rfl), by decide +kernel, by decide +kernel, by decide +kernel⟩
set_option maxRecDepth 100000 in
theorem tm_X12_alterBy : XMI yX12_alterBy cX12_alterBy 7 (some FieldType.int) 1 := ⟨(AWi 1031 (by decide +kernel) rfl), (AWi 60 (by decide +kernel) rfl), by decide +kernel, by decide +kernel, by decide +kernel⟩
set_option maxRecDepth 100000 in
theorem tm_X12_tried : XMI yX12_tried cX12_tried 4 (some FieldType.int) 3 := ⟨(AWi 1035 (by decide +kernel) rfl), (AWi 60 (by decide +kernel) rfl), by decide +kernel, by decide +kernel, by decide +kernel⟩
set_option maxRecDepth 100000 in
theorem tm_X12_forget : XMI yX12_forget cX12_forget 2 (some FieldType.int) 0 := ⟨(AWi 1039 (by decide +kernel) rfl), (AWi 60 (by decide +kernel) rfl), by decide +kernel, by decide +kernel, by decide +kernel⟩
set_option maxRecDepth 100000 in
theorem tm_X12_weeks : XMI yX12_weeks cX12_weeks 4 (some FieldType.int) 3 := ⟨(AWi 1043 (by decide +kernel) rfl), (AWi 60 (by decide +kernel) rfl), by decide +kernel, by decide +kernel, by decide +kernel⟩
set_option maxRecDepth 100000 in
theorem tm_X12_weeksNow : XMI yX12_weeksNow cX12_weeksNow 7 (some FieldType.int) 3 := ⟨(AWi 1047 (by decide +kernel) rfl), (AWi 60 (by decide +kernel) rfl), by decide +kernel, by decide +kernel, by decide +kernel⟩
set_option maxRecDepth 100000 in
theorem tm_X12_draw : XMI yX12_draw cX12_draw 2 (some FieldType.int) 1 := ⟨(AWi 1051 (by decide +kernel) rfl), (AWi 60 (by decide +kernel) rfl), by decide +kernel, by decide +kernel, by decide +kernel⟩
set_option maxRecDepth 100000 in
theorem tm_X12_paidAll : XMI yX12_paidAll cX12_paidAll 3 (some FieldType.int) 0 := ⟨(AWi 1059 (by decide +kernel) rfl), (AWi 60 (by decide +kernel) rfl), by decide +kernel, by decide +kernel, by decide +kernel⟩
set_option maxRecDepth 100000 in
theorem tm_X12_image : XMI yX12_image cX12_image 2 (some FieldType.int) 0 := ⟨(AWi 1063 (by decide +kernel) rfl), (AWi 60 (by decide +kernel) rfl), by decide +kernel, by decide +kernel, by decide +kernel⟩
set_option maxRecDepth 100000 in
theorem tm_X12_restore : XMI yX12_restore cX12_restore 2 (some FieldType.int) 0 := ⟨(AWi 1067 (by decide +kernel) rfl), (AWi 60 (by decide +kernel) rfl), by decide +kernel, by decide +kernel, by decide +kernel⟩
set_option maxRecDepth 100000 in
theorem tm_X12_count : XMI yX12_count cX12_count 2 (some FieldType.int) 1 := ⟨(AWi 1071 (by decide +kernel) rfl), (AWi 60 (by decide +kernel) rfl), by decide +kernel, by decide +kernel, by decide +kernel⟩
set_option maxRecDepth 100000 in
theorem tm_X12_howMany : XMI yX12_howMany cX12_howMany 2 (some FieldType.int) 1 := ⟨(AWi 1075 (by decide +kernel) rfl), (AWi 60 (by decide +kernel) rfl), by decide +kernel, by decide +kernel, by decide +kernel⟩
set_option maxRecDepth 100000 in
theorem tm_X12_digest : XMI yX12_digest cX12_digest 3 (some FieldType.long) 0 := ⟨(AWi 1079 (by decide +kernel) rfl), (AWi 60 (by decide +kernel) rfl), by decide +kernel, by decide +kernel, by decide +kernel⟩
set_option maxRecDepth 100000 in
theorem tm_X12_mix : XMI yX12_mix cX12_mix 3 none 1 := ⟨(AWi 1084 (by decide +kernel) rfl), (AWi 60 (by decide +kernel) rfl), by decide +kernel, by decide +kernel, by decide +kernel⟩
set_option maxRecDepth 100000 in
theorem t_obj : Cond.instanceMethod objectInit ∈ AW ∧ Cond.code objectInit ⟨#[0xb1]⟩ 1 none ∈ AW := ⟨(AWi 75 (by decide +kernel) rfl), (AWi 76 (by decide +kernel) rfl)⟩
set_option maxRecDepth 100000 in
theorem tc_L_9 : XCi RL 9 yX11_init := ⟨rfl, (AWi 72 (by decide +kernel) rfl), Or.inl (AWi 71 (by decide +kernel) rfl)⟩
set_option maxRecDepth 100000 in
theorem tc_L_12 : XCi RL 12 yX12_init := ⟨rfl, (AWi 733 (by decide +kernel) rfl), Or.inl (AWi 732 (by decide +kernel) rfl)⟩
set_option maxRecDepth 100000 in
theorem tc_L_13_11 : XCv RL 13 11 yX11_letter := ⟨RX11, TX11, 9, rfl, (AWi 221 (by decide +kernel) rfl), Or.inl ⟨rfl, (AWi 220 (by decide +kernel) rfl), (AWi 222 (by decide +kernel) rfl)⟩⟩
set_option maxRecDepth 100000 in
theorem tc_L_17_12 : XCv RL 17 12 yX12_letter := ⟨RX12, TX12, 40, rfl, (AWi 859 (by decide +kernel) rfl), Or.inl ⟨rfl, (AWi 858 (by decide +kernel) rfl), (AWi 860 (by decide +kernel) rfl)⟩⟩
set_option maxRecDepth 100000 in
theorem tc_L_18_11 : XCv RL 18 11 yX11_blank := ⟨RX11, TX11, 9, rfl, (AWi 237 (by decide +kernel) rfl), Or.inl ⟨rfl, (AWi 236 (by decide +kernel) rfl), (AWi 238 (by decide +kernel) rfl)⟩⟩
set_option maxRecDepth 100000 in
theorem tc_L_22_12 : XCv RL 22 12 yX12_blank := ⟨RX12, TX12, 40, rfl, (AWi 866 (by decide +kernel) rfl), Or.inl ⟨rfl, (AWi 865 (by decide +kernel) rfl), (AWi 867 (by decide +kernel) rfl)⟩⟩
set_option maxRecDepth 100000 in
theorem tc_L_23_11 : XCv RL 23 11 yX11_fault := ⟨RX11, TX11, 9, rfl, (AWi 245 (by decide +kernel) rfl), Or.inl ⟨rfl, (AWi 244 (by decide +kernel) rfl), (AWi 246 (by decide +kernel) rfl)⟩⟩
set_option maxRecDepth 100000 in
theorem tc_L_26_12 : XCv RL 26 12 yX12_fault := ⟨RX12, TX12, 40, rfl, (AWi 870 (by decide +kernel) rfl), Or.inl ⟨rfl, (AWi 869 (by decide +kernel) rfl), (AWi 871 (by decide +kernel) rfl)⟩⟩
set_option maxRecDepth 100000 in
theorem tc_L_27_11 : XCv RL 27 11 yX11_station := ⟨RX11, TX11, 9, rfl, (AWi 273 (by decide +kernel) rfl), Or.inl ⟨rfl, (AWi 272 (by decide +kernel) rfl), (AWi 274 (by decide +kernel) rfl)⟩⟩
set_option maxRecDepth 100000 in
theorem tc_L_30_12 : XCv RL 30 12 yX12_station := ⟨RX12, TX12, 40, rfl, (AWi 893 (by decide +kernel) rfl), Or.inl ⟨rfl, (AWi 892 (by decide +kernel) rfl), (AWi 894 (by decide +kernel) rfl)⟩⟩
set_option maxRecDepth 100000 in
theorem tc_L_31_11 : XCv RL 31 11 yX11_about := ⟨RX11, TX11, 9, rfl, (AWi 386 (by decide +kernel) rfl), Or.inl ⟨rfl, (AWi 385 (by decide +kernel) rfl), (AWi 387 (by decide +kernel) rfl)⟩⟩
set_option maxRecDepth 100000 in
theorem tc_L_35_12 : XCv RL 35 12 yX12_about := ⟨RX12, TX12, 40, rfl, (AWi 897 (by decide +kernel) rfl), Or.inl ⟨rfl, (AWi 896 (by decide +kernel) rfl), (AWi 898 (by decide +kernel) rfl)⟩⟩
set_option maxRecDepth 100000 in
theorem tc_L_36_11 : XCv RL 36 11 yX11_as := ⟨RX11, TX11, 9, rfl, (AWi 509 (by decide +kernel) rfl), Or.inl ⟨rfl, (AWi 508 (by decide +kernel) rfl), (AWi 510 (by decide +kernel) rfl)⟩⟩
set_option maxRecDepth 100000 in
theorem tc_L_39_12 : XCv RL 39 12 yX12_as := ⟨RX12, TX12, 40, rfl, (AWi 953 (by decide +kernel) rfl), Or.inl ⟨rfl, (AWi 952 (by decide +kernel) rfl), (AWi 954 (by decide +kernel) rfl)⟩⟩
set_option maxRecDepth 100000 in
theorem tc_L_40_11 : XCv RL 40 11 yX11_crime := ⟨RX11, TX11, 9, rfl, (AWi 520 (by decide +kernel) rfl), Or.inl ⟨rfl, (AWi 519 (by decide +kernel) rfl), (AWi 521 (by decide +kernel) rfl)⟩⟩
set_option maxRecDepth 100000 in
theorem tc_L_43_12 : XCv RL 43 12 yX12_crime := ⟨RX12, TX12, 40, rfl, (AWi 957 (by decide +kernel) rfl), Or.inl ⟨rfl, (AWi 956 (by decide +kernel) rfl), (AWi 958 (by decide +kernel) rfl)⟩⟩
set_option maxRecDepth 100000 in
theorem tc_L_44_11 : XCv RL 44 11 yX11_confess := ⟨RX11, TX11, 9, rfl, (AWi 546 (by decide +kernel) rfl), Or.inl ⟨rfl, (AWi 545 (by decide +kernel) rfl), (AWi 547 (by decide +kernel) rfl)⟩⟩
set_option maxRecDepth 100000 in
theorem tc_L_47_12 : XCv RL 47 12 yX12_confess := ⟨RX12, TX12, 40, rfl, (AWi 981 (by decide +kernel) rfl), Or.inl ⟨rfl, (AWi 980 (by decide +kernel) rfl), (AWi 982 (by decide +kernel) rfl)⟩⟩
set_option maxRecDepth 100000 in
theorem tc_L_48_11 : XCv RL 48 11 yX11_recant := ⟨RX11, TX11, 9, rfl, (AWi 573 (by decide +kernel) rfl), Or.inl ⟨rfl, (AWi 572 (by decide +kernel) rfl), (AWi 574 (by decide +kernel) rfl)⟩⟩
set_option maxRecDepth 100000 in
theorem tc_L_51_12 : XCv RL 51 12 yX12_recant := ⟨RX12, TX12, 40, rfl, (AWi 989 (by decide +kernel) rfl), Or.inl ⟨rfl, (AWi 988 (by decide +kernel) rfl), (AWi 990 (by decide +kernel) rfl)⟩⟩
set_option maxRecDepth 100000 in
theorem tc_L_52_11 : XCv RL 52 11 yX11_alter := ⟨RX11, TX11, 9, rfl, (AWi 577 (by decide +kernel) rfl), Or.inl ⟨rfl, (AWi 576 (by decide +kernel) rfl), (AWi 578 (by decide +kernel) rfl)⟩⟩
set_option maxRecDepth 100000 in
theorem tc_L_56_12 : XCv RL 56 12 yX12_alter := ⟨RX12, TX12, 40, rfl, (AWi 993 (by decide +kernel) rfl), Or.inl ⟨rfl, (AWi 992 (by decide +kernel) rfl), (AWi 994 (by decide +kernel) rfl)⟩⟩
set_option maxRecDepth 100000 in
theorem tc_L_57_11 : XCv RL 57 11 yX11_match := ⟨RX11, TX11, 9, rfl, (AWi 588 (by decide +kernel) rfl), Or.inl ⟨rfl, (AWi 587 (by decide +kernel) rfl), (AWi 589 (by decide +kernel) rfl)⟩⟩
set_option maxRecDepth 100000 in
theorem tc_L_60_12 : XCv RL 60 12 yX12_match := ⟨RX12, TX12, 40, rfl, (AWi 997 (by decide +kernel) rfl), Or.inl ⟨rfl, (AWi 996 (by decide +kernel) rfl), (AWi 998 (by decide +kernel) rfl)⟩⟩
set_option maxRecDepth 100000 in
theorem tc_L_61_11 : XCv RL 61 11 yX11_stitches := ⟨RX11, TX11, 9, rfl, (AWi 635 (by decide +kernel) rfl), Or.inl ⟨rfl, (AWi 634 (by decide +kernel) rfl), (AWi 636 (by decide +kernel) rfl)⟩⟩
set_option maxRecDepth 100000 in
theorem tc_L_64_12 : XCv RL 64 12 yX12_stitches := ⟨RX12, TX12, 40, rfl, (AWi 1017 (by decide +kernel) rfl), Or.inl ⟨rfl, (AWi 1016 (by decide +kernel) rfl), (AWi 1018 (by decide +kernel) rfl)⟩⟩
set_option maxRecDepth 100000 in
theorem tc_L_65_11 : XCv RL 65 11 yX11_tried := ⟨RX11, TX11, 9, rfl, (AWi 646 (by decide +kernel) rfl), Or.inl ⟨rfl, (AWi 645 (by decide +kernel) rfl), (AWi 647 (by decide +kernel) rfl)⟩⟩
set_option maxRecDepth 100000 in
theorem tc_L_69_12 : XCv RL 69 12 yX12_tried := ⟨RX12, TX12, 40, rfl, (AWi 1033 (by decide +kernel) rfl), Or.inl ⟨rfl, (AWi 1032 (by decide +kernel) rfl), (AWi 1034 (by decide +kernel) rfl)⟩⟩
set_option maxRecDepth 100000 in
theorem tc_L_70_11 : XCv RL 70 11 yX11_forget := ⟨RX11, TX11, 9, rfl, (AWi 662 (by decide +kernel) rfl), Or.inl ⟨rfl, (AWi 661 (by decide +kernel) rfl), (AWi 663 (by decide +kernel) rfl)⟩⟩
set_option maxRecDepth 100000 in
theorem tc_L_73_12 : XCv RL 73 12 yX12_forget := ⟨RX12, TX12, 40, rfl, (AWi 1037 (by decide +kernel) rfl), Or.inl ⟨rfl, (AWi 1036 (by decide +kernel) rfl), (AWi 1038 (by decide +kernel) rfl)⟩⟩
set_option maxRecDepth 100000 in
theorem tc_L_74_11 : XCv RL 74 11 yX11_weeks := ⟨RX11, TX11, 9, rfl, (AWi 667 (by decide +kernel) rfl), Or.inl ⟨rfl, (AWi 666 (by decide +kernel) rfl), (AWi 668 (by decide +kernel) rfl)⟩⟩
set_option maxRecDepth 100000 in
theorem tc_L_78_12 : XCv RL 78 12 yX12_weeks := ⟨RX12, TX12, 40, rfl, (AWi 1041 (by decide +kernel) rfl), Or.inl ⟨rfl, (AWi 1040 (by decide +kernel) rfl), (AWi 1042 (by decide +kernel) rfl)⟩⟩
set_option maxRecDepth 100000 in
theorem tc_L_79_11 : XCv RL 79 11 yX11_image := ⟨RX11, TX11, 9, rfl, (AWi 705 (by decide +kernel) rfl), Or.inl ⟨rfl, (AWi 704 (by decide +kernel) rfl), (AWi 706 (by decide +kernel) rfl)⟩⟩
set_option maxRecDepth 100000 in
theorem tc_L_82_12 : XCv RL 82 12 yX12_image := ⟨RX12, TX12, 40, rfl, (AWi 1061 (by decide +kernel) rfl), Or.inl ⟨rfl, (AWi 1060 (by decide +kernel) rfl), (AWi 1062 (by decide +kernel) rfl)⟩⟩
set_option maxRecDepth 100000 in
theorem tc_L_83_11 : XCv RL 83 11 yX11_restore := ⟨RX11, TX11, 9, rfl, (AWi 709 (by decide +kernel) rfl), Or.inl ⟨rfl, (AWi 708 (by decide +kernel) rfl), (AWi 710 (by decide +kernel) rfl)⟩⟩
set_option maxRecDepth 100000 in
theorem tc_L_86_12 : XCv RL 86 12 yX12_restore := ⟨RX12, TX12, 40, rfl, (AWi 1065 (by decide +kernel) rfl), Or.inl ⟨rfl, (AWi 1064 (by decide +kernel) rfl), (AWi 1066 (by decide +kernel) rfl)⟩⟩
set_option maxRecDepth 100000 in
theorem tc_L_87_11 : XCv RL 87 11 yX11_count := ⟨RX11, TX11, 9, rfl, (AWi 713 (by decide +kernel) rfl), Or.inl ⟨rfl, (AWi 712 (by decide +kernel) rfl), (AWi 714 (by decide +kernel) rfl)⟩⟩
set_option maxRecDepth 100000 in
theorem tc_L_90_12 : XCv RL 90 12 yX12_count := ⟨RX12, TX12, 40, rfl, (AWi 1069 (by decide +kernel) rfl), Or.inl ⟨rfl, (AWi 1068 (by decide +kernel) rfl), (AWi 1070 (by decide +kernel) rfl)⟩⟩
set_option maxRecDepth 100000 in
theorem tc_L_91_11 : XCv RL 91 11 yX11_digest := ⟨RX11, TX11, 9, rfl, (AWi 717 (by decide +kernel) rfl), Or.inl ⟨rfl, (AWi 716 (by decide +kernel) rfl), (AWi 718 (by decide +kernel) rfl)⟩⟩
set_option maxRecDepth 100000 in
theorem tc_L_95_12 : XCv RL 95 12 yX12_digest := ⟨RX12, TX12, 40, rfl, (AWi 1077 (by decide +kernel) rfl), Or.inl ⟨rfl, (AWi 1076 (by decide +kernel) rfl), (AWi 1078 (by decide +kernel) rfl)⟩⟩
set_option maxRecDepth 100000 in
theorem tc_X0_3 : XCi RX0 3 yX3_init := ⟨rfl, (AWi 303 (by decide +kernel) rfl), Or.inl (AWi 320 (by decide +kernel) rfl)⟩
set_option maxRecDepth 100000 in
theorem tc_X1_1 : Cond.methodLink RX1 1 objectInit ∈ AW ∧ Cond.instanceMethod objectInit ∈ AW ∧ Cond.code objectInit ⟨#[0xb1]⟩ 1 none ∈ AW := ⟨(AWi 355 (by decide +kernel) rfl), t_obj⟩
set_option maxRecDepth 100000 in
theorem tc_X10_3 : Cond.methodLink RX10 3 objectInit ∈ AW ∧ Cond.instanceMethod objectInit ∈ AW ∧ Cond.code objectInit ⟨#[0xb1]⟩ 1 none ∈ AW := ⟨(AWi 125 (by decide +kernel) rfl), t_obj⟩
set_option maxRecDepth 100000 in
theorem tc_X10_29_10 : XCv RX10 29 10 yX10_clear := ⟨RX10, TX10, 5, rfl, (AWi 378 (by decide +kernel) rfl), Or.inl ⟨rfl, (AWi 680 (by decide +kernel) rfl), (AWi 379 (by decide +kernel) rfl)⟩⟩
set_option maxRecDepth 100000 in
theorem tc_X10_32_10 : XCv RX10 32 10 yX10_add := ⟨RX10, TX10, 5, rfl, (AWi 654 (by decide +kernel) rfl), Or.inl ⟨rfl, (AWi 681 (by decide +kernel) rfl), (AWi 655 (by decide +kernel) rfl)⟩⟩
set_option maxRecDepth 100000 in
theorem tc_X10_36_0 : XCv RX10 36 0 yX3_wouldFit := ⟨RX0, TX0, 2, rfl, (AWi 445 (by decide +kernel) rfl), Or.inr (Or.inl ⟨yX3_wouldFit, "ConfessBySize$Man", rfl, (AWi 487 (by decide +kernel) rfl), (AWi 447 (by decide +kernel) rfl), (AWi 448 (by decide +kernel) rfl), by decide +kernel, by decide +kernel, rfl⟩)⟩
set_option maxRecDepth 100000 in
theorem tc_X10_36_2 : XCv RX10 36 2 yX3_wouldFit := ⟨RX2, TX2, 2, rfl, (AWi 445 (by decide +kernel) rfl), Or.inr (Or.inl ⟨yX3_wouldFit, "ConfessBySize$Man", rfl, (AWi 487 (by decide +kernel) rfl), (AWi 447 (by decide +kernel) rfl), (AWi 449 (by decide +kernel) rfl), by decide +kernel, by decide +kernel, rfl⟩)⟩
set_option maxRecDepth 100000 in
theorem tc_X10_36_3 : XCv RX10 36 3 yX3_wouldFit := ⟨RX3, TX3, 2, rfl, (AWi 445 (by decide +kernel) rfl), Or.inl ⟨rfl, (AWi 487 (by decide +kernel) rfl), (AWi 446 (by decide +kernel) rfl)⟩⟩
set_option maxRecDepth 100000 in
theorem tc_X10_36_8 : XCv RX10 36 8 yX3_wouldFit := ⟨RX8, TX8, 2, rfl, (AWi 445 (by decide +kernel) rfl), Or.inr (Or.inl ⟨yX3_wouldFit, "ConfessBySize$Man", rfl, (AWi 487 (by decide +kernel) rfl), (AWi 447 (by decide +kernel) rfl), (AWi 450 (by decide +kernel) rfl), by decide +kernel, by decide +kernel, rfl⟩)⟩
set_option maxRecDepth 100000 in
theorem tc_X10_36_9 : XCv RX10 36 9 yX3_wouldFit := ⟨RX9, TX9, 2, rfl, (AWi 445 (by decide +kernel) rfl), Or.inr (Or.inl ⟨yX3_wouldFit, "ConfessBySize$Man", rfl, (AWi 487 (by decide +kernel) rfl), (AWi 447 (by decide +kernel) rfl), (AWi 451 (by decide +kernel) rfl), by decide +kernel, by decide +kernel, rfl⟩)⟩
set_option maxRecDepth 100000 in
theorem tc_X11_1 : Cond.methodLink RX11 1 objectInit ∈ AW ∧ Cond.instanceMethod objectInit ∈ AW ∧ Cond.code objectInit ⟨#[0xb1]⟩ 1 none ∈ AW := ⟨(AWi 74 (by decide +kernel) rfl), t_obj⟩
set_option maxRecDepth 100000 in
theorem tc_X11_9 : XCi RX11 9 yX5_init := ⟨rfl, (AWi 80 (by decide +kernel) rfl), Or.inr ⟨"ConfessBySize", by decide +kernel⟩⟩
set_option maxRecDepth 100000 in
theorem tc_X11_18 : XCi RX11 18 yX6_init := ⟨rfl, (AWi 94 (by decide +kernel) rfl), Or.inr ⟨"ConfessBySize", by decide +kernel⟩⟩
set_option maxRecDepth 100000 in
theorem tc_X11_25 : XCi RX11 25 yX7_init := ⟨rfl, (AWi 117 (by decide +kernel) rfl), Or.inl (AWi 116 (by decide +kernel) rfl)⟩
set_option maxRecDepth 100000 in
theorem tc_X11_38 : XCi RX11 38 yX4_init := ⟨rfl, (AWi 165 (by decide +kernel) rfl), Or.inr ⟨"ConfessBySize", by decide +kernel⟩⟩
set_option maxRecDepth 100000 in
theorem tc_X11_118 : XCs RX11 118 yX11_isOfKind := ⟨(AWi 512 (by decide +kernel) rfl), (AWi 513 (by decide +kernel) rfl)⟩
set_option maxRecDepth 100000 in
theorem tc_X11_155 : XCs RX11 155 yX11_isSize := ⟨(AWi 580 (by decide +kernel) rfl), (AWi 581 (by decide +kernel) rfl)⟩
set_option maxRecDepth 100000 in
theorem tc_X11_165 : XCs RX11 165 yX11_isOfMatch := ⟨(AWi 591 (by decide +kernel) rfl), (AWi 592 (by decide +kernel) rfl)⟩
set_option maxRecDepth 100000 in
theorem tc_X11_180 : XCs RX11 180 yX11_fewestStitches := ⟨(AWi 638 (by decide +kernel) rfl), (AWi 639 (by decide +kernel) rfl)⟩
set_option maxRecDepth 100000 in
theorem tc_X11_202 : XCs RX11 202 yX11_seedAfter := ⟨(AWi 682 (by decide +kernel) rfl), (AWi 683 (by decide +kernel) rfl)⟩
set_option maxRecDepth 100000 in
theorem tc_X11_208 : XCs RX11 208 yX11_drawn := ⟨(AWi 688 (by decide +kernel) rfl), (AWi 689 (by decide +kernel) rfl)⟩
set_option maxRecDepth 100000 in
theorem tc_X11_298 : XCs RX11 298 yX11_bitOfSize := ⟨(AWi 488 (by decide +kernel) rfl), (AWi 489 (by decide +kernel) rfl)⟩
set_option maxRecDepth 100000 in
theorem tc_X11_305 : XCs RX11 305 yJ6_bitCount_0f7a4 := ⟨(AWi 499 (by decide +kernel) rfl), (AWi 500 (by decide +kernel) rfl)⟩
set_option maxRecDepth 100000 in
theorem tc_X11_310 : XCs RX11 310 yJ9_max_7cf53 := ⟨(AWi 505 (by decide +kernel) rfl), (AWi 506 (by decide +kernel) rfl)⟩
set_option maxRecDepth 100000 in
theorem tc_X11_43_5 : XCv RX11 43 5 yX5_isFull := ⟨RX5, TX5, 2, rfl, (AWi 225 (by decide +kernel) rfl), Or.inl ⟨rfl, (AWi 224 (by decide +kernel) rfl), (AWi 226 (by decide +kernel) rfl)⟩⟩
set_option maxRecDepth 100000 in
theorem tc_X11_47_5 : XCv RX11 47 5 yX5_add := ⟨RX5, TX5, 2, rfl, (AWi 229 (by decide +kernel) rfl), Or.inl ⟨rfl, (AWi 228 (by decide +kernel) rfl), (AWi 230 (by decide +kernel) rfl)⟩⟩
set_option maxRecDepth 100000 in
theorem tc_X11_51_5 : XCv RX11 51 5 yX5_length := ⟨RX5, TX5, 2, rfl, (AWi 233 (by decide +kernel) rfl), Or.inl ⟨rfl, (AWi 232 (by decide +kernel) rfl), (AWi 234 (by decide +kernel) rfl)⟩⟩
set_option maxRecDepth 100000 in
theorem tc_X11_55_5 : XCv RX11 55 5 yX5_clear := ⟨RX5, TX5, 2, rfl, (AWi 241 (by decide +kernel) rfl), Or.inl ⟨rfl, (AWi 240 (by decide +kernel) rfl), (AWi 242 (by decide +kernel) rfl)⟩⟩
set_option maxRecDepth 100000 in
theorem tc_X11_58_5 : XCv RX11 58 5 yX5_firstFault := ⟨RX5, TX5, 2, rfl, (AWi 249 (by decide +kernel) rfl), Or.inl ⟨rfl, (AWi 248 (by decide +kernel) rfl), (AWi 250 (by decide +kernel) rfl)⟩⟩
set_option maxRecDepth 100000 in
theorem tc_X11_61_5 : XCv RX11 61 5 yX5_isStation := ⟨RX5, TX5, 2, rfl, (AWi 277 (by decide +kernel) rfl), Or.inl ⟨rfl, (AWi 276 (by decide +kernel) rfl), (AWi 278 (by decide +kernel) rfl)⟩⟩
set_option maxRecDepth 100000 in
theorem tc_X11_64_6 : XCv RX11 64 6 yX6_read := ⟨RX6, TX6, 4, rfl, (AWi 282 (by decide +kernel) rfl), Or.inl ⟨rfl, (AWi 281 (by decide +kernel) rfl), (AWi 283 (by decide +kernel) rfl)⟩⟩
set_option maxRecDepth 100000 in
theorem tc_X11_68_7 : XCv RX11 68 7 yX7_begin := ⟨RX7, TX7, 5, rfl, (AWi 370 (by decide +kernel) rfl), Or.inl ⟨rfl, (AWi 369 (by decide +kernel) rfl), (AWi 371 (by decide +kernel) rfl)⟩⟩
set_option maxRecDepth 100000 in
theorem tc_X11_80_6 : XCv RX11 80 6 yX6_crimesMany := ⟨RX6, TX6, 4, rfl, (AWi 382 (by decide +kernel) rfl), Or.inl ⟨rfl, (AWi 381 (by decide +kernel) rfl), (AWi 383 (by decide +kernel) rfl)⟩⟩
set_option maxRecDepth 100000 in
theorem tc_X11_83_6 : XCv RX11 83 6 yX6_manOf := ⟨RX6, TX6, 4, rfl, (AWi 390 (by decide +kernel) rfl), Or.inl ⟨rfl, (AWi 389 (by decide +kernel) rfl), (AWi 391 (by decide +kernel) rfl)⟩⟩
set_option maxRecDepth 100000 in
theorem tc_X11_87_0 : XCv RX11 87 0 yX0_kind := ⟨RX0, TX0, 2, rfl, (AWi 398 (by decide +kernel) rfl), Or.inr (Or.inr ⟨yX3_kind, "ConfessBySize$Man", cX3_kind, 1, (some FieldType.int), (AWi 393 (by decide +kernel) rfl), (AWi 396 (by decide +kernel) rfl), (AWi 394 (by decide +kernel) rfl), (AWi 397 (by decide +kernel) rfl), (AWi 409 (by decide +kernel) rfl), by decide +kernel, by decide +kernel, rfl⟩)⟩
set_option maxRecDepth 100000 in
theorem tc_X11_87_2 : XCv RX11 87 2 yX2_kind := ⟨RX2, TX2, 2, rfl, (AWi 401 (by decide +kernel) rfl), Or.inr (Or.inr ⟨yX3_kind, "ConfessBySize$Man", cX3_kind, 1, (some FieldType.int), (AWi 393 (by decide +kernel) rfl), (AWi 396 (by decide +kernel) rfl), (AWi 394 (by decide +kernel) rfl), (AWi 400 (by decide +kernel) rfl), (AWi 409 (by decide +kernel) rfl), by decide +kernel, by decide +kernel, rfl⟩)⟩
set_option maxRecDepth 100000 in
theorem tc_X11_87_3 : XCv RX11 87 3 yX3_kind := ⟨RX3, TX3, 2, rfl, (AWi 394 (by decide +kernel) rfl), Or.inl ⟨rfl, (AWi 393 (by decide +kernel) rfl), (AWi 395 (by decide +kernel) rfl)⟩⟩
set_option maxRecDepth 100000 in
theorem tc_X11_87_8 : XCv RX11 87 8 yX8_kind := ⟨RX8, TX8, 2, rfl, (AWi 404 (by decide +kernel) rfl), Or.inr (Or.inr ⟨yX3_kind, "ConfessBySize$Man", cX3_kind, 1, (some FieldType.int), (AWi 393 (by decide +kernel) rfl), (AWi 396 (by decide +kernel) rfl), (AWi 394 (by decide +kernel) rfl), (AWi 403 (by decide +kernel) rfl), (AWi 409 (by decide +kernel) rfl), by decide +kernel, by decide +kernel, rfl⟩)⟩
set_option maxRecDepth 100000 in
theorem tc_X11_87_9 : XCv RX11 87 9 yX9_kind := ⟨RX9, TX9, 2, rfl, (AWi 407 (by decide +kernel) rfl), Or.inr (Or.inr ⟨yX3_kind, "ConfessBySize$Man", cX3_kind, 1, (some FieldType.int), (AWi 393 (by decide +kernel) rfl), (AWi 396 (by decide +kernel) rfl), (AWi 394 (by decide +kernel) rfl), (AWi 406 (by decide +kernel) rfl), (AWi 409 (by decide +kernel) rfl), by decide +kernel, by decide +kernel, rfl⟩)⟩
set_option maxRecDepth 100000 in
theorem tc_X11_98_0 : XCv RX11 98 0 yX0_bears := ⟨RX0, TX0, 2, rfl, (AWi 415 (by decide +kernel) rfl), Or.inr (Or.inr ⟨yX3_bears, "ConfessBySize$Man", cX3_bears, 1, (some FieldType.int), (AWi 410 (by decide +kernel) rfl), (AWi 413 (by decide +kernel) rfl), (AWi 411 (by decide +kernel) rfl), (AWi 414 (by decide +kernel) rfl), (AWi 422 (by decide +kernel) rfl), by decide +kernel, by decide +kernel, rfl⟩)⟩
set_option maxRecDepth 100000 in
theorem tc_X11_98_2 : XCv RX11 98 2 yX3_bears := ⟨RX2, TX2, 2, rfl, (AWi 411 (by decide +kernel) rfl), Or.inr (Or.inl ⟨yX3_bears, "ConfessBySize$Man", rfl, (AWi 410 (by decide +kernel) rfl), (AWi 413 (by decide +kernel) rfl), (AWi 417 (by decide +kernel) rfl), by decide +kernel, by decide +kernel, rfl⟩)⟩
set_option maxRecDepth 100000 in
theorem tc_X11_98_3 : XCv RX11 98 3 yX3_bears := ⟨RX3, TX3, 2, rfl, (AWi 411 (by decide +kernel) rfl), Or.inl ⟨rfl, (AWi 410 (by decide +kernel) rfl), (AWi 412 (by decide +kernel) rfl)⟩⟩
set_option maxRecDepth 100000 in
theorem tc_X11_98_8 : XCv RX11 98 8 yX8_bears := ⟨RX8, TX8, 2, rfl, (AWi 419 (by decide +kernel) rfl), Or.inr (Or.inr ⟨yX3_bears, "ConfessBySize$Man", cX3_bears, 1, (some FieldType.int), (AWi 410 (by decide +kernel) rfl), (AWi 413 (by decide +kernel) rfl), (AWi 411 (by decide +kernel) rfl), (AWi 418 (by decide +kernel) rfl), (AWi 422 (by decide +kernel) rfl), by decide +kernel, by decide +kernel, rfl⟩)⟩
set_option maxRecDepth 100000 in
theorem tc_X11_98_9 : XCv RX11 98 9 yX8_bears := ⟨RX9, TX9, 2, rfl, (AWi 419 (by decide +kernel) rfl), Or.inr (Or.inr ⟨yX3_bears, "ConfessBySize$Man", cX3_bears, 1, (some FieldType.int), (AWi 410 (by decide +kernel) rfl), (AWi 413 (by decide +kernel) rfl), (AWi 411 (by decide +kernel) rfl), (AWi 421 (by decide +kernel) rfl), (AWi 422 (by decide +kernel) rfl), by decide +kernel, by decide +kernel, rfl⟩)⟩
set_option maxRecDepth 100000 in
theorem tc_X11_101_7 : XCv RX11 101 7 yX7_crimeOn := ⟨RX7, TX7, 5, rfl, (AWi 424 (by decide +kernel) rfl), Or.inl ⟨rfl, (AWi 423 (by decide +kernel) rfl), (AWi 425 (by decide +kernel) rfl)⟩⟩
set_option maxRecDepth 100000 in
theorem tc_X11_105_11 : XCv RX11 105 11 yX11_paidTo := ⟨RX11, TX11, 9, rfl, (AWi 429 (by decide +kernel) rfl), Or.inl ⟨rfl, (AWi 427 (by decide +kernel) rfl), (AWi 0 (by decide +kernel) rfl)⟩⟩
set_option maxRecDepth 100000 in
theorem tc_X11_109_11 : XCv RX11 109 11 yX11_crimesFitting := ⟨RX11, TX11, 9, rfl, (AWi 434 (by decide +kernel) rfl), Or.inl ⟨rfl, (AWi 432 (by decide +kernel) rfl), (AWi 1 (by decide +kernel) rfl)⟩⟩
set_option maxRecDepth 100000 in
theorem tc_X11_112_11 : XCv RX11 112 11 yX11_sizesLeft := ⟨RX11, TX11, 9, rfl, (AWi 481 (by decide +kernel) rfl), Or.inl ⟨rfl, (AWi 479 (by decide +kernel) rfl), (AWi 3 (by decide +kernel) rfl)⟩⟩
set_option maxRecDepth 100000 in
theorem tc_X11_115_11 : XCv RX11 115 11 yX11_nextToTry := ⟨RX11, TX11, 9, rfl, (AWi 493 (by decide +kernel) rfl), Or.inl ⟨rfl, (AWi 491 (by decide +kernel) rfl), (AWi 4 (by decide +kernel) rfl)⟩⟩
set_option maxRecDepth 100000 in
theorem tc_X11_122_6 : XCv RX11 122 6 yX6_crimeOf := ⟨RX6, TX6, 4, rfl, (AWi 374 (by decide +kernel) rfl), Or.inl ⟨rfl, (AWi 431 (by decide +kernel) rfl), (AWi 375 (by decide +kernel) rfl)⟩⟩
set_option maxRecDepth 100000 in
theorem tc_X11_126_7 : XCv RX11 126 7 yX7_sizeOf := ⟨RX7, TX7, 5, rfl, (AWi 437 (by decide +kernel) rfl), Or.inl ⟨rfl, (AWi 436 (by decide +kernel) rfl), (AWi 438 (by decide +kernel) rfl)⟩⟩
set_option maxRecDepth 100000 in
theorem tc_X11_135_7 : XCv RX11 135 7 yX7_hangsOn := ⟨RX7, TX7, 5, rfl, (AWi 524 (by decide +kernel) rfl), Or.inl ⟨rfl, (AWi 523 (by decide +kernel) rfl), (AWi 525 (by decide +kernel) rfl)⟩⟩
set_option maxRecDepth 100000 in
theorem tc_X11_138_11 : XCv RX11 138 11 yX11_peopleFitted := ⟨RX11, TX11, 9, rfl, (AWi 529 (by decide +kernel) rfl), Or.inl ⟨rfl, (AWi 527 (by decide +kernel) rfl), (AWi 6 (by decide +kernel) rfl)⟩⟩
set_option maxRecDepth 100000 in
theorem tc_X11_141_11 : XCv RX11 141 11 yX11_halvesOf := ⟨RX11, TX11, 9, rfl, (AWi 537 (by decide +kernel) rfl), Or.inl ⟨rfl, (AWi 535 (by decide +kernel) rfl), (AWi 7 (by decide +kernel) rfl)⟩⟩
set_option maxRecDepth 100000 in
theorem tc_X11_144_11 : XCv RX11 144 11 yX11_mayConfess := ⟨RX11, TX11, 9, rfl, (AWi 551 (by decide +kernel) rfl), Or.inl ⟨rfl, (AWi 549 (by decide +kernel) rfl), (AWi 9 (by decide +kernel) rfl)⟩⟩
set_option maxRecDepth 100000 in
theorem tc_X11_148_7 : XCv RX11 148 7 yX7_hang := ⟨RX7, TX7, 5, rfl, (AWi 569 (by decide +kernel) rfl), Or.inl ⟨rfl, (AWi 568 (by decide +kernel) rfl), (AWi 570 (by decide +kernel) rfl)⟩⟩
set_option maxRecDepth 100000 in
theorem tc_X11_159_7 : XCv RX11 159 7 yX7_resize := ⟨RX7, TX7, 5, rfl, (AWi 584 (by decide +kernel) rfl), Or.inl ⟨rfl, (AWi 583 (by decide +kernel) rfl), (AWi 585 (by decide +kernel) rfl)⟩⟩
set_option maxRecDepth 100000 in
theorem tc_X11_168_11 : XCv RX11 168 11 yX11_isOpen := ⟨RX11, TX11, 9, rfl, (AWi 596 (by decide +kernel) rfl), Or.inl ⟨rfl, (AWi 594 (by decide +kernel) rfl), (AWi 11 (by decide +kernel) rfl)⟩⟩
set_option maxRecDepth 100000 in
theorem tc_X11_171_11 : XCv RX11 171 11 yX11_findMatch := ⟨RX11, TX11, 9, rfl, (AWi 600 (by decide +kernel) rfl), Or.inl ⟨rfl, (AWi 598 (by decide +kernel) rfl), (AWi 12 (by decide +kernel) rfl)⟩⟩
set_option maxRecDepth 100000 in
theorem tc_X11_174_11 : XCv RX11 174 11 yX11_toldOfMatch := ⟨RX11, TX11, 9, rfl, (AWi 628 (by decide +kernel) rfl), Or.inl ⟨rfl, (AWi 626 (by decide +kernel) rfl), (AWi 14 (by decide +kernel) rfl)⟩⟩
set_option maxRecDepth 100000 in
theorem tc_X11_188_10 : XCv RX11 188 10 yX10_isFull := ⟨RX10, TX10, 5, rfl, (AWi 650 (by decide +kernel) rfl), Or.inl ⟨rfl, (AWi 649 (by decide +kernel) rfl), (AWi 651 (by decide +kernel) rfl)⟩⟩
set_option maxRecDepth 100000 in
theorem tc_X11_191_10 : XCv RX11 191 10 yX10_add := ⟨RX10, TX10, 5, rfl, (AWi 654 (by decide +kernel) rfl), Or.inl ⟨rfl, (AWi 653 (by decide +kernel) rfl), (AWi 655 (by decide +kernel) rfl)⟩⟩
set_option maxRecDepth 100000 in
theorem tc_X11_194_10 : XCv RX11 194 10 yX10_many := ⟨RX10, TX10, 5, rfl, (AWi 658 (by decide +kernel) rfl), Or.inl ⟨rfl, (AWi 657 (by decide +kernel) rfl), (AWi 659 (by decide +kernel) rfl)⟩⟩
set_option maxRecDepth 100000 in
theorem tc_X11_197_10 : XCv RX11 197 10 yX10_clear := ⟨RX10, TX10, 5, rfl, (AWi 378 (by decide +kernel) rfl), Or.inl ⟨rfl, (AWi 665 (by decide +kernel) rfl), (AWi 379 (by decide +kernel) rfl)⟩⟩
set_option maxRecDepth 100000 in
theorem tc_X11_198_7 : XCv RX11 198 7 yX7_copyFrom := ⟨RX7, TX7, 5, rfl, (AWi 671 (by decide +kernel) rfl), Or.inl ⟨rfl, (AWi 670 (by decide +kernel) rfl), (AWi 672 (by decide +kernel) rfl)⟩⟩
set_option maxRecDepth 100000 in
theorem tc_X11_205_6 : XCv RX11 205 6 yX6_peopleMany := ⟨RX6, TX6, 4, rfl, (AWi 532 (by decide +kernel) rfl), Or.inl ⟨rfl, (AWi 531 (by decide +kernel) rfl), (AWi 533 (by decide +kernel) rfl)⟩⟩
set_option maxRecDepth 100000 in
theorem tc_X11_212_11 : XCv RX11 212 11 yX11_comesFor := ⟨RX11, TX11, 9, rfl, (AWi 694 (by decide +kernel) rfl), Or.inl ⟨rfl, (AWi 692 (by decide +kernel) rfl), (AWi 16 (by decide +kernel) rfl)⟩⟩
set_option maxRecDepth 100000 in
theorem tc_X11_215_7 : XCv RX11 215 7 yX7_hanging := ⟨RX7, TX7, 5, rfl, (AWi 697 (by decide +kernel) rfl), Or.inl ⟨rfl, (AWi 696 (by decide +kernel) rfl), (AWi 698 (by decide +kernel) rfl)⟩⟩
set_option maxRecDepth 100000 in
theorem tc_X11_218_11 : XCv RX11 218 11 yX11_paidInAll := ⟨RX11, TX11, 9, rfl, (AWi 702 (by decide +kernel) rfl), Or.inl ⟨rfl, (AWi 700 (by decide +kernel) rfl), (AWi 17 (by decide +kernel) rfl)⟩⟩
set_option maxRecDepth 100000 in
theorem tc_X11_226_11 : XCv RX11 226 11 yX11_about := ⟨RX11, TX11, 9, rfl, (AWi 386 (by decide +kernel) rfl), Or.inl ⟨rfl, (AWi 722 (by decide +kernel) rfl), (AWi 387 (by decide +kernel) rfl)⟩⟩
set_option maxRecDepth 100000 in
theorem tc_X11_229_11 : XCv RX11 229 11 yX11_crime := ⟨RX11, TX11, 9, rfl, (AWi 520 (by decide +kernel) rfl), Or.inl ⟨rfl, (AWi 723 (by decide +kernel) rfl), (AWi 521 (by decide +kernel) rfl)⟩⟩
set_option maxRecDepth 100000 in
theorem tc_X11_232_11 : XCv RX11 232 11 yX11_withMatch := ⟨RX11, TX11, 9, rfl, (AWi 726 (by decide +kernel) rfl), Or.inl ⟨rfl, (AWi 724 (by decide +kernel) rfl), (AWi 18 (by decide +kernel) rfl)⟩⟩
set_option maxRecDepth 100000 in
theorem tc_X11_236_5 : XCv RX11 236 5 yX5_codeAt := ⟨RX5, TX5, 2, rfl, (AWi 257 (by decide +kernel) rfl), Or.inl ⟨rfl, (AWi 728 (by decide +kernel) rfl), (AWi 258 (by decide +kernel) rfl)⟩⟩
set_option maxRecDepth 100000 in
theorem tc_X11_239_11 : XCv RX11 239 11 yX11_count := ⟨RX11, TX11, 9, rfl, (AWi 713 (by decide +kernel) rfl), Or.inl ⟨rfl, (AWi 729 (by decide +kernel) rfl), (AWi 714 (by decide +kernel) rfl)⟩⟩
set_option maxRecDepth 100000 in
theorem tc_X11_250_0 : XCv RX11 250 0 yX3_wouldFit := ⟨RX0, TX0, 2, rfl, (AWi 445 (by decide +kernel) rfl), Or.inr (Or.inl ⟨yX3_wouldFit, "ConfessBySize$Man", rfl, (AWi 444 (by decide +kernel) rfl), (AWi 447 (by decide +kernel) rfl), (AWi 448 (by decide +kernel) rfl), by decide +kernel, by decide +kernel, rfl⟩)⟩
set_option maxRecDepth 100000 in
theorem tc_X11_250_2 : XCv RX11 250 2 yX3_wouldFit := ⟨RX2, TX2, 2, rfl, (AWi 445 (by decide +kernel) rfl), Or.inr (Or.inl ⟨yX3_wouldFit, "ConfessBySize$Man", rfl, (AWi 444 (by decide +kernel) rfl), (AWi 447 (by decide +kernel) rfl), (AWi 449 (by decide +kernel) rfl), by decide +kernel, by decide +kernel, rfl⟩)⟩
set_option maxRecDepth 100000 in
theorem tc_X11_250_3 : XCv RX11 250 3 yX3_wouldFit := ⟨RX3, TX3, 2, rfl, (AWi 445 (by decide +kernel) rfl), Or.inl ⟨rfl, (AWi 444 (by decide +kernel) rfl), (AWi 446 (by decide +kernel) rfl)⟩⟩
set_option maxRecDepth 100000 in
theorem tc_X11_250_8 : XCv RX11 250 8 yX3_wouldFit := ⟨RX8, TX8, 2, rfl, (AWi 445 (by decide +kernel) rfl), Or.inr (Or.inl ⟨yX3_wouldFit, "ConfessBySize$Man", rfl, (AWi 444 (by decide +kernel) rfl), (AWi 447 (by decide +kernel) rfl), (AWi 450 (by decide +kernel) rfl), by decide +kernel, by decide +kernel, rfl⟩)⟩
set_option maxRecDepth 100000 in
theorem tc_X11_250_9 : XCv RX11 250 9 yX3_wouldFit := ⟨RX9, TX9, 2, rfl, (AWi 445 (by decide +kernel) rfl), Or.inr (Or.inl ⟨yX3_wouldFit, "ConfessBySize$Man", rfl, (AWi 444 (by decide +kernel) rfl), (AWi 447 (by decide +kernel) rfl), (AWi 451 (by decide +kernel) rfl), by decide +kernel, by decide +kernel, rfl⟩)⟩
set_option maxRecDepth 100000 in
theorem tc_X11_254_11 : XCv RX11 254 11 yX11_isFitting := ⟨RX11, TX11, 9, rfl, (AWi 442 (by decide +kernel) rfl), Or.inl ⟨rfl, (AWi 440 (by decide +kernel) rfl), (AWi 2 (by decide +kernel) rfl)⟩⟩
set_option maxRecDepth 100000 in
theorem tc_X11_257_11 : XCv RX11 257 11 yX11_canGoHalves := ⟨RX11, TX11, 9, rfl, (AWi 541 (by decide +kernel) rfl), Or.inl ⟨rfl, (AWi 539 (by decide +kernel) rfl), (AWi 8 (by decide +kernel) rfl)⟩⟩
set_option maxRecDepth 100000 in
theorem tc_X11_260_0 : XCv RX11 260 0 yX3_counted := ⟨RX0, TX0, 2, rfl, (AWi 465 (by decide +kernel) rfl), Or.inr (Or.inl ⟨yX3_counted, "ConfessBySize$Man", rfl, (AWi 543 (by decide +kernel) rfl), (AWi 467 (by decide +kernel) rfl), (AWi 468 (by decide +kernel) rfl), by decide +kernel, by decide +kernel, rfl⟩)⟩
set_option maxRecDepth 100000 in
theorem tc_X11_260_2 : XCv RX11 260 2 yX2_counted := ⟨RX2, TX2, 2, rfl, (AWi 470 (by decide +kernel) rfl), Or.inr (Or.inr ⟨yX3_counted, "ConfessBySize$Man", cX3_counted, 2, (some FieldType.int), (AWi 543 (by decide +kernel) rfl), (AWi 467 (by decide +kernel) rfl), (AWi 465 (by decide +kernel) rfl), (AWi 469 (by decide +kernel) rfl), (AWi 474 (by decide +kernel) rfl), by decide +kernel, by decide +kernel, rfl⟩)⟩
set_option maxRecDepth 100000 in
theorem tc_X11_260_3 : XCv RX11 260 3 yX3_counted := ⟨RX3, TX3, 2, rfl, (AWi 465 (by decide +kernel) rfl), Or.inl ⟨rfl, (AWi 543 (by decide +kernel) rfl), (AWi 466 (by decide +kernel) rfl)⟩⟩
set_option maxRecDepth 100000 in
theorem tc_X11_260_8 : XCv RX11 260 8 yX3_counted := ⟨RX8, TX8, 2, rfl, (AWi 465 (by decide +kernel) rfl), Or.inr (Or.inl ⟨yX3_counted, "ConfessBySize$Man", rfl, (AWi 543 (by decide +kernel) rfl), (AWi 467 (by decide +kernel) rfl), (AWi 472 (by decide +kernel) rfl), by decide +kernel, by decide +kernel, rfl⟩)⟩
set_option maxRecDepth 100000 in
theorem tc_X11_260_9 : XCv RX11 260 9 yX3_counted := ⟨RX9, TX9, 2, rfl, (AWi 465 (by decide +kernel) rfl), Or.inr (Or.inl ⟨yX3_counted, "ConfessBySize$Man", rfl, (AWi 543 (by decide +kernel) rfl), (AWi 467 (by decide +kernel) rfl), (AWi 473 (by decide +kernel) rfl), by decide +kernel, by decide +kernel, rfl⟩)⟩
set_option maxRecDepth 100000 in
theorem tc_X11_263_0 : XCv RX11 263 0 yX3_hasHandLike := ⟨RX0, TX0, 2, rfl, (AWi 454 (by decide +kernel) rfl), Or.inr (Or.inl ⟨yX3_hasHandLike, "ConfessBySize$Man", rfl, (AWi 544 (by decide +kernel) rfl), (AWi 456 (by decide +kernel) rfl), (AWi 457 (by decide +kernel) rfl), by decide +kernel, by decide +kernel, rfl⟩)⟩
set_option maxRecDepth 100000 in
theorem tc_X11_263_2 : XCv RX11 263 2 yX3_hasHandLike := ⟨RX2, TX2, 2, rfl, (AWi 454 (by decide +kernel) rfl), Or.inr (Or.inl ⟨yX3_hasHandLike, "ConfessBySize$Man", rfl, (AWi 544 (by decide +kernel) rfl), (AWi 456 (by decide +kernel) rfl), (AWi 458 (by decide +kernel) rfl), by decide +kernel, by decide +kernel, rfl⟩)⟩
set_option maxRecDepth 100000 in
theorem tc_X11_263_3 : XCv RX11 263 3 yX3_hasHandLike := ⟨RX3, TX3, 2, rfl, (AWi 454 (by decide +kernel) rfl), Or.inl ⟨rfl, (AWi 544 (by decide +kernel) rfl), (AWi 455 (by decide +kernel) rfl)⟩⟩
set_option maxRecDepth 100000 in
theorem tc_X11_263_8 : XCv RX11 263 8 yX3_hasHandLike := ⟨RX8, TX8, 2, rfl, (AWi 454 (by decide +kernel) rfl), Or.inr (Or.inl ⟨yX3_hasHandLike, "ConfessBySize$Man", rfl, (AWi 544 (by decide +kernel) rfl), (AWi 456 (by decide +kernel) rfl), (AWi 459 (by decide +kernel) rfl), by decide +kernel, by decide +kernel, rfl⟩)⟩
set_option maxRecDepth 100000 in
theorem tc_X11_263_9 : XCv RX11 263 9 yX9_hasHandLike := ⟨RX9, TX9, 2, rfl, (AWi 461 (by decide +kernel) rfl), Or.inr (Or.inr ⟨yX3_hasHandLike, "ConfessBySize$Man", cX3_hasHandLike, 2, (some FieldType.boolean), (AWi 544 (by decide +kernel) rfl), (AWi 456 (by decide +kernel) rfl), (AWi 454 (by decide +kernel) rfl), (AWi 460 (by decide +kernel) rfl), (AWi 463 (by decide +kernel) rfl), by decide +kernel, by decide +kernel, rfl⟩)⟩
set_option maxRecDepth 100000 in
theorem tc_X11_266_0 : XCv RX11 266 0 yX0_doesConfess := ⟨RX0, TX0, 2, rfl, (AWi 562 (by decide +kernel) rfl), Or.inr (Or.inr ⟨yX3_doesConfess, "ConfessBySize$Man", cX3_doesConfess, 1, (some FieldType.boolean), (AWi 557 (by decide +kernel) rfl), (AWi 560 (by decide +kernel) rfl), (AWi 558 (by decide +kernel) rfl), (AWi 561 (by decide +kernel) rfl), (AWi 567 (by decide +kernel) rfl), by decide +kernel, by decide +kernel, rfl⟩)⟩
set_option maxRecDepth 100000 in
theorem tc_X11_266_2 : XCv RX11 266 2 yX3_doesConfess := ⟨RX2, TX2, 2, rfl, (AWi 558 (by decide +kernel) rfl), Or.inr (Or.inl ⟨yX3_doesConfess, "ConfessBySize$Man", rfl, (AWi 557 (by decide +kernel) rfl), (AWi 560 (by decide +kernel) rfl), (AWi 564 (by decide +kernel) rfl), by decide +kernel, by decide +kernel, rfl⟩)⟩
set_option maxRecDepth 100000 in
theorem tc_X11_266_3 : XCv RX11 266 3 yX3_doesConfess := ⟨RX3, TX3, 2, rfl, (AWi 558 (by decide +kernel) rfl), Or.inl ⟨rfl, (AWi 557 (by decide +kernel) rfl), (AWi 559 (by decide +kernel) rfl)⟩⟩
set_option maxRecDepth 100000 in
theorem tc_X11_266_8 : XCv RX11 266 8 yX3_doesConfess := ⟨RX8, TX8, 2, rfl, (AWi 558 (by decide +kernel) rfl), Or.inr (Or.inl ⟨yX3_doesConfess, "ConfessBySize$Man", rfl, (AWi 557 (by decide +kernel) rfl), (AWi 560 (by decide +kernel) rfl), (AWi 565 (by decide +kernel) rfl), by decide +kernel, by decide +kernel, rfl⟩)⟩
set_option maxRecDepth 100000 in
theorem tc_X11_266_9 : XCv RX11 266 9 yX3_doesConfess := ⟨RX9, TX9, 2, rfl, (AWi 558 (by decide +kernel) rfl), Or.inr (Or.inl ⟨yX3_doesConfess, "ConfessBySize$Man", rfl, (AWi 557 (by decide +kernel) rfl), (AWi 560 (by decide +kernel) rfl), (AWi 566 (by decide +kernel) rfl), by decide +kernel, by decide +kernel, rfl⟩)⟩
set_option maxRecDepth 100000 in
theorem tc_X11_269_11 : XCv RX11 269 11 yX11_isFree := ⟨RX11, TX11, 9, rfl, (AWi 555 (by decide +kernel) rfl), Or.inl ⟨rfl, (AWi 553 (by decide +kernel) rfl), (AWi 10 (by decide +kernel) rfl)⟩⟩
set_option maxRecDepth 100000 in
theorem tc_X11_273_4 : XCv RX11 273 4 yX4_begin := ⟨RX4, TX4, 7, rfl, (AWi 603 (by decide +kernel) rfl), Or.inl ⟨rfl, (AWi 602 (by decide +kernel) rfl), (AWi 604 (by decide +kernel) rfl)⟩⟩
set_option maxRecDepth 100000 in
theorem tc_X11_275_4 : XCv RX11 275 4 yX4_allow := ⟨RX4, TX4, 7, rfl, (AWi 608 (by decide +kernel) rfl), Or.inl ⟨rfl, (AWi 607 (by decide +kernel) rfl), (AWi 609 (by decide +kernel) rfl)⟩⟩
set_option maxRecDepth 100000 in
theorem tc_X11_278_4 : XCv RX11 278 4 yX4_reward := ⟨RX4, TX4, 7, rfl, (AWi 612 (by decide +kernel) rfl), Or.inl ⟨rfl, (AWi 611 (by decide +kernel) rfl), (AWi 613 (by decide +kernel) rfl)⟩⟩
set_option maxRecDepth 100000 in
theorem tc_X11_280_4 : XCv RX11 280 4 yX4_find := ⟨RX4, TX4, 7, rfl, (AWi 616 (by decide +kernel) rfl), Or.inl ⟨rfl, (AWi 615 (by decide +kernel) rfl), (AWi 617 (by decide +kernel) rfl)⟩⟩
set_option maxRecDepth 100000 in
theorem tc_X11_289_4 : XCv RX11 289 4 yX4_bestOn := ⟨RX4, TX4, 7, rfl, (AWi 631 (by decide +kernel) rfl), Or.inl ⟨rfl, (AWi 630 (by decide +kernel) rfl), (AWi 632 (by decide +kernel) rfl)⟩⟩
set_option maxRecDepth 100000 in
theorem tc_X11_292_11 : XCv RX11 292 11 yX11_stitchesFor := ⟨RX11, TX11, 9, rfl, (AWi 643 (by decide +kernel) rfl), Or.inl ⟨rfl, (AWi 641 (by decide +kernel) rfl), (AWi 15 (by decide +kernel) rfl)⟩⟩
set_option maxRecDepth 100000 in
theorem tc_X11_295_10 : XCv RX11 295 10 yX10_allow := ⟨RX10, TX10, 5, rfl, (AWi 484 (by decide +kernel) rfl), Or.inl ⟨rfl, (AWi 483 (by decide +kernel) rfl), (AWi 485 (by decide +kernel) rfl)⟩⟩
set_option maxRecDepth 100000 in
theorem tc_X11_301_11 : XCv RX11 301 11 yX11_leftAtWorst := ⟨RX11, TX11, 9, rfl, (AWi 497 (by decide +kernel) rfl), Or.inl ⟨rfl, (AWi 495 (by decide +kernel) rfl), (AWi 5 (by decide +kernel) rfl)⟩⟩
set_option maxRecDepth 100000 in
theorem tc_X12_1 : Cond.methodLink RX12 1 objectInit ∈ AW ∧ Cond.instanceMethod objectInit ∈ AW ∧ Cond.code objectInit ⟨#[0xb1]⟩ 1 none ∈ AW := ⟨(AWi 735 (by decide +kernel) rfl), t_obj⟩
set_option maxRecDepth 100000 in
theorem tc_X12_71 : XCs RX12 71 yX12_within := ⟨(AWi 862 (by decide +kernel) rfl), (AWi 863 (by decide +kernel) rfl)⟩
set_option maxRecDepth 100000 in
theorem tc_X12_79 : XCs RX12 79 yX12_kindBy := ⟨(AWi 881 (by decide +kernel) rfl), (AWi 882 (by decide +kernel) rfl)⟩
set_option maxRecDepth 100000 in
theorem tc_X12_188 : XCs RX12 188 yX12_isIn := ⟨(AWi 949 (by decide +kernel) rfl), (AWi 950 (by decide +kernel) rfl)⟩
set_option maxRecDepth 100000 in
theorem tc_X12_83_12 : XCv RX12 83 12 yX12_isFigure := ⟨RX12, TX12, 40, rfl, (AWi 886 (by decide +kernel) rfl), Or.inl ⟨rfl, (AWi 884 (by decide +kernel) rfl), (AWi 21 (by decide +kernel) rfl)⟩⟩
set_option maxRecDepth 100000 in
theorem tc_X12_96_12 : XCv RX12 96 12 yX12_readOne := ⟨RX12, TX12, 40, rfl, (AWi 879 (by decide +kernel) rfl), Or.inl ⟨rfl, (AWi 877 (by decide +kernel) rfl), (AWi 20 (by decide +kernel) rfl)⟩⟩
set_option maxRecDepth 100000 in
theorem tc_X12_99_12 : XCv RX12 99 12 yX12_readCrimes := ⟨RX12, TX12, 40, rfl, (AWi 890 (by decide +kernel) rfl), Or.inl ⟨rfl, (AWi 888 (by decide +kernel) rfl), (AWi 22 (by decide +kernel) rfl)⟩⟩
set_option maxRecDepth 100000 in
theorem tc_X12_102_12 : XCv RX12 102 12 yX12_read := ⟨RX12, TX12, 40, rfl, (AWi 875 (by decide +kernel) rfl), Or.inl ⟨rfl, (AWi 873 (by decide +kernel) rfl), (AWi 19 (by decide +kernel) rfl)⟩⟩
set_option maxRecDepth 100000 in
theorem tc_X12_124_12 : XCv RX12 124 12 yX12_counts := ⟨RX12, TX12, 40, rfl, (AWi 930 (by decide +kernel) rfl), Or.inl ⟨rfl, (AWi 928 (by decide +kernel) rfl), (AWi 30 (by decide +kernel) rfl)⟩⟩
set_option maxRecDepth 100000 in
theorem tc_X12_128_12 : XCv RX12 128 12 yX12_isHand := ⟨RX12, TX12, 40, rfl, (AWi 934 (by decide +kernel) rfl), Or.inl ⟨rfl, (AWi 932 (by decide +kernel) rfl), (AWi 31 (by decide +kernel) rfl)⟩⟩
set_option maxRecDepth 100000 in
theorem tc_X12_132_12 : XCv RX12 132 12 yX12_bears := ⟨RX12, TX12, 40, rfl, (AWi 910 (by decide +kernel) rfl), Or.inl ⟨rfl, (AWi 908 (by decide +kernel) rfl), (AWi 25 (by decide +kernel) rfl)⟩⟩
set_option maxRecDepth 100000 in
theorem tc_X12_135_12 : XCv RX12 135 12 yX12_fitsBy := ⟨RX12, TX12, 40, rfl, (AWi 926 (by decide +kernel) rfl), Or.inl ⟨rfl, (AWi 924 (by decide +kernel) rfl), (AWi 29 (by decide +kernel) rfl)⟩⟩
set_option maxRecDepth 100000 in
theorem tc_X12_139_12 : XCv RX12 139 12 yX12_fits := ⟨RX12, TX12, 40, rfl, (AWi 922 (by decide +kernel) rfl), Or.inl ⟨rfl, (AWi 920 (by decide +kernel) rfl), (AWi 28 (by decide +kernel) rfl)⟩⟩
set_option maxRecDepth 100000 in
theorem tc_X12_142_12 : XCv RX12 142 12 yX12_paid := ⟨RX12, TX12, 40, rfl, (AWi 914 (by decide +kernel) rfl), Or.inl ⟨rfl, (AWi 912 (by decide +kernel) rfl), (AWi 26 (by decide +kernel) rfl)⟩⟩
set_option maxRecDepth 100000 in
theorem tc_X12_145_12 : XCv RX12 145 12 yX12_fitting := ⟨RX12, TX12, 40, rfl, (AWi 918 (by decide +kernel) rfl), Or.inl ⟨rfl, (AWi 916 (by decide +kernel) rfl), (AWi 27 (by decide +kernel) rfl)⟩⟩
set_option maxRecDepth 100000 in
theorem tc_X12_148_12 : XCv RX12 148 12 yX12_howLarge := ⟨RX12, TX12, 40, rfl, (AWi 938 (by decide +kernel) rfl), Or.inl ⟨rfl, (AWi 936 (by decide +kernel) rfl), (AWi 32 (by decide +kernel) rfl)⟩⟩
set_option maxRecDepth 100000 in
theorem tc_X12_151_12 : XCv RX12 151 12 yX12_nextOf := ⟨RX12, TX12, 40, rfl, (AWi 946 (by decide +kernel) rfl), Or.inl ⟨rfl, (AWi 944 (by decide +kernel) rfl), (AWi 34 (by decide +kernel) rfl)⟩⟩
set_option maxRecDepth 100000 in
theorem tc_X12_154_12 : XCv RX12 154 12 yX12_isOne := ⟨RX12, TX12, 40, rfl, (AWi 902 (by decide +kernel) rfl), Or.inl ⟨rfl, (AWi 900 (by decide +kernel) rfl), (AWi 23 (by decide +kernel) rfl)⟩⟩
set_option maxRecDepth 100000 in
theorem tc_X12_158_12 : XCv RX12 158 12 yX12_oneNow := ⟨RX12, TX12, 40, rfl, (AWi 906 (by decide +kernel) rfl), Or.inl ⟨rfl, (AWi 904 (by decide +kernel) rfl), (AWi 24 (by decide +kernel) rfl)⟩⟩
set_option maxRecDepth 100000 in
theorem tc_X12_161_12 : XCv RX12 161 12 yX12_hangsOn := ⟨RX12, TX12, 40, rfl, (AWi 970 (by decide +kernel) rfl), Or.inl ⟨rfl, (AWi 968 (by decide +kernel) rfl), (AWi 37 (by decide +kernel) rfl)⟩⟩
set_option maxRecDepth 100000 in
theorem tc_X12_164_12 : XCv RX12 164 12 yX12_fitted := ⟨RX12, TX12, 40, rfl, (AWi 974 (by decide +kernel) rfl), Or.inl ⟨rfl, (AWi 972 (by decide +kernel) rfl), (AWi 38 (by decide +kernel) rfl)⟩⟩
set_option maxRecDepth 100000 in
theorem tc_X12_167_12 : XCv RX12 167 12 yX12_halvesOf := ⟨RX12, TX12, 40, rfl, (AWi 978 (by decide +kernel) rfl), Or.inl ⟨rfl, (AWi 976 (by decide +kernel) rfl), (AWi 39 (by decide +kernel) rfl)⟩⟩
set_option maxRecDepth 100000 in
theorem tc_X12_170_12 : XCv RX12 170 12 yX12_isCrime := ⟨RX12, TX12, 40, rfl, (AWi 962 (by decide +kernel) rfl), Or.inl ⟨rfl, (AWi 960 (by decide +kernel) rfl), (AWi 35 (by decide +kernel) rfl)⟩⟩
set_option maxRecDepth 100000 in
theorem tc_X12_173_12 : XCv RX12 173 12 yX12_crimeNow := ⟨RX12, TX12, 40, rfl, (AWi 966 (by decide +kernel) rfl), Or.inl ⟨rfl, (AWi 964 (by decide +kernel) rfl), (AWi 36 (by decide +kernel) rfl)⟩⟩
set_option maxRecDepth 100000 in
theorem tc_X12_176_12 : XCv RX12 176 12 yX12_isFree := ⟨RX12, TX12, 40, rfl, (AWi 986 (by decide +kernel) rfl), Or.inl ⟨rfl, (AWi 984 (by decide +kernel) rfl), (AWi 40 (by decide +kernel) rfl)⟩⟩
set_option maxRecDepth 100000 in
theorem tc_X12_185_12 : XCv RX12 185 12 yX12_hasBy := ⟨RX12, TX12, 40, rfl, (AWi 1014 (by decide +kernel) rfl), Or.inl ⟨rfl, (AWi 1012 (by decide +kernel) rfl), (AWi 44 (by decide +kernel) rfl)⟩⟩
set_option maxRecDepth 100000 in
theorem tc_X12_191_12 : XCv RX12 191 12 yX12_codes := ⟨RX12, TX12, 40, rfl, (AWi 1006 (by decide +kernel) rfl), Or.inl ⟨rfl, (AWi 1004 (by decide +kernel) rfl), (AWi 42 (by decide +kernel) rfl)⟩⟩
set_option maxRecDepth 100000 in
theorem tc_X12_194_12 : XCv RX12 194 12 yX12_isMatch := ⟨RX12, TX12, 40, rfl, (AWi 1010 (by decide +kernel) rfl), Or.inl ⟨rfl, (AWi 1008 (by decide +kernel) rfl), (AWi 43 (by decide +kernel) rfl)⟩⟩
set_option maxRecDepth 100000 in
theorem tc_X12_197_12 : XCv RX12 197 12 yX12_matchNow := ⟨RX12, TX12, 40, rfl, (AWi 1002 (by decide +kernel) rfl), Or.inl ⟨rfl, (AWi 1000 (by decide +kernel) rfl), (AWi 41 (by decide +kernel) rfl)⟩⟩
set_option maxRecDepth 100000 in
theorem tc_X12_200_12 : XCv RX12 200 12 yX12_freeCrimes := ⟨RX12, TX12, 40, rfl, (AWi 1026 (by decide +kernel) rfl), Or.inl ⟨rfl, (AWi 1024 (by decide +kernel) rfl), (AWi 46 (by decide +kernel) rfl)⟩⟩
set_option maxRecDepth 100000 in
theorem tc_X12_204_12 : XCv RX12 204 12 yX12_alterBy := ⟨RX12, TX12, 40, rfl, (AWi 1030 (by decide +kernel) rfl), Or.inl ⟨rfl, (AWi 1028 (by decide +kernel) rfl), (AWi 47 (by decide +kernel) rfl)⟩⟩
set_option maxRecDepth 100000 in
theorem tc_X12_210_12 : XCv RX12 210 12 yX12_stitchesNow := ⟨RX12, TX12, 40, rfl, (AWi 1022 (by decide +kernel) rfl), Or.inl ⟨rfl, (AWi 1020 (by decide +kernel) rfl), (AWi 45 (by decide +kernel) rfl)⟩⟩
set_option maxRecDepth 100000 in
theorem tc_X12_213_12 : XCv RX12 213 12 yX12_couldBe := ⟨RX12, TX12, 40, rfl, (AWi 942 (by decide +kernel) rfl), Or.inl ⟨rfl, (AWi 940 (by decide +kernel) rfl), (AWi 33 (by decide +kernel) rfl)⟩⟩
set_option maxRecDepth 100000 in
theorem tc_X12_228_12 : XCv RX12 228 12 yX12_draw := ⟨RX12, TX12, 40, rfl, (AWi 1050 (by decide +kernel) rfl), Or.inl ⟨rfl, (AWi 1048 (by decide +kernel) rfl), (AWi 49 (by decide +kernel) rfl)⟩⟩
set_option maxRecDepth 100000 in
theorem tc_X12_231_12 : XCv RX12 231 12 yX12_paidAll := ⟨RX12, TX12, 40, rfl, (AWi 1058 (by decide +kernel) rfl), Or.inl ⟨rfl, (AWi 1056 (by decide +kernel) rfl), (AWi 50 (by decide +kernel) rfl)⟩⟩
set_option maxRecDepth 100000 in
theorem tc_X12_234_12 : XCv RX12 234 12 yX12_weeksNow := ⟨RX12, TX12, 40, rfl, (AWi 1046 (by decide +kernel) rfl), Or.inl ⟨rfl, (AWi 1044 (by decide +kernel) rfl), (AWi 48 (by decide +kernel) rfl)⟩⟩
set_option maxRecDepth 100000 in
theorem tc_X12_253_12 : XCv RX12 253 12 yX12_howMany := ⟨RX12, TX12, 40, rfl, (AWi 1074 (by decide +kernel) rfl), Or.inl ⟨rfl, (AWi 1072 (by decide +kernel) rfl), (AWi 51 (by decide +kernel) rfl)⟩⟩
set_option maxRecDepth 100000 in
theorem tc_X12_263_12 : XCv RX12 263 12 yX12_mix := ⟨RX12, TX12, 40, rfl, (AWi 1083 (by decide +kernel) rfl), Or.inl ⟨rfl, (AWi 1081 (by decide +kernel) rfl), (AWi 52 (by decide +kernel) rfl)⟩⟩
set_option maxRecDepth 100000 in
theorem tc_X2_3 : XCi RX2 3 yX3_init := ⟨rfl, (AWi 303 (by decide +kernel) rfl), Or.inl (AWi 329 (by decide +kernel) rfl)⟩
set_option maxRecDepth 100000 in
theorem tc_X3_3 : Cond.methodLink RX3 3 objectInit ∈ AW ∧ Cond.instanceMethod objectInit ∈ AW ∧ Cond.code objectInit ⟨#[0xb1]⟩ 1 none ∈ AW := ⟨(AWi 305 (by decide +kernel) rfl), t_obj⟩
set_option maxRecDepth 100000 in
theorem tc_X3_26 : XCs RX3 26 yJ9_abs_0f7a4 := ⟨(AWi 475 (by decide +kernel) rfl), (AWi 476 (by decide +kernel) rfl)⟩
set_option maxRecDepth 100000 in
theorem tc_X3_18_0 : XCv RX3 18 0 yX3_hasHandLike := ⟨RX0, TX0, 2, rfl, (AWi 454 (by decide +kernel) rfl), Or.inr (Or.inl ⟨yX3_hasHandLike, "ConfessBySize$Man", rfl, (AWi 453 (by decide +kernel) rfl), (AWi 456 (by decide +kernel) rfl), (AWi 457 (by decide +kernel) rfl), by decide +kernel, by decide +kernel, rfl⟩)⟩
set_option maxRecDepth 100000 in
theorem tc_X3_18_2 : XCv RX3 18 2 yX3_hasHandLike := ⟨RX2, TX2, 2, rfl, (AWi 454 (by decide +kernel) rfl), Or.inr (Or.inl ⟨yX3_hasHandLike, "ConfessBySize$Man", rfl, (AWi 453 (by decide +kernel) rfl), (AWi 456 (by decide +kernel) rfl), (AWi 458 (by decide +kernel) rfl), by decide +kernel, by decide +kernel, rfl⟩)⟩
set_option maxRecDepth 100000 in
theorem tc_X3_18_3 : XCv RX3 18 3 yX3_hasHandLike := ⟨RX3, TX3, 2, rfl, (AWi 454 (by decide +kernel) rfl), Or.inl ⟨rfl, (AWi 453 (by decide +kernel) rfl), (AWi 455 (by decide +kernel) rfl)⟩⟩
set_option maxRecDepth 100000 in
theorem tc_X3_18_8 : XCv RX3 18 8 yX3_hasHandLike := ⟨RX8, TX8, 2, rfl, (AWi 454 (by decide +kernel) rfl), Or.inr (Or.inl ⟨yX3_hasHandLike, "ConfessBySize$Man", rfl, (AWi 453 (by decide +kernel) rfl), (AWi 456 (by decide +kernel) rfl), (AWi 459 (by decide +kernel) rfl), by decide +kernel, by decide +kernel, rfl⟩)⟩
set_option maxRecDepth 100000 in
theorem tc_X3_18_9 : XCv RX3 18 9 yX9_hasHandLike := ⟨RX9, TX9, 2, rfl, (AWi 461 (by decide +kernel) rfl), Or.inr (Or.inr ⟨yX3_hasHandLike, "ConfessBySize$Man", cX3_hasHandLike, 2, (some FieldType.boolean), (AWi 453 (by decide +kernel) rfl), (AWi 456 (by decide +kernel) rfl), (AWi 454 (by decide +kernel) rfl), (AWi 460 (by decide +kernel) rfl), (AWi 463 (by decide +kernel) rfl), by decide +kernel, by decide +kernel, rfl⟩)⟩
set_option maxRecDepth 100000 in
theorem tc_X3_22_0 : XCv RX3 22 0 yX3_counted := ⟨RX0, TX0, 2, rfl, (AWi 465 (by decide +kernel) rfl), Or.inr (Or.inl ⟨yX3_counted, "ConfessBySize$Man", rfl, (AWi 464 (by decide +kernel) rfl), (AWi 467 (by decide +kernel) rfl), (AWi 468 (by decide +kernel) rfl), by decide +kernel, by decide +kernel, rfl⟩)⟩
set_option maxRecDepth 100000 in
theorem tc_X3_22_2 : XCv RX3 22 2 yX2_counted := ⟨RX2, TX2, 2, rfl, (AWi 470 (by decide +kernel) rfl), Or.inr (Or.inr ⟨yX3_counted, "ConfessBySize$Man", cX3_counted, 2, (some FieldType.int), (AWi 464 (by decide +kernel) rfl), (AWi 467 (by decide +kernel) rfl), (AWi 465 (by decide +kernel) rfl), (AWi 469 (by decide +kernel) rfl), (AWi 474 (by decide +kernel) rfl), by decide +kernel, by decide +kernel, rfl⟩)⟩
set_option maxRecDepth 100000 in
theorem tc_X3_22_3 : XCv RX3 22 3 yX3_counted := ⟨RX3, TX3, 2, rfl, (AWi 465 (by decide +kernel) rfl), Or.inl ⟨rfl, (AWi 464 (by decide +kernel) rfl), (AWi 466 (by decide +kernel) rfl)⟩⟩
set_option maxRecDepth 100000 in
theorem tc_X3_22_8 : XCv RX3 22 8 yX3_counted := ⟨RX8, TX8, 2, rfl, (AWi 465 (by decide +kernel) rfl), Or.inr (Or.inl ⟨yX3_counted, "ConfessBySize$Man", rfl, (AWi 464 (by decide +kernel) rfl), (AWi 467 (by decide +kernel) rfl), (AWi 472 (by decide +kernel) rfl), by decide +kernel, by decide +kernel, rfl⟩)⟩
set_option maxRecDepth 100000 in
theorem tc_X3_22_9 : XCv RX3 22 9 yX3_counted := ⟨RX9, TX9, 2, rfl, (AWi 465 (by decide +kernel) rfl), Or.inr (Or.inl ⟨yX3_counted, "ConfessBySize$Man", rfl, (AWi 464 (by decide +kernel) rfl), (AWi 467 (by decide +kernel) rfl), (AWi 473 (by decide +kernel) rfl), by decide +kernel, by decide +kernel, rfl⟩)⟩
set_option maxRecDepth 100000 in
theorem tc_X3_31_0 : XCv RX3 31 0 yX0_bears := ⟨RX0, TX0, 2, rfl, (AWi 415 (by decide +kernel) rfl), Or.inr (Or.inr ⟨yX3_bears, "ConfessBySize$Man", cX3_bears, 1, (some FieldType.int), (AWi 478 (by decide +kernel) rfl), (AWi 413 (by decide +kernel) rfl), (AWi 411 (by decide +kernel) rfl), (AWi 414 (by decide +kernel) rfl), (AWi 422 (by decide +kernel) rfl), by decide +kernel, by decide +kernel, rfl⟩)⟩
set_option maxRecDepth 100000 in
theorem tc_X3_31_2 : XCv RX3 31 2 yX3_bears := ⟨RX2, TX2, 2, rfl, (AWi 411 (by decide +kernel) rfl), Or.inr (Or.inl ⟨yX3_bears, "ConfessBySize$Man", rfl, (AWi 478 (by decide +kernel) rfl), (AWi 413 (by decide +kernel) rfl), (AWi 417 (by decide +kernel) rfl), by decide +kernel, by decide +kernel, rfl⟩)⟩
set_option maxRecDepth 100000 in
theorem tc_X3_31_3 : XCv RX3 31 3 yX3_bears := ⟨RX3, TX3, 2, rfl, (AWi 411 (by decide +kernel) rfl), Or.inl ⟨rfl, (AWi 478 (by decide +kernel) rfl), (AWi 412 (by decide +kernel) rfl)⟩⟩
set_option maxRecDepth 100000 in
theorem tc_X3_31_8 : XCv RX3 31 8 yX8_bears := ⟨RX8, TX8, 2, rfl, (AWi 419 (by decide +kernel) rfl), Or.inr (Or.inr ⟨yX3_bears, "ConfessBySize$Man", cX3_bears, 1, (some FieldType.int), (AWi 478 (by decide +kernel) rfl), (AWi 413 (by decide +kernel) rfl), (AWi 411 (by decide +kernel) rfl), (AWi 418 (by decide +kernel) rfl), (AWi 422 (by decide +kernel) rfl), by decide +kernel, by decide +kernel, rfl⟩)⟩
set_option maxRecDepth 100000 in
theorem tc_X3_31_9 : XCv RX3 31 9 yX8_bears := ⟨RX9, TX9, 2, rfl, (AWi 419 (by decide +kernel) rfl), Or.inr (Or.inr ⟨yX3_bears, "ConfessBySize$Man", cX3_bears, 1, (some FieldType.int), (AWi 478 (by decide +kernel) rfl), (AWi 413 (by decide +kernel) rfl), (AWi 411 (by decide +kernel) rfl), (AWi 421 (by decide +kernel) rfl), (AWi 422 (by decide +kernel) rfl), by decide +kernel, by decide +kernel, rfl⟩)⟩
set_option maxRecDepth 100000 in
theorem tc_X4_3 : Cond.methodLink RX4 3 objectInit ∈ AW ∧ Cond.instanceMethod objectInit ∈ AW ∧ Cond.code objectInit ⟨#[0xb1]⟩ 1 none ∈ AW := ⟨(AWi 167 (by decide +kernel) rfl), t_obj⟩
set_option maxRecDepth 100000 in
theorem tc_X4_24 : XCs RX4 24 yJ9_min_7cf53 := ⟨(AWi 606 (by decide +kernel) rfl), (AWi 287 (by decide +kernel) rfl)⟩
set_option maxRecDepth 100000 in
theorem tc_X4_40 : XCs RX4 40 yX4_choose := ⟨(AWi 619 (by decide +kernel) rfl), (AWi 620 (by decide +kernel) rfl)⟩
set_option maxRecDepth 100000 in
theorem tc_X4_44_4 : XCv RX4 44 4 yX4_keepIfBetter := ⟨RX4, TX4, 7, rfl, (AWi 624 (by decide +kernel) rfl), Or.inl ⟨rfl, (AWi 622 (by decide +kernel) rfl), (AWi 13 (by decide +kernel) rfl)⟩⟩
set_option maxRecDepth 100000 in
theorem tc_X5_3 : Cond.methodLink RX5 3 objectInit ∈ AW ∧ Cond.instanceMethod objectInit ∈ AW ∧ Cond.code objectInit ⟨#[0xb1]⟩ 1 none ∈ AW := ⟨(AWi 82 (by decide +kernel) rfl), t_obj⟩
set_option maxRecDepth 100000 in
theorem tc_X5_27 : XCs RX5 27 yX5_isOfPeople := ⟨(AWi 260 (by decide +kernel) rfl), (AWi 261 (by decide +kernel) rfl)⟩
set_option maxRecDepth 100000 in
theorem tc_X5_31 : XCs RX5 31 yX5_isOfCrimes := ⟨(AWi 269 (by decide +kernel) rfl), (AWi 270 (by decide +kernel) rfl)⟩
set_option maxRecDepth 100000 in
theorem tc_X5_37 : XCs RX5 37 yX5_isKindLetter := ⟨(AWi 263 (by decide +kernel) rfl), (AWi 264 (by decide +kernel) rfl)⟩
set_option maxRecDepth 100000 in
theorem tc_X5_41 : XCs RX5 41 yX5_isDigit := ⟨(AWi 266 (by decide +kernel) rfl), (AWi 267 (by decide +kernel) rfl)⟩
set_option maxRecDepth 100000 in
theorem tc_X5_19_5 : XCv RX5 19 5 yX5_codeAt := ⟨RX5, TX5, 2, rfl, (AWi 257 (by decide +kernel) rfl), Or.inl ⟨rfl, (AWi 256 (by decide +kernel) rfl), (AWi 258 (by decide +kernel) rfl)⟩⟩
set_option maxRecDepth 100000 in
theorem tc_X5_23_5 : XCv RX5 23 5 yX5_semicolon := ⟨RX5, TX5, 2, rfl, (AWi 253 (by decide +kernel) rfl), Or.inl ⟨rfl, (AWi 252 (by decide +kernel) rfl), (AWi 254 (by decide +kernel) rfl)⟩⟩
set_option maxRecDepth 100000 in
theorem tc_X5_34_5 : XCv RX5 34 5 yX5_firstFault := ⟨RX5, TX5, 2, rfl, (AWi 249 (by decide +kernel) rfl), Or.inl ⟨rfl, (AWi 280 (by decide +kernel) rfl), (AWi 250 (by decide +kernel) rfl)⟩⟩
set_option maxRecDepth 100000 in
theorem tc_X6_3 : Cond.methodLink RX6 3 objectInit ∈ AW ∧ Cond.instanceMethod objectInit ∈ AW ∧ Cond.code objectInit ⟨#[0xb1]⟩ 1 none ∈ AW := ⟨(AWi 96 (by decide +kernel) rfl), t_obj⟩
set_option maxRecDepth 100000 in
theorem tc_X6_62 : XCi RX6 62 yX8_init := ⟨rfl, (AWi 300 (by decide +kernel) rfl), Or.inl (AWi 299 (by decide +kernel) rfl)⟩
set_option maxRecDepth 100000 in
theorem tc_X6_67 : XCi RX6 67 yX0_init := ⟨rfl, (AWi 318 (by decide +kernel) rfl), Or.inl (AWi 317 (by decide +kernel) rfl)⟩
set_option maxRecDepth 100000 in
theorem tc_X6_70 : XCi RX6 70 yX2_init := ⟨rfl, (AWi 327 (by decide +kernel) rfl), Or.inl (AWi 326 (by decide +kernel) rfl)⟩
set_option maxRecDepth 100000 in
theorem tc_X6_73 : XCi RX6 73 yX9_init := ⟨rfl, (AWi 336 (by decide +kernel) rfl), Or.inl (AWi 335 (by decide +kernel) rfl)⟩
set_option maxRecDepth 100000 in
theorem tc_X6_74 : XCi RX6 74 yX3_init := ⟨rfl, (AWi 303 (by decide +kernel) rfl), Or.inl (AWi 343 (by decide +kernel) rfl)⟩
set_option maxRecDepth 100000 in
theorem tc_X6_75 : XCi RX6 75 yX1_init := ⟨rfl, (AWi 353 (by decide +kernel) rfl), Or.inl (AWi 352 (by decide +kernel) rfl)⟩
set_option maxRecDepth 100000 in
theorem tc_X6_36 : XCs RX6 36 yJ9_min_7cf53 := ⟨(AWi 286 (by decide +kernel) rfl), (AWi 287 (by decide +kernel) rfl)⟩
set_option maxRecDepth 100000 in
theorem tc_X6_42 : XCs RX6 42 yX6_manAt := ⟨(AWi 289 (by decide +kernel) rfl), (AWi 290 (by decide +kernel) rfl)⟩
set_option maxRecDepth 100000 in
theorem tc_X6_49 : XCs RX6 49 yX6_crimeAt := ⟨(AWi 348 (by decide +kernel) rfl), (AWi 349 (by decide +kernel) rfl)⟩
set_option maxRecDepth 100000 in
theorem tc_X6_30_5 : XCv RX6 30 5 yX5_semicolon := ⟨RX5, TX5, 2, rfl, (AWi 253 (by decide +kernel) rfl), Or.inl ⟨rfl, (AWi 285 (by decide +kernel) rfl), (AWi 254 (by decide +kernel) rfl)⟩⟩
set_option maxRecDepth 100000 in
theorem tc_X6_46_5 : XCv RX6 46 5 yX5_length := ⟨RX5, TX5, 2, rfl, (AWi 233 (by decide +kernel) rfl), Or.inl ⟨rfl, (AWi 347 (by decide +kernel) rfl), (AWi 234 (by decide +kernel) rfl)⟩⟩
set_option maxRecDepth 100000 in
theorem tc_X6_53_5 : XCv RX6 53 5 yX5_digitAt := ⟨RX5, TX5, 2, rfl, (AWi 293 (by decide +kernel) rfl), Or.inl ⟨rfl, (AWi 292 (by decide +kernel) rfl), (AWi 294 (by decide +kernel) rfl)⟩⟩
set_option maxRecDepth 100000 in
theorem tc_X6_57_5 : XCv RX6 57 5 yX5_codeAt := ⟨RX5, TX5, 2, rfl, (AWi 257 (by decide +kernel) rfl), Or.inl ⟨rfl, (AWi 296 (by decide +kernel) rfl), (AWi 258 (by decide +kernel) rfl)⟩⟩
set_option maxRecDepth 100000 in
theorem tc_X7_3 : Cond.methodLink RX7 3 objectInit ∈ AW ∧ Cond.instanceMethod objectInit ∈ AW ∧ Cond.code objectInit ⟨#[0xb1]⟩ 1 none ∈ AW := ⟨(AWi 119 (by decide +kernel) rfl), t_obj⟩
set_option maxRecDepth 100000 in
theorem tc_X7_20 : XCi RX7 20 yX10_init := ⟨rfl, (AWi 123 (by decide +kernel) rfl), Or.inr ⟨"ConfessBySize", by decide +kernel⟩⟩
set_option maxRecDepth 100000 in
theorem tc_X7_25_6 : XCv RX7 25 6 yX6_crimeOf := ⟨RX6, TX6, 4, rfl, (AWi 374 (by decide +kernel) rfl), Or.inl ⟨rfl, (AWi 373 (by decide +kernel) rfl), (AWi 375 (by decide +kernel) rfl)⟩⟩
set_option maxRecDepth 100000 in
theorem tc_X7_37_10 : XCv RX7 37 10 yX10_clear := ⟨RX10, TX10, 5, rfl, (AWi 378 (by decide +kernel) rfl), Or.inl ⟨rfl, (AWi 377 (by decide +kernel) rfl), (AWi 379 (by decide +kernel) rfl)⟩⟩
set_option maxRecDepth 100000 in
theorem tc_X7_46_7 : XCv RX7 46 7 yX7_sizeOf := ⟨RX7, TX7, 5, rfl, (AWi 437 (by decide +kernel) rfl), Or.inl ⟨rfl, (AWi 674 (by decide +kernel) rfl), (AWi 438 (by decide +kernel) rfl)⟩⟩
set_option maxRecDepth 100000 in
theorem tc_X7_50_7 : XCv RX7 50 7 yX7_crimeOn := ⟨RX7, TX7, 5, rfl, (AWi 424 (by decide +kernel) rfl), Or.inl ⟨rfl, (AWi 675 (by decide +kernel) rfl), (AWi 425 (by decide +kernel) rfl)⟩⟩
set_option maxRecDepth 100000 in
theorem tc_X7_53_10 : XCv RX7 53 10 yX10_copyFrom := ⟨RX10, TX10, 5, rfl, (AWi 677 (by decide +kernel) rfl), Or.inl ⟨rfl, (AWi 676 (by decide +kernel) rfl), (AWi 678 (by decide +kernel) rfl)⟩⟩
set_option maxRecDepth 100000 in
theorem tc_X8_3 : XCi RX8 3 yX3_init := ⟨rfl, (AWi 303 (by decide +kernel) rfl), Or.inl (AWi 302 (by decide +kernel) rfl)⟩
set_option maxRecDepth 100000 in
theorem tc_X9_3 : XCi RX9 3 yX8_init := ⟨rfl, (AWi 300 (by decide +kernel) rfl), Or.inl (AWi 338 (by decide +kernel) rfl)⟩
end
section
/-! deterministic contracts, booleans, heaps that are written -/
def XD (v : Option Value) (h1 : XH) : Option Value → XH → Prop := fun v1 h2 => v1 = v ∧ h2 = h1
theorem xs_same {h : XH} {i : Nat} {c c0 : XC} (ho : h[i]? = some c0) : (h.set i c)[i]? = some c := List.getElem?_set_self (List.getElem?_eq_some_iff.mp ho).1
theorem xs_ne {h : XH} {i j : Nat} {c : XC} {x : Option XC} (hij : i ≠ j) (ho : h[j]? = x) : (h.set i c)[j]? = x := by rw [List.getElem?_set_ne hij]; exact ho
theorem xa_old {h : XH} {j : Nat} {c : XC} {x : XC} (ho : h[j]? = some x) : (h ++ [c])[j]? = some x := by rw [List.getElem?_append_left (List.getElem?_eq_some_iff.mp ho).1]; exact ho
theorem xa_new {h : XH} {c : XC} : (h ++ [c])[h.length]? = some c := by simp
theorem xs_lt {h : XH} {i : Nat} {c : XC} (ho : h[i]? = some c) : i < h.length := (List.getElem?_eq_some_iff.mp ho).1
def bz (b : Bool) : Int := cond b 1 0
theorem bz_t : bz true = 1 := rfl
theorem bz_f : bz false = 0 := rfl
theorem bz_01 (b : Bool) : bz b = 0 ∨ bz b = 1 := by cases b <;> first | exact Or.inl rfl | exact Or.inr rfl
theorem bz_ri (b : Bool) : RI (bz b) := by cases b <;> exact ⟨by decide, by decide⟩
theorem bz_inj {a b : Bool} : bz a = bz b ↔ a = b := by cases a <;> cases b <;> decide
theorem bz_0 {b : Bool} : bz b = 0 ↔ b = false := by cases b <;> decide
theorem bz_1 {b : Bool} : bz b = 1 ↔ b = true := by cases b <;> decide
theorem xnar_bz (b : Bool) (α : Nat → Nat) : narrow .boolean (xcv α (.int (zI (bz b)))) = xcv α (.int (zI (bz b))) := by
  show narrow .boolean (.int (zI (bz b))) = .int (zI (bz b))
  cases b <;> decide +kernel
theorem xfit_bz (b : Bool) (α : Nat → Nat) : fits .boolean (xcv α (.int (zI (bz b)))) = true := by
  show fits .boolean (.int (zI (bz b))) = true
  cases b <;> decide +kernel
theorem xnarz_bz (b : Bool) : vp_nar .boolean (zI (bz b)) = zI (bz b) := by cases b <;> decide +kernel
theorem bzr1 {B : Bool} (h : B = true) : some (Value.int (zI 1)) = some (Value.int (zI (bz B))) := by rw [h]; rfl
theorem bzr0 {B : Bool} (h : B = false) : some (Value.int (zI 0)) = some (Value.int (zI (bz B))) := by rw [h]; rfl
theorem RI_0 : RI 0 := ⟨by decide, by decide⟩
theorem RI_m1 : RI (-1) := ⟨by decide, by decide⟩
theorem RI_zu {g : Nat → Int} {j : Nat} {x : Int} (hg : ∀ q, RI (g q)) (hx : RI x) : ∀ q, RI (zu g j x q) := fun q => by
  unfold zu
  split
  · exact hx
  · exact hg q
theorem zu_same (g : Nat → Int) (j : Nat) (x : Int) : zu g j x j = x := if_pos rfl
theorem zu_ne (g : Nat → Int) {j q : Nat} (x : Int) (h : q ≠ j) : zu g j x q = g q := if_neg h
theorem ru_same (g : Nat → Option Nat) (j : Nat) (x : Option Nat) : ru g j x j = x := if_pos rfl
theorem ru_ne (g : Nat → Option Nat) {j q : Nat} (x : Option Nat) (h : q ≠ j) : ru g j x q = g q := if_neg h
theorem i2b_ok {z : Int} (h : -128 ≤ z ∧ z ≤ 127) : (zI z).toInt8.toInt32 = zI z := by
  rw [← Int32.toInt_inj, Int8.toInt_toInt32, Int32.toInt_toInt8, zI_toInt ⟨by omega, by omega⟩]
  exact Int.bmod_eq_of_le (by omega) (by omega)
theorem xnarb_ok {z : Int} (h : -128 ≤ z ∧ z ≤ 127) : vp_nar .byte (zI z) = zI z := by rw [vp_nar_byte, i2b_ok h]
theorem ta_i : Cond.arrayClass .int ∈ AW := AWi 90 (by decide +kernel) rfl
theorem ta_b : Cond.arrayClass .byte ∈ AW := AWi 857 (by decide +kernel) rfl
theorem ta_z : Cond.arrayClass .boolean ∈ AW := AWi 142 (by decide +kernel) rfl
theorem XE.i2bZ {K : XK} {own : String} {cc : ByteArray} {nL k n pc : Nat} {ls : List (Nat × Value)} {st : List Value} {h : XH} {z : Int} (hd : decode cc pc = .ok (.i2b, 1)) (hz : -128 ≤ z ∧ z ≤ 127) (kk : XE K own cc nL k n (pc + 1) ls (.int (zI z) :: st) h) : XE K own cc nL k n (pc) ls (.int (zI z) :: st) h :=
  XE.i2b hd (by rw [i2b_ok hz]; exact kk)
theorem XE.ifz_eq {K : XK} {own : String} {cc : ByteArray} {nL k n pc : Nat} {ls : List (Nat × Value)} {st : List Value} {h : XH} {off : Int} {tgt : Nat} {b : Bool} (hd : decode cc pc = .ok (.ifCond .eq off, 3)) (ht : (pc : Int) + off = (tgt : Int)) (kt : b = false → XE K own cc nL k n (tgt) ls (st) h) (kf : b = true → XE K own cc nL k n (pc + 3) ls (st) h) : XE K own cc nL k n (pc) ls (.int (zI (bz b)) :: st) h :=
  XE.if_eq hd ht (bz_ri b) (fun q => kt (bz_0.mp q)) (fun q => kf (by cases b with | false => exact absurd rfl q | true => rfl))
theorem XE.ifz_eq_t {K : XK} {own : String} {cc : ByteArray} {nL k n pc : Nat} {ls : List (Nat × Value)} {st : List Value} {h : XH} {off : Int} {tgt : Nat} {b : Bool} (hd : decode cc pc = .ok (.ifCond .eq off, 3)) (ht : (pc : Int) + off = (tgt : Int)) (hc : b = false) (kt : XE K own cc nL k n (tgt) ls (st) h) : XE K own cc nL k n (pc) ls (.int (zI (bz b)) :: st) h :=
  XE.ifz_eq hd ht (fun _ => kt) (fun q => by rw [hc] at q; cases q)
theorem XE.ifz_eq_f {K : XK} {own : String} {cc : ByteArray} {nL k n pc : Nat} {ls : List (Nat × Value)} {st : List Value} {h : XH} {off : Int} {tgt : Nat} {b : Bool} (hd : decode cc pc = .ok (.ifCond .eq off, 3)) (ht : (pc : Int) + off = (tgt : Int)) (hc : b = true) (kf : XE K own cc nL k n (pc + 3) ls (st) h) : XE K own cc nL k n (pc) ls (.int (zI (bz b)) :: st) h :=
  XE.ifz_eq hd ht (fun q => by rw [hc] at q; cases q) (fun _ => kf)
theorem XE.ifz_ne {K : XK} {own : String} {cc : ByteArray} {nL k n pc : Nat} {ls : List (Nat × Value)} {st : List Value} {h : XH} {off : Int} {tgt : Nat} {b : Bool} (hd : decode cc pc = .ok (.ifCond .ne off, 3)) (ht : (pc : Int) + off = (tgt : Int)) (kt : b = true → XE K own cc nL k n (tgt) ls (st) h) (kf : b = false → XE K own cc nL k n (pc + 3) ls (st) h) : XE K own cc nL k n (pc) ls (.int (zI (bz b)) :: st) h :=
  XE.if_ne hd ht (bz_ri b) (fun q => kt (by cases b with | false => exact absurd rfl q | true => rfl)) (fun q => kf (bz_0.mp q))
theorem XE.ifz_ne_t {K : XK} {own : String} {cc : ByteArray} {nL k n pc : Nat} {ls : List (Nat × Value)} {st : List Value} {h : XH} {off : Int} {tgt : Nat} {b : Bool} (hd : decode cc pc = .ok (.ifCond .ne off, 3)) (ht : (pc : Int) + off = (tgt : Int)) (hc : b = true) (kt : XE K own cc nL k n (tgt) ls (st) h) : XE K own cc nL k n (pc) ls (.int (zI (bz b)) :: st) h :=
  XE.ifz_ne hd ht (fun _ => kt) (fun q => by rw [hc] at q; cases q)
theorem XE.ifz_ne_f {K : XK} {own : String} {cc : ByteArray} {nL k n pc : Nat} {ls : List (Nat × Value)} {st : List Value} {h : XH} {off : Int} {tgt : Nat} {b : Bool} (hd : decode cc pc = .ok (.ifCond .ne off, 3)) (ht : (pc : Int) + off = (tgt : Int)) (hc : b = false) (kf : XE K own cc nL k n (pc + 3) ls (st) h) : XE K own cc nL k n (pc) ls (.int (zI (bz b)) :: st) h :=
  XE.ifz_ne hd ht (fun q => by rw [hc] at q; cases q) (fun _ => kf)
theorem x_ofWF {l : Launch} {y : MethodName} {ws ws' : List Cond} {rm : Room} {Pc : Array Value → State → Prop} {Qc : Array Value → State → Outcome → State → Prop} {mc ms : Nat} {free : Addr → Prop} {cc : ByteArray} {maxL : Nat} {ret : Option FieldType}
    (hy : plainFor y = true) (hw : ws = Cond.code y cc maxL ret :: ws')
    (body : ∀ p e s m args below meth c s₁, BodyLoose p l y (headSpec ws rm) cc maxL ret e s m args below meth c s₁ → c.maxLocals = maxL → Pc args s →
      W p l e (headSpec ws rm).room s m args below meth c s.heap [] 0 0 (MQ below Qc args s mc ms free) (entryFrame m args maxL)) : Met l y ws rm Pc Qc mc ms free := by
  refine MetFree.of_bodySF (code := cc) (maxLocals := maxL) (ret := ret) hy ?_ ?_
  · intro args s m h hn
    obtain ⟨meth, c, h1, h2, h3, h4, h5, h6, -, -⟩ := Cond.code_spec hn (atoms_spec (ws := ws) h _ (by rw [hw]; exact List.mem_cons_self))
    exact ⟨meth, c, h1, h2, h3, h4, h5, h6⟩
  · intro p e s m args below meth c s₁ B hml hP _
    have hh0 : s₁.heap = s.heap := by rw [B.state]; rfl
    obtain ⟨t, a1, o, b1, b2, b3⟩ := body p e s m args below meth c s₁ B hml hP s₁ hh0 (Stand.of_body B)
    exact ⟨t, o, a1, b1, b2, ⟨b3.1, b3.2⟩⟩
theorem XSp.ofF {y : MethodName} {cc : ByteArray} {nL : Nat} {ret : Option FieldType} {d mc ms : Nat} {args : List Value} {h : XH} {P : Option Value → XH → Prop} (hy : plainFor y = true) (hn : (lg_sl args).length ≤ nL)
    (body : XE (XKM y ret d mc ms P) y.cls cc nL 0 0 0 (lv_args 0 args) [] h) : XSp y cc nL ret d mc ms args h P := by
  intro l D α sz tys ws hR hok
  refine x_ofWF (cc := cc) (maxL := nL) (ret := ret) hy rfl ?_
  intro p e s m args' below meth c s₁ B hml hv
  obtain ⟨rfl, hsz, hP, hK, hD0, hNF⟩ := hv
  subst hsz
  have hts := atoms_spec (ws := Cond.code y cc nL ret :: AW) B.pre
  have hD := hD0.self (sz := s.heap.size)
  have hA : ∀ q : Nat, s.heap.size ≤ q → va_A ws s.heap.size q := fun q h => Or.inr h
  have hl := lv_entry (args.map (xcv α)) (n := nL) (by rw [xlg_sl]; exact hn)
  rw [lg_entry_eq]
  rw [xlv_args] at hl
  exact body p l e (XRM d mc ms) s m _ below meth c (va_A ws s.heap.size) D α h.length _ ⟨rfl, B.returns, B.notSynchronized, (name_of_methodNamed B.named B.method).1, rfl⟩
    ⟨B.exec, B.bytes, hml, findClass_of_methodNamed B.named, fun w hw => hts w (List.mem_cons_of_mem _ hw), hA, hNF⟩ α s.heap [] _ (xag.rf _ _) (Nat.le_refl _) ⟨tys, ws, hK, hP, hD, va_S.rf, hR⟩ hl (xlv_args_ok args 0 hok) (fun v hv => by cases hv)
section CD
variable {K : XK} {own : String} {cc : ByteArray} {nL k n pc : Nat} {ls : List (Nat × Value)} {h : XH} {idx : Nat} {y : MethodName} {cc' : ByteArray} {nL' d mc ms a : Nat} {ret : Option FieldType} {As stk : List Value} {h1 : XH} {w : Value}
theorem XE.cvD0 {b ci : Nat} {fs : List Value} (st : List Value) (hc : XCv own idx ci y) (hm : XMI y cc' nL' ret a) (hd : decode cc pc = .ok (.invokevirtual idx, 3)) (hstk : stk = As.reverse ++ .ref b :: st) (hsp : XSp y cc' nL' ret d mc ms (.ref b :: As) h (XD none h1)) (ho : h[b]? = some (.inr (ci, fs))) (hlen : As.length = a) (hcat : Nat.ble (st.map fun v => v.category).sum 8 = true) (hroom : XRD K d nL' (k + mc) (n + ms)) (kk : XE K own cc nL (k + mc) (n + ms) (pc + 3) ls st h1) : XE K own cc nL k n pc ls stk h :=
  XE.callv hc hm ho hsp hd hstk hlen (Nat.le_of_ble_eq_true hcat) hroom (fun v1 h2 q => by obtain ⟨rfl, rfl⟩ := q; exact kk)
theorem XE.cvD1 {b ci : Nat} {fs : List Value} (st : List Value) (hc : XCv own idx ci y) (hm : XMI y cc' nL' ret a) (hd : decode cc pc = .ok (.invokevirtual idx, 3)) (hstk : stk = As.reverse ++ .ref b :: st) (hsp : XSp y cc' nL' ret d mc ms (.ref b :: As) h (XD (some w) h1)) (ho : h[b]? = some (.inr (ci, fs))) (hlen : As.length = a) (hcat : Nat.ble (st.map fun v => v.category).sum 8 = true) (hroom : XRD K d nL' (k + mc) (n + ms)) (kk : XE K own cc nL (k + mc) (n + ms) (pc + 3) ls (w :: st) h1) : XE K own cc nL k n pc ls stk h :=
  XE.callv hc hm ho hsp hd hstk hlen (Nat.le_of_ble_eq_true hcat) hroom (fun v1 h2 q => by obtain ⟨rfl, rfl⟩ := q; exact kk)
theorem XE.ciD0 {b : Nat} (st : List Value) (hc : XCi own idx y) (hm : XMI y cc' nL' none a) (hd : decode cc pc = .ok (.invokespecial idx, 3)) (hstk : stk = As.reverse ++ .ref b :: st) (hsp : XSp y cc' nL' none d mc ms (.ref b :: As) h (XD none h1)) (hlen : As.length = a) (hcat : Nat.ble (st.map fun v => v.category).sum 8 = true) (hroom : XRD K d nL' (k + mc) (n + ms)) (kk : XE K own cc nL (k + mc) (n + ms) (pc + 3) ls st h1) : XE K own cc nL k n pc ls stk h :=
  XE.calli hc hm hsp hd hstk hlen (Nat.le_of_ble_eq_true hcat) hroom (fun v1 h2 q => by obtain ⟨rfl, rfl⟩ := q; exact kk)
theorem XE.csD0 (st : List Value) (hc : XCs own idx y) (hm : XMI y cc' nL' ret a) (hd : decode cc pc = .ok (.invokestatic idx, 3)) (hstk : stk = As.reverse ++ st) (hsp : XSp y cc' nL' ret d mc ms As h (XD none h1)) (hlen : As.length = a) (hcat : Nat.ble (st.map fun v => v.category).sum 8 = true) (hroom : XRD K d nL' (k + mc) (n + ms)) (kk : XE K own cc nL (k + mc) (n + ms) (pc + 3) ls st h1) : XE K own cc nL k n pc ls stk h :=
  XE.calls hc hm hsp hd hstk hlen (Nat.le_of_ble_eq_true hcat) hroom (fun v1 h2 q => by obtain ⟨rfl, rfl⟩ := q; exact kk)
theorem XE.csD1 (st : List Value) (hc : XCs own idx y) (hm : XMI y cc' nL' ret a) (hd : decode cc pc = .ok (.invokestatic idx, 3)) (hstk : stk = As.reverse ++ st) (hsp : XSp y cc' nL' ret d mc ms As h (XD (some w) h1)) (hlen : As.length = a) (hcat : Nat.ble (st.map fun v => v.category).sum 8 = true) (hroom : XRD K d nL' (k + mc) (n + ms)) (kk : XE K own cc nL (k + mc) (n + ms) (pc + 3) ls (w :: st) h1) : XE K own cc nL k n pc ls stk h :=
  XE.calls hc hm hsp hd hstk hlen (Nat.le_of_ble_eq_true hcat) hroom (fun v1 h2 q => by obtain ⟨rfl, rfl⟩ := q; exact kk)
theorem XE.cvP {b ci : Nat} {fs : List Value} {P : Option Value → XH → Prop} (st : List Value) (hc : XCv own idx ci y) (hm : XMI y cc' nL' ret a) (hd : decode cc pc = .ok (.invokevirtual idx, 3)) (hstk : stk = As.reverse ++ .ref b :: st) (hsp : XSp y cc' nL' ret d mc ms (.ref b :: As) h P) (ho : h[b]? = some (.inr (ci, fs))) (hlen : As.length = a) (hcat : Nat.ble (st.map fun v => v.category).sum 8 = true) (hroom : XRD K d nL' (k + mc) (n + ms)) (kk : ∀ (v1 : Option Value) (h1 : XH), P v1 h1 → XE K own cc nL (k + mc) (n + ms) (pc + 3) ls (v1.toList ++ st) h1) : XE K own cc nL k n pc ls stk h :=
  XE.callv hc hm ho hsp hd hstk hlen (Nat.le_of_ble_eq_true hcat) hroom kk
theorem XE.ciP {b : Nat} {P : Option Value → XH → Prop} (st : List Value) (hc : XCi own idx y) (hm : XMI y cc' nL' none a) (hd : decode cc pc = .ok (.invokespecial idx, 3)) (hstk : stk = As.reverse ++ .ref b :: st) (hsp : XSp y cc' nL' none d mc ms (.ref b :: As) h P) (hlen : As.length = a) (hcat : Nat.ble (st.map fun v => v.category).sum 8 = true) (hroom : XRD K d nL' (k + mc) (n + ms)) (kk : ∀ (v1 : Option Value) (h1 : XH), P v1 h1 → XE K own cc nL (k + mc) (n + ms) (pc + 3) ls (v1.toList ++ st) h1) : XE K own cc nL k n pc ls stk h :=
  XE.calli hc hm hsp hd hstk hlen (Nat.le_of_ble_eq_true hcat) hroom kk
theorem XE.csP {P : Option Value → XH → Prop} (st : List Value) (hc : XCs own idx y) (hm : XMI y cc' nL' ret a) (hd : decode cc pc = .ok (.invokestatic idx, 3)) (hstk : stk = As.reverse ++ st) (hsp : XSp y cc' nL' ret d mc ms As h P) (hlen : As.length = a) (hcat : Nat.ble (st.map fun v => v.category).sum 8 = true) (hroom : XRD K d nL' (k + mc) (n + ms)) (kk : ∀ (v1 : Option Value) (h1 : XH), P v1 h1 → XE K own cc nL (k + mc) (n + ms) (pc + 3) ls (v1.toList ++ st) h1) : XE K own cc nL k n pc ls stk h :=
  XE.calls hc hm hsp hd hstk hlen (Nat.le_of_ble_eq_true hcat) hroom kk
end CD
end
section
/-! the leaves: numbers, people, crimes -/
def absZ (z : Int) : Int := if 0 ≤ z then z else -z
def maxZ (a b : Int) : Int := if b ≤ a then a else b
def minZ (a b : Int) : Int := if a ≤ b then a else b
def bearsZ (kd : Int) : Int := if kd = 1 ∨ kd = 4 then 2 else if kd = 2 then 0 else 1
def cntZ (kd s : Int) : Int := if kd = 3 then s + 1 else s
def handB (kd hd c : Int) : Bool := decide (kd = 4) || decide (hd = c)
def confB (kd : Int) : Bool := !decide (kd = 2)
def fitB (kd hd s cs ch : Int) : Bool := handB kd hd ch && (decide (-(bearsZ kd) ≤ cs - cntZ kd s) && decide (cs - cntZ kd s ≤ bearsZ kd))
def mci (kd : Int) : Nat := if kd = 1 then 8 else if kd = 2 then 0 else if kd = 3 then 2 else if kd = 4 then 9 else 3
def mO (kd sz hd : Int) : XC := .inr (mci kd, [.int (zI sz), .int (zI hd)])
def cO (ts hd rw : Int) : XC := .inr (1, [.int (zI ts), .int (zI hd), .int (zI rw)])
def MAN (ci : Nat) : Prop := ci = 0 ∨ ci = 2 ∨ ci = 3 ∨ ci = 8 ∨ ci = 9
theorem mci_man (kd : Int) : MAN (mci kd) := by
  unfold mci MAN
  repeat' split
  all_goals simp
theorem kd5 {kd : Int} (h : 0 ≤ kd ∧ kd ≤ 4) : kd = 0 ∨ kd = 1 ∨ kd = 2 ∨ kd = 3 ∨ kd = 4 := by omega
set_option maxHeartbeats 1000000 in
set_option maxRecDepth 20000 in
theorem s_abs {z : Int} {h : XH} (rz : RI z) : XSp yJ9_abs_0f7a4 cJ9_abs_0f7a4 1 (some FieldType.int) 1 0 0 [.int (zI z)] h (XD (some (.int (zI (absZ z)))) h) := by
  refine XSp.ofF (by decide +kernel) (Nat.le_of_ble_eq_true rfl) ?_
  show XE _ RJ9 cJ9_abs_0f7a4 1 0 0 0 [(0, .int (zI z))] [] _
  refine XE.iload_n (pc := 0) dJ9_abs_0f7a4_0 rfl ?_
  refine XE.if_ge (pc := 1) (tgt := 9) dJ9_abs_0f7a4_1 (by decide) (by first | omega | assumption) (fun c_1 => ?_) (fun c_1 => ?_)
  · refine XE.iload_n (pc := 9) dJ9_abs_0f7a4_9 rfl ?_
    exact XE.ireturn (pc := 10) dJ9_abs_0f7a4_10 (by first | exact Nat.zero_le _ | decide) (by first | exact Nat.zero_le _ | decide) (by refine ⟨?_, rfl⟩; unfold absZ; split <;> first | rfl | omega)
  · refine XE.iload_n (pc := 4) dJ9_abs_0f7a4_4 rfl ?_
    refine XE.ineg (pc := 5) dJ9_abs_0f7a4_5 ?_
    refine XE.goto (pc := 6) (tgt := 10) dJ9_abs_0f7a4_6 (by decide) ?_
    exact XE.ireturn (pc := 10) dJ9_abs_0f7a4_10 (by first | exact Nat.zero_le _ | decide) (by first | exact Nat.zero_le _ | decide) (by refine ⟨?_, rfl⟩; unfold absZ; split <;> first | rfl | omega)
set_option maxHeartbeats 1000000 in
set_option maxRecDepth 20000 in
theorem s_max {a b : Int} {h : XH} (ra : RI a) (rb : RI b) : XSp yJ9_max_7cf53 cJ9_max_7cf53 2 (some FieldType.int) 1 0 0 [.int (zI a), .int (zI b)] h (XD (some (.int (zI (maxZ a b)))) h) := by
  refine XSp.ofF (by decide +kernel) (Nat.le_of_ble_eq_true rfl) ?_
  show XE _ RJ9 cJ9_max_7cf53 2 0 0 0 [(0, .int (zI a)), (1, .int (zI b))] [] _
  refine XE.iload_n (pc := 0) dJ9_max_7cf53_0 rfl ?_
  refine XE.iload_n (pc := 1) dJ9_max_7cf53_1 rfl ?_
  refine XE.icmp_lt (pc := 2) (tgt := 9) dJ9_max_7cf53_2 (by decide) (by first | omega | assumption) (by first | omega | assumption) (fun c_2 => ?_) (fun c_2 => ?_)
  · refine XE.iload_n (pc := 9) dJ9_max_7cf53_9 rfl ?_
    exact XE.ireturn (pc := 10) dJ9_max_7cf53_10 (by first | exact Nat.zero_le _ | decide) (by first | exact Nat.zero_le _ | decide) (by refine ⟨?_, rfl⟩; unfold maxZ; split <;> first | rfl | omega)
  · refine XE.iload_n (pc := 5) dJ9_max_7cf53_5 rfl ?_
    refine XE.goto (pc := 6) (tgt := 10) dJ9_max_7cf53_6 (by decide) ?_
    exact XE.ireturn (pc := 10) dJ9_max_7cf53_10 (by first | exact Nat.zero_le _ | decide) (by first | exact Nat.zero_le _ | decide) (by refine ⟨?_, rfl⟩; unfold maxZ; split <;> first | rfl | omega)
set_option maxHeartbeats 1000000 in
set_option maxRecDepth 20000 in
theorem s_min {a b : Int} {h : XH} (ra : RI a) (rb : RI b) : XSp yJ9_min_7cf53 cJ9_min_7cf53 2 (some FieldType.int) 1 0 0 [.int (zI a), .int (zI b)] h (XD (some (.int (zI (minZ a b)))) h) := by
  refine XSp.ofF (by decide +kernel) (Nat.le_of_ble_eq_true rfl) ?_
  show XE _ RJ9 cJ9_min_7cf53 2 0 0 0 [(0, .int (zI a)), (1, .int (zI b))] [] _
  refine XE.iload_n (pc := 0) dJ9_min_7cf53_0 rfl ?_
  refine XE.iload_n (pc := 1) dJ9_min_7cf53_1 rfl ?_
  refine XE.icmp_gt (pc := 2) (tgt := 9) dJ9_min_7cf53_2 (by decide) (by first | omega | assumption) (by first | omega | assumption) (fun c_2 => ?_) (fun c_2 => ?_)
  · refine XE.iload_n (pc := 9) dJ9_min_7cf53_9 rfl ?_
    exact XE.ireturn (pc := 10) dJ9_min_7cf53_10 (by first | exact Nat.zero_le _ | decide) (by first | exact Nat.zero_le _ | decide) (by refine ⟨?_, rfl⟩; unfold minZ; split <;> first | rfl | omega)
  · refine XE.iload_n (pc := 5) dJ9_min_7cf53_5 rfl ?_
    refine XE.goto (pc := 6) (tgt := 10) dJ9_min_7cf53_6 (by decide) ?_
    exact XE.ireturn (pc := 10) dJ9_min_7cf53_10 (by first | exact Nat.zero_le _ | decide) (by first | exact Nat.zero_le _ | decide) (by refine ⟨?_, rfl⟩; unfold minZ; split <;> first | rfl | omega)
set_option maxHeartbeats 1000000 in
set_option maxRecDepth 20000 in
theorem s_Man_init {r ci : Nat} {a b x y : Int} {h : XH} (hci : MAN ci) (ho : h[r]? = some (.inr (ci, [.int (zI a), .int (zI b)]))) : XSp yX3_init cX3_init 3 none 1 0 0 [.ref r, .int (zI x), .int (zI y)] h (XD none (h.set r (.inr (ci, [.int (zI x), .int (zI y)])))) := by
  refine XSp.ofF (by decide +kernel) (Nat.le_of_ble_eq_true rfl) ?_
  show XE _ RX3 cX3_init 3 0 0 0 [(0, .ref r), (1, .int (zI x)), (2, .int (zI y))] [] _
  rcases hci with rfl | rfl | rfl | rfl | rfl
  · refine XE.aload_n (pc := 0) dX3_init_0 rfl ?_
    refine XE.objInit (pc := 1) tc_X3_3 dX3_init_1 (XRD.km (by decide) (by decide) (Nat.zero_le _) (Nat.zero_le _)) rfl ?_
    refine XE.aload_n (pc := 4) dX3_init_4 rfl ?_
    refine XE.iload_n (pc := 5) dX3_init_5 rfl ?_
    refine XE.putfieldF (pc := 6) (XIN.km rfl) tp_X3_9_0 dX3_init_6 ⟨_, _, _, rfl, rfl⟩ (by first | assumption | (repeat (first | refine xs_ne (by first | decide | assumption | omega) ?_ | exact xa_new | apply xa_old)); first | done | assumption | (apply xs_same; repeat (first | assumption | exact xa_new | refine xs_ne (by first | decide | assumption | omega) ?_ | apply xs_same | apply xa_old))) (fun _ => ⟨by first | rfl | exact xnar_bz _ | decide +kernel, by first | rfl | exact xfit_bz _ | decide +kernel⟩) (Nat.le_of_ble_eq_true rfl) ?_
    refine XE.aload_n (pc := 9) dX3_init_9 rfl ?_
    refine XE.iload_n (pc := 10) dX3_init_10 rfl ?_
    refine XE.putfieldF (pc := 11) (XIN.km rfl) tp_X3_15_0 dX3_init_11 ⟨_, _, _, rfl, rfl⟩ (by first | assumption | (repeat (first | refine xs_ne (by first | decide | assumption | omega) ?_ | exact xa_new | apply xa_old)); first | done | assumption | (apply xs_same; repeat (first | assumption | exact xa_new | refine xs_ne (by first | decide | assumption | omega) ?_ | apply xs_same | apply xa_old))) (fun _ => ⟨by first | rfl | exact xnar_bz _ | decide +kernel, by first | rfl | exact xfit_bz _ | decide +kernel⟩) (Nat.le_of_ble_eq_true rfl) ?_
    exact XE.vreturn (pc := 14)  dX3_init_14 (by first | exact Nat.zero_le _ | decide) (by first | exact Nat.zero_le _ | decide) (by exact ⟨rfl, by rw [List.set_set]; rfl⟩)
  · refine XE.aload_n (pc := 0) dX3_init_0 rfl ?_
    refine XE.objInit (pc := 1) tc_X3_3 dX3_init_1 (XRD.km (by decide) (by decide) (Nat.zero_le _) (Nat.zero_le _)) rfl ?_
    refine XE.aload_n (pc := 4) dX3_init_4 rfl ?_
    refine XE.iload_n (pc := 5) dX3_init_5 rfl ?_
    refine XE.putfieldF (pc := 6) (XIN.km rfl) tp_X3_9_2 dX3_init_6 ⟨_, _, _, rfl, rfl⟩ (by first | assumption | (repeat (first | refine xs_ne (by first | decide | assumption | omega) ?_ | exact xa_new | apply xa_old)); first | done | assumption | (apply xs_same; repeat (first | assumption | exact xa_new | refine xs_ne (by first | decide | assumption | omega) ?_ | apply xs_same | apply xa_old))) (fun _ => ⟨by first | rfl | exact xnar_bz _ | decide +kernel, by first | rfl | exact xfit_bz _ | decide +kernel⟩) (Nat.le_of_ble_eq_true rfl) ?_
    refine XE.aload_n (pc := 9) dX3_init_9 rfl ?_
    refine XE.iload_n (pc := 10) dX3_init_10 rfl ?_
    refine XE.putfieldF (pc := 11) (XIN.km rfl) tp_X3_15_2 dX3_init_11 ⟨_, _, _, rfl, rfl⟩ (by first | assumption | (repeat (first | refine xs_ne (by first | decide | assumption | omega) ?_ | exact xa_new | apply xa_old)); first | done | assumption | (apply xs_same; repeat (first | assumption | exact xa_new | refine xs_ne (by first | decide | assumption | omega) ?_ | apply xs_same | apply xa_old))) (fun _ => ⟨by first | rfl | exact xnar_bz _ | decide +kernel, by first | rfl | exact xfit_bz _ | decide +kernel⟩) (Nat.le_of_ble_eq_true rfl) ?_
    exact XE.vreturn (pc := 14)  dX3_init_14 (by first | exact Nat.zero_le _ | decide) (by first | exact Nat.zero_le _ | decide) (by exact ⟨rfl, by rw [List.set_set]; rfl⟩)
  · refine XE.aload_n (pc := 0) dX3_init_0 rfl ?_
    refine XE.objInit (pc := 1) tc_X3_3 dX3_init_1 (XRD.km (by decide) (by decide) (Nat.zero_le _) (Nat.zero_le _)) rfl ?_
    refine XE.aload_n (pc := 4) dX3_init_4 rfl ?_
    refine XE.iload_n (pc := 5) dX3_init_5 rfl ?_
    refine XE.putfieldF (pc := 6) (XIN.km rfl) tp_X3_9_3 dX3_init_6 ⟨_, _, _, rfl, rfl⟩ (by first | assumption | (repeat (first | refine xs_ne (by first | decide | assumption | omega) ?_ | exact xa_new | apply xa_old)); first | done | assumption | (apply xs_same; repeat (first | assumption | exact xa_new | refine xs_ne (by first | decide | assumption | omega) ?_ | apply xs_same | apply xa_old))) (fun _ => ⟨by first | rfl | exact xnar_bz _ | decide +kernel, by first | rfl | exact xfit_bz _ | decide +kernel⟩) (Nat.le_of_ble_eq_true rfl) ?_
    refine XE.aload_n (pc := 9) dX3_init_9 rfl ?_
    refine XE.iload_n (pc := 10) dX3_init_10 rfl ?_
    refine XE.putfieldF (pc := 11) (XIN.km rfl) tp_X3_15_3 dX3_init_11 ⟨_, _, _, rfl, rfl⟩ (by first | assumption | (repeat (first | refine xs_ne (by first | decide | assumption | omega) ?_ | exact xa_new | apply xa_old)); first | done | assumption | (apply xs_same; repeat (first | assumption | exact xa_new | refine xs_ne (by first | decide | assumption | omega) ?_ | apply xs_same | apply xa_old))) (fun _ => ⟨by first | rfl | exact xnar_bz _ | decide +kernel, by first | rfl | exact xfit_bz _ | decide +kernel⟩) (Nat.le_of_ble_eq_true rfl) ?_
    exact XE.vreturn (pc := 14)  dX3_init_14 (by first | exact Nat.zero_le _ | decide) (by first | exact Nat.zero_le _ | decide) (by exact ⟨rfl, by rw [List.set_set]; rfl⟩)
  · refine XE.aload_n (pc := 0) dX3_init_0 rfl ?_
    refine XE.objInit (pc := 1) tc_X3_3 dX3_init_1 (XRD.km (by decide) (by decide) (Nat.zero_le _) (Nat.zero_le _)) rfl ?_
    refine XE.aload_n (pc := 4) dX3_init_4 rfl ?_
    refine XE.iload_n (pc := 5) dX3_init_5 rfl ?_
    refine XE.putfieldF (pc := 6) (XIN.km rfl) tp_X3_9_8 dX3_init_6 ⟨_, _, _, rfl, rfl⟩ (by first | assumption | (repeat (first | refine xs_ne (by first | decide | assumption | omega) ?_ | exact xa_new | apply xa_old)); first | done | assumption | (apply xs_same; repeat (first | assumption | exact xa_new | refine xs_ne (by first | decide | assumption | omega) ?_ | apply xs_same | apply xa_old))) (fun _ => ⟨by first | rfl | exact xnar_bz _ | decide +kernel, by first | rfl | exact xfit_bz _ | decide +kernel⟩) (Nat.le_of_ble_eq_true rfl) ?_
    refine XE.aload_n (pc := 9) dX3_init_9 rfl ?_
    refine XE.iload_n (pc := 10) dX3_init_10 rfl ?_
    refine XE.putfieldF (pc := 11) (XIN.km rfl) tp_X3_15_8 dX3_init_11 ⟨_, _, _, rfl, rfl⟩ (by first | assumption | (repeat (first | refine xs_ne (by first | decide | assumption | omega) ?_ | exact xa_new | apply xa_old)); first | done | assumption | (apply xs_same; repeat (first | assumption | exact xa_new | refine xs_ne (by first | decide | assumption | omega) ?_ | apply xs_same | apply xa_old))) (fun _ => ⟨by first | rfl | exact xnar_bz _ | decide +kernel, by first | rfl | exact xfit_bz _ | decide +kernel⟩) (Nat.le_of_ble_eq_true rfl) ?_
    exact XE.vreturn (pc := 14)  dX3_init_14 (by first | exact Nat.zero_le _ | decide) (by first | exact Nat.zero_le _ | decide) (by exact ⟨rfl, by rw [List.set_set]; rfl⟩)
  · refine XE.aload_n (pc := 0) dX3_init_0 rfl ?_
    refine XE.objInit (pc := 1) tc_X3_3 dX3_init_1 (XRD.km (by decide) (by decide) (Nat.zero_le _) (Nat.zero_le _)) rfl ?_
    refine XE.aload_n (pc := 4) dX3_init_4 rfl ?_
    refine XE.iload_n (pc := 5) dX3_init_5 rfl ?_
    refine XE.putfieldF (pc := 6) (XIN.km rfl) tp_X3_9_9 dX3_init_6 ⟨_, _, _, rfl, rfl⟩ (by first | assumption | (repeat (first | refine xs_ne (by first | decide | assumption | omega) ?_ | exact xa_new | apply xa_old)); first | done | assumption | (apply xs_same; repeat (first | assumption | exact xa_new | refine xs_ne (by first | decide | assumption | omega) ?_ | apply xs_same | apply xa_old))) (fun _ => ⟨by first | rfl | exact xnar_bz _ | decide +kernel, by first | rfl | exact xfit_bz _ | decide +kernel⟩) (Nat.le_of_ble_eq_true rfl) ?_
    refine XE.aload_n (pc := 9) dX3_init_9 rfl ?_
    refine XE.iload_n (pc := 10) dX3_init_10 rfl ?_
    refine XE.putfieldF (pc := 11) (XIN.km rfl) tp_X3_15_9 dX3_init_11 ⟨_, _, _, rfl, rfl⟩ (by first | assumption | (repeat (first | refine xs_ne (by first | decide | assumption | omega) ?_ | exact xa_new | apply xa_old)); first | done | assumption | (apply xs_same; repeat (first | assumption | exact xa_new | refine xs_ne (by first | decide | assumption | omega) ?_ | apply xs_same | apply xa_old))) (fun _ => ⟨by first | rfl | exact xnar_bz _ | decide +kernel, by first | rfl | exact xfit_bz _ | decide +kernel⟩) (Nat.le_of_ble_eq_true rfl) ?_
    exact XE.vreturn (pc := 14)  dX3_init_14 (by first | exact Nat.zero_le _ | decide) (by first | exact Nat.zero_le _ | decide) (by exact ⟨rfl, by rw [List.set_set]; rfl⟩)
set_option maxHeartbeats 1000000 in
set_option maxRecDepth 20000 in
theorem s_Boy_init {r : Nat} {a b x y : Int} {h : XH} (ho : h[r]? = some (.inr (0, [.int (zI a), .int (zI b)]))) : XSp yX0_init cX0_init 3 none 2 0 0 [.ref r, .int (zI x), .int (zI y)] h (XD none (h.set r (.inr (0, [.int (zI x), .int (zI y)])))) := by
  refine XSp.ofF (by decide +kernel) (Nat.le_of_ble_eq_true rfl) ?_
  show XE _ RX0 cX0_init 3 0 0 0 [(0, .ref r), (1, .int (zI x)), (2, .int (zI y))] [] _
  refine XE.aload_n (pc := 0) dX0_init_0 rfl ?_
  refine XE.iload_n (pc := 1) dX0_init_1 rfl ?_
  refine XE.iload_n (pc := 2) dX0_init_2 rfl ?_
  refine XE.ciD0 (pc := 3) (st := []) tc_X0_3 tm_X3_init dX0_init_3 (by exact rfl) (s_Man_init (ci := 0) (by unfold MAN; decide) (by assumption))  rfl rfl (XRD.km (by decide) (by decide) (by decide) (by decide)) ?_
  exact XE.vreturn (pc := 6)  dX0_init_6 (by first | exact Nat.zero_le _ | decide) (by first | exact Nat.zero_le _ | decide) (by first | exact ⟨rfl, rfl⟩ | exact ⟨by simp_all, rfl⟩)
set_option maxHeartbeats 1000000 in
set_option maxRecDepth 20000 in
theorem s_Irish_init {r : Nat} {a b x y : Int} {h : XH} (ho : h[r]? = some (.inr (2, [.int (zI a), .int (zI b)]))) : XSp yX2_init cX2_init 3 none 2 0 0 [.ref r, .int (zI x), .int (zI y)] h (XD none (h.set r (.inr (2, [.int (zI x), .int (zI y)])))) := by
  refine XSp.ofF (by decide +kernel) (Nat.le_of_ble_eq_true rfl) ?_
  show XE _ RX2 cX2_init 3 0 0 0 [(0, .ref r), (1, .int (zI x)), (2, .int (zI y))] [] _
  refine XE.aload_n (pc := 0) dX2_init_0 rfl ?_
  refine XE.iload_n (pc := 1) dX2_init_1 rfl ?_
  refine XE.iload_n (pc := 2) dX2_init_2 rfl ?_
  refine XE.ciD0 (pc := 3) (st := []) tc_X2_3 tm_X3_init dX2_init_3 (by exact rfl) (s_Man_init (ci := 2) (by unfold MAN; decide) (by assumption))  rfl rfl (XRD.km (by decide) (by decide) (by decide) (by decide)) ?_
  exact XE.vreturn (pc := 6)  dX2_init_6 (by first | exact Nat.zero_le _ | decide) (by first | exact Nat.zero_le _ | decide) (by first | exact ⟨rfl, rfl⟩ | exact ⟨by simp_all, rfl⟩)
set_option maxHeartbeats 1000000 in
set_option maxRecDepth 20000 in
theorem s_Tailor_init {r ci : Nat} {a b x y : Int} {h : XH} (hci : MAN ci) (ho : h[r]? = some (.inr (ci, [.int (zI a), .int (zI b)]))) : XSp yX8_init cX8_init 3 none 2 0 0 [.ref r, .int (zI x), .int (zI y)] h (XD none (h.set r (.inr (ci, [.int (zI x), .int (zI y)])))) := by
  refine XSp.ofF (by decide +kernel) (Nat.le_of_ble_eq_true rfl) ?_
  show XE _ RX8 cX8_init 3 0 0 0 [(0, .ref r), (1, .int (zI x)), (2, .int (zI y))] [] _
  refine XE.aload_n (pc := 0) dX8_init_0 rfl ?_
  refine XE.iload_n (pc := 1) dX8_init_1 rfl ?_
  refine XE.iload_n (pc := 2) dX8_init_2 rfl ?_
  refine XE.ciD0 (pc := 3) (st := []) tc_X8_3 tm_X3_init dX8_init_3 (by exact rfl) (s_Man_init hci (by assumption))  rfl rfl (XRD.km (by decide) (by decide) (by decide) (by decide)) ?_
  exact XE.vreturn (pc := 6)  dX8_init_6 (by first | exact Nat.zero_le _ | decide) (by first | exact Nat.zero_le _ | decide) (by first | exact ⟨rfl, rfl⟩ | exact ⟨by simp_all, rfl⟩)
set_option maxHeartbeats 1000000 in
set_option maxRecDepth 20000 in
theorem s_Thief_init {r : Nat} {a b x y : Int} {h : XH} (ho : h[r]? = some (.inr (9, [.int (zI a), .int (zI b)]))) : XSp yX9_init cX9_init 3 none 3 0 0 [.ref r, .int (zI x), .int (zI y)] h (XD none (h.set r (.inr (9, [.int (zI x), .int (zI y)])))) := by
  refine XSp.ofF (by decide +kernel) (Nat.le_of_ble_eq_true rfl) ?_
  show XE _ RX9 cX9_init 3 0 0 0 [(0, .ref r), (1, .int (zI x)), (2, .int (zI y))] [] _
  refine XE.aload_n (pc := 0) dX9_init_0 rfl ?_
  refine XE.iload_n (pc := 1) dX9_init_1 rfl ?_
  refine XE.iload_n (pc := 2) dX9_init_2 rfl ?_
  refine XE.ciD0 (pc := 3) (st := []) tc_X9_3 tm_X8_init dX9_init_3 (by exact rfl) (s_Tailor_init (ci := 9) (by unfold MAN; decide) (by assumption))  rfl rfl (XRD.km (by decide) (by decide) (by decide) (by decide)) ?_
  exact XE.vreturn (pc := 6)  dX9_init_6 (by first | exact Nat.zero_le _ | decide) (by first | exact Nat.zero_le _ | decide) (by first | exact ⟨rfl, rfl⟩ | exact ⟨by simp_all, rfl⟩)
set_option maxHeartbeats 1000000 in
set_option maxRecDepth 20000 in
theorem s_Crime_init {r : Nat} {a b c x y z : Int} {h : XH} (ho : h[r]? = some (cO a b c)) : XSp yX1_init cX1_init 4 none 1 0 0 [.ref r, .int (zI x), .int (zI y), .int (zI z)] h (XD none (h.set r (cO x y z))) := by
  refine XSp.ofF (by decide +kernel) (Nat.le_of_ble_eq_true rfl) ?_
  show XE _ RX1 cX1_init 4 0 0 0 [(0, .ref r), (1, .int (zI x)), (2, .int (zI y)), (3, .int (zI z))] [] _
  refine XE.aload_n (pc := 0) dX1_init_0 rfl ?_
  refine XE.objInit (pc := 1) tc_X1_1 dX1_init_1 (XRD.km (by decide) (by decide) (Nat.zero_le _) (Nat.zero_le _)) rfl ?_
  refine XE.aload_n (pc := 4) dX1_init_4 rfl ?_
  refine XE.iload_n (pc := 5) dX1_init_5 rfl ?_
  refine XE.putfieldF (pc := 6) (XIN.km rfl) tp_X1_7_1 dX1_init_6 ⟨_, _, _, rfl, rfl⟩ (by first | assumption | (repeat (first | refine xs_ne (by first | decide | assumption | omega) ?_ | exact xa_new | apply xa_old)); first | done | assumption | (apply xs_same; repeat (first | assumption | exact xa_new | refine xs_ne (by first | decide | assumption | omega) ?_ | apply xs_same | apply xa_old))) (fun _ => ⟨by first | rfl | exact xnar_bz _ | decide +kernel, by first | rfl | exact xfit_bz _ | decide +kernel⟩) (Nat.le_of_ble_eq_true rfl) ?_
  refine XE.aload_n (pc := 9) dX1_init_9 rfl ?_
  refine XE.iload_n (pc := 10) dX1_init_10 rfl ?_
  refine XE.putfieldF (pc := 11) (XIN.km rfl) tp_X1_13_1 dX1_init_11 ⟨_, _, _, rfl, rfl⟩ (by first | assumption | (repeat (first | refine xs_ne (by first | decide | assumption | omega) ?_ | exact xa_new | apply xa_old)); first | done | assumption | (apply xs_same; repeat (first | assumption | exact xa_new | refine xs_ne (by first | decide | assumption | omega) ?_ | apply xs_same | apply xa_old))) (fun _ => ⟨by first | rfl | exact xnar_bz _ | decide +kernel, by first | rfl | exact xfit_bz _ | decide +kernel⟩) (Nat.le_of_ble_eq_true rfl) ?_
  refine XE.aload_n (pc := 14) dX1_init_14 rfl ?_
  refine XE.iload_n (pc := 15) dX1_init_15 rfl ?_
  refine XE.putfieldF (pc := 16) (XIN.km rfl) tp_X1_16_1 dX1_init_16 ⟨_, _, _, rfl, rfl⟩ (by first | assumption | (repeat (first | refine xs_ne (by first | decide | assumption | omega) ?_ | exact xa_new | apply xa_old)); first | done | assumption | (apply xs_same; repeat (first | assumption | exact xa_new | refine xs_ne (by first | decide | assumption | omega) ?_ | apply xs_same | apply xa_old))) (fun _ => ⟨by first | rfl | exact xnar_bz _ | decide +kernel, by first | rfl | exact xfit_bz _ | decide +kernel⟩) (Nat.le_of_ble_eq_true rfl) ?_
  exact XE.vreturn (pc := 19)  dX1_init_19 (by first | exact Nat.zero_le _ | decide) (by first | exact Nat.zero_le _ | decide) (by exact ⟨rfl, by rw [List.set_set, List.set_set]; rfl⟩)
set_option maxHeartbeats 1000000 in
set_option maxRecDepth 20000 in
theorem s_Boy_kind {r : Nat} {h : XH}  : XSp yX0_kind cX0_kind 1 (some FieldType.int) 1 0 0 [.ref r] h (XD (some (.int (zI 2))) h) := by
  refine XSp.ofF (by decide +kernel) (Nat.le_of_ble_eq_true rfl) ?_
  show XE _ RX0 cX0_kind 1 0 0 0 [(0, .ref r)] [] _
  refine XE.iconst (pc := 0) dX0_kind_0 ?_
  exact XE.ireturn (pc := 1) dX0_kind_1 (by first | exact Nat.zero_le _ | decide) (by first | exact Nat.zero_le _ | decide) (by first | exact ⟨rfl, rfl⟩ | exact ⟨by simp_all, rfl⟩)
set_option maxHeartbeats 1000000 in
set_option maxRecDepth 20000 in
theorem s_Irish_kind {r : Nat} {h : XH}  : XSp yX2_kind cX2_kind 1 (some FieldType.int) 1 0 0 [.ref r] h (XD (some (.int (zI 3))) h) := by
  refine XSp.ofF (by decide +kernel) (Nat.le_of_ble_eq_true rfl) ?_
  show XE _ RX2 cX2_kind 1 0 0 0 [(0, .ref r)] [] _
  refine XE.iconst (pc := 0) dX2_kind_0 ?_
  exact XE.ireturn (pc := 1) dX2_kind_1 (by first | exact Nat.zero_le _ | decide) (by first | exact Nat.zero_le _ | decide) (by first | exact ⟨rfl, rfl⟩ | exact ⟨by simp_all, rfl⟩)
set_option maxHeartbeats 1000000 in
set_option maxRecDepth 20000 in
theorem s_Man_kind {r : Nat} {h : XH}  : XSp yX3_kind cX3_kind 1 (some FieldType.int) 1 0 0 [.ref r] h (XD (some (.int (zI 0))) h) := by
  refine XSp.ofF (by decide +kernel) (Nat.le_of_ble_eq_true rfl) ?_
  show XE _ RX3 cX3_kind 1 0 0 0 [(0, .ref r)] [] _
  refine XE.iconst (pc := 0) dX3_kind_0 ?_
  exact XE.ireturn (pc := 1) dX3_kind_1 (by first | exact Nat.zero_le _ | decide) (by first | exact Nat.zero_le _ | decide) (by first | exact ⟨rfl, rfl⟩ | exact ⟨by simp_all, rfl⟩)
set_option maxHeartbeats 1000000 in
set_option maxRecDepth 20000 in
theorem s_Tailor_kind {r : Nat} {h : XH}  : XSp yX8_kind cX8_kind 1 (some FieldType.int) 1 0 0 [.ref r] h (XD (some (.int (zI 1))) h) := by
  refine XSp.ofF (by decide +kernel) (Nat.le_of_ble_eq_true rfl) ?_
  show XE _ RX8 cX8_kind 1 0 0 0 [(0, .ref r)] [] _
  refine XE.iconst (pc := 0) dX8_kind_0 ?_
  exact XE.ireturn (pc := 1) dX8_kind_1 (by first | exact Nat.zero_le _ | decide) (by first | exact Nat.zero_le _ | decide) (by first | exact ⟨rfl, rfl⟩ | exact ⟨by simp_all, rfl⟩)
set_option maxHeartbeats 1000000 in
set_option maxRecDepth 20000 in
theorem s_Thief_kind {r : Nat} {h : XH}  : XSp yX9_kind cX9_kind 1 (some FieldType.int) 1 0 0 [.ref r] h (XD (some (.int (zI 4))) h) := by
  refine XSp.ofF (by decide +kernel) (Nat.le_of_ble_eq_true rfl) ?_
  show XE _ RX9 cX9_kind 1 0 0 0 [(0, .ref r)] [] _
  refine XE.iconst (pc := 0) dX9_kind_0 ?_
  exact XE.ireturn (pc := 1) dX9_kind_1 (by first | exact Nat.zero_le _ | decide) (by first | exact Nat.zero_le _ | decide) (by first | exact ⟨rfl, rfl⟩ | exact ⟨by simp_all, rfl⟩)
set_option maxHeartbeats 1000000 in
set_option maxRecDepth 20000 in
theorem s_Boy_bears {r : Nat} {h : XH}  : XSp yX0_bears cX0_bears 1 (some FieldType.int) 1 0 0 [.ref r] h (XD (some (.int (zI 0))) h) := by
  refine XSp.ofF (by decide +kernel) (Nat.le_of_ble_eq_true rfl) ?_
  show XE _ RX0 cX0_bears 1 0 0 0 [(0, .ref r)] [] _
  refine XE.iconst (pc := 0) dX0_bears_0 ?_
  exact XE.ireturn (pc := 1) dX0_bears_1 (by first | exact Nat.zero_le _ | decide) (by first | exact Nat.zero_le _ | decide) (by first | exact ⟨rfl, rfl⟩ | exact ⟨by simp_all, rfl⟩)
set_option maxHeartbeats 1000000 in
set_option maxRecDepth 20000 in
theorem s_Man_bears {r : Nat} {h : XH}  : XSp yX3_bears cX3_bears 1 (some FieldType.int) 1 0 0 [.ref r] h (XD (some (.int (zI 1))) h) := by
  refine XSp.ofF (by decide +kernel) (Nat.le_of_ble_eq_true rfl) ?_
  show XE _ RX3 cX3_bears 1 0 0 0 [(0, .ref r)] [] _
  refine XE.iconst (pc := 0) dX3_bears_0 ?_
  exact XE.ireturn (pc := 1) dX3_bears_1 (by first | exact Nat.zero_le _ | decide) (by first | exact Nat.zero_le _ | decide) (by first | exact ⟨rfl, rfl⟩ | exact ⟨by simp_all, rfl⟩)
set_option maxHeartbeats 1000000 in
set_option maxRecDepth 20000 in
theorem s_Tailor_bears {r : Nat} {h : XH}  : XSp yX8_bears cX8_bears 1 (some FieldType.int) 1 0 0 [.ref r] h (XD (some (.int (zI 2))) h) := by
  refine XSp.ofF (by decide +kernel) (Nat.le_of_ble_eq_true rfl) ?_
  show XE _ RX8 cX8_bears 1 0 0 0 [(0, .ref r)] [] _
  refine XE.iconst (pc := 0) dX8_bears_0 ?_
  exact XE.ireturn (pc := 1) dX8_bears_1 (by first | exact Nat.zero_le _ | decide) (by first | exact Nat.zero_le _ | decide) (by first | exact ⟨rfl, rfl⟩ | exact ⟨by simp_all, rfl⟩)
set_option maxHeartbeats 1000000 in
set_option maxRecDepth 20000 in
theorem s_Boy_doesConfess {r : Nat} {h : XH}  : XSp yX0_doesConfess cX0_doesConfess 1 (some FieldType.boolean) 1 0 0 [.ref r] h (XD (some (.int (zI (bz false)))) h) := by
  refine XSp.ofF (by decide +kernel) (Nat.le_of_ble_eq_true rfl) ?_
  show XE _ RX0 cX0_doesConfess 1 0 0 0 [(0, .ref r)] [] _
  refine XE.iconst (pc := 0) dX0_doesConfess_0 ?_
  exact XE.zreturn (pc := 1) dX0_doesConfess_1 (by first | exact Or.inl rfl | exact Or.inr rfl | exact bz_01 _) (Nat.zero_le _) (Nat.zero_le _) (by first | exact ⟨rfl, rfl⟩ | exact ⟨by simp_all, rfl⟩)
set_option maxHeartbeats 1000000 in
set_option maxRecDepth 20000 in
theorem s_Man_doesConfess {r : Nat} {h : XH}  : XSp yX3_doesConfess cX3_doesConfess 1 (some FieldType.boolean) 1 0 0 [.ref r] h (XD (some (.int (zI (bz true)))) h) := by
  refine XSp.ofF (by decide +kernel) (Nat.le_of_ble_eq_true rfl) ?_
  show XE _ RX3 cX3_doesConfess 1 0 0 0 [(0, .ref r)] [] _
  refine XE.iconst (pc := 0) dX3_doesConfess_0 ?_
  exact XE.zreturn (pc := 1) dX3_doesConfess_1 (by first | exact Or.inl rfl | exact Or.inr rfl | exact bz_01 _) (Nat.zero_le _) (Nat.zero_le _) (by first | exact ⟨rfl, rfl⟩ | exact ⟨by simp_all, rfl⟩)
set_option maxHeartbeats 1000000 in
set_option maxRecDepth 20000 in
theorem s_Man_counted {r : Nat} {z : Int} {h : XH}  : XSp yX3_counted cX3_counted 2 (some FieldType.int) 1 0 0 [.ref r, .int (zI z)] h (XD (some (.int (zI z))) h) := by
  refine XSp.ofF (by decide +kernel) (Nat.le_of_ble_eq_true rfl) ?_
  show XE _ RX3 cX3_counted 2 0 0 0 [(0, .ref r), (1, .int (zI z))] [] _
  refine XE.iload_n (pc := 0) dX3_counted_0 rfl ?_
  exact XE.ireturn (pc := 1) dX3_counted_1 (by first | exact Nat.zero_le _ | decide) (by first | exact Nat.zero_le _ | decide) (by first | exact ⟨rfl, rfl⟩ | exact ⟨by simp_all, rfl⟩)
set_option maxHeartbeats 1000000 in
set_option maxRecDepth 20000 in
theorem s_Irish_counted {r : Nat} {z : Int} {h : XH}  : XSp yX2_counted cX2_counted 2 (some FieldType.int) 1 0 0 [.ref r, .int (zI z)] h (XD (some (.int (zI (z + 1)))) h) := by
  refine XSp.ofF (by decide +kernel) (Nat.le_of_ble_eq_true rfl) ?_
  show XE _ RX2 cX2_counted 2 0 0 0 [(0, .ref r), (1, .int (zI z))] [] _
  refine XE.iload_n (pc := 0) dX2_counted_0 rfl ?_
  refine XE.iconst (pc := 1) dX2_counted_1 ?_
  refine XE.iadd (pc := 2) dX2_counted_2 ?_
  exact XE.ireturn (pc := 3) dX2_counted_3 (by first | exact Nat.zero_le _ | decide) (by first | exact Nat.zero_le _ | decide) (by first | exact ⟨rfl, rfl⟩ | exact ⟨by simp_all, rfl⟩)
set_option maxHeartbeats 1000000 in
set_option maxRecDepth 20000 in
theorem s_Man_hand {r ci : Nat} {sz hd z : Int} {h : XH} (hci : MAN ci) (rh : RI hd) (rz : RI z) (ho : h[r]? = some (.inr (ci, [.int (zI sz), .int (zI hd)]))) : XSp yX3_hasHandLike cX3_hasHandLike 2 (some FieldType.boolean) 1 0 0 [.ref r, .int (zI z)] h (XD (some (.int (zI (bz (decide (hd = z)))))) h) := by
  refine XSp.ofF (by decide +kernel) (Nat.le_of_ble_eq_true rfl) ?_
  show XE _ RX3 cX3_hasHandLike 2 0 0 0 [(0, .ref r), (1, .int (zI z))] [] _
  rcases hci with rfl | rfl | rfl | rfl | rfl
  · refine XE.aload_n (pc := 0) dX3_hasHandLike_0 rfl ?_
    refine XE.getfield (pc := 1) tf_X3_15_0 dX3_hasHandLike_1 (by first | assumption | (repeat (first | refine xs_ne (by first | decide | assumption | omega) ?_ | exact xa_new | apply xa_old)); first | done | assumption | (apply xs_same; repeat (first | assumption | exact xa_new | refine xs_ne (by first | decide | assumption | omega) ?_ | apply xs_same | apply xa_old))) (by exact rfl) ?_
    refine XE.iload_n (pc := 4) dX3_hasHandLike_4 rfl ?_
    refine XE.icmp_ne (pc := 5) (tgt := 12) dX3_hasHandLike_5 (by decide) (by first | omega | assumption) (by first | omega | assumption) (fun c_5 => ?_) (fun c_5 => ?_)
    · refine XE.iconst (pc := 12) dX3_hasHandLike_12 ?_
      exact XE.zreturn (pc := 13) dX3_hasHandLike_13 (by first | exact Or.inl rfl | exact Or.inr rfl | exact bz_01 _) (Nat.zero_le _) (Nat.zero_le _) (by exact ⟨by simp [bz, *], rfl⟩)
    · refine XE.iconst (pc := 8) dX3_hasHandLike_8 ?_
      refine XE.goto (pc := 9) (tgt := 13) dX3_hasHandLike_9 (by decide) ?_
      exact XE.zreturn (pc := 13) dX3_hasHandLike_13 (by first | exact Or.inl rfl | exact Or.inr rfl | exact bz_01 _) (Nat.zero_le _) (Nat.zero_le _) (by exact ⟨by simp [bz, *], rfl⟩)
  · refine XE.aload_n (pc := 0) dX3_hasHandLike_0 rfl ?_
    refine XE.getfield (pc := 1) tf_X3_15_2 dX3_hasHandLike_1 (by first | assumption | (repeat (first | refine xs_ne (by first | decide | assumption | omega) ?_ | exact xa_new | apply xa_old)); first | done | assumption | (apply xs_same; repeat (first | assumption | exact xa_new | refine xs_ne (by first | decide | assumption | omega) ?_ | apply xs_same | apply xa_old))) (by exact rfl) ?_
    refine XE.iload_n (pc := 4) dX3_hasHandLike_4 rfl ?_
    refine XE.icmp_ne (pc := 5) (tgt := 12) dX3_hasHandLike_5 (by decide) (by first | omega | assumption) (by first | omega | assumption) (fun c_5 => ?_) (fun c_5 => ?_)
    · refine XE.iconst (pc := 12) dX3_hasHandLike_12 ?_
      exact XE.zreturn (pc := 13) dX3_hasHandLike_13 (by first | exact Or.inl rfl | exact Or.inr rfl | exact bz_01 _) (Nat.zero_le _) (Nat.zero_le _) (by exact ⟨by simp [bz, *], rfl⟩)
    · refine XE.iconst (pc := 8) dX3_hasHandLike_8 ?_
      refine XE.goto (pc := 9) (tgt := 13) dX3_hasHandLike_9 (by decide) ?_
      exact XE.zreturn (pc := 13) dX3_hasHandLike_13 (by first | exact Or.inl rfl | exact Or.inr rfl | exact bz_01 _) (Nat.zero_le _) (Nat.zero_le _) (by exact ⟨by simp [bz, *], rfl⟩)
  · refine XE.aload_n (pc := 0) dX3_hasHandLike_0 rfl ?_
    refine XE.getfield (pc := 1) tf_X3_15_3 dX3_hasHandLike_1 (by first | assumption | (repeat (first | refine xs_ne (by first | decide | assumption | omega) ?_ | exact xa_new | apply xa_old)); first | done | assumption | (apply xs_same; repeat (first | assumption | exact xa_new | refine xs_ne (by first | decide | assumption | omega) ?_ | apply xs_same | apply xa_old))) (by exact rfl) ?_
    refine XE.iload_n (pc := 4) dX3_hasHandLike_4 rfl ?_
    refine XE.icmp_ne (pc := 5) (tgt := 12) dX3_hasHandLike_5 (by decide) (by first | omega | assumption) (by first | omega | assumption) (fun c_5 => ?_) (fun c_5 => ?_)
    · refine XE.iconst (pc := 12) dX3_hasHandLike_12 ?_
      exact XE.zreturn (pc := 13) dX3_hasHandLike_13 (by first | exact Or.inl rfl | exact Or.inr rfl | exact bz_01 _) (Nat.zero_le _) (Nat.zero_le _) (by exact ⟨by simp [bz, *], rfl⟩)
    · refine XE.iconst (pc := 8) dX3_hasHandLike_8 ?_
      refine XE.goto (pc := 9) (tgt := 13) dX3_hasHandLike_9 (by decide) ?_
      exact XE.zreturn (pc := 13) dX3_hasHandLike_13 (by first | exact Or.inl rfl | exact Or.inr rfl | exact bz_01 _) (Nat.zero_le _) (Nat.zero_le _) (by exact ⟨by simp [bz, *], rfl⟩)
  · refine XE.aload_n (pc := 0) dX3_hasHandLike_0 rfl ?_
    refine XE.getfield (pc := 1) tf_X3_15_8 dX3_hasHandLike_1 (by first | assumption | (repeat (first | refine xs_ne (by first | decide | assumption | omega) ?_ | exact xa_new | apply xa_old)); first | done | assumption | (apply xs_same; repeat (first | assumption | exact xa_new | refine xs_ne (by first | decide | assumption | omega) ?_ | apply xs_same | apply xa_old))) (by exact rfl) ?_
    refine XE.iload_n (pc := 4) dX3_hasHandLike_4 rfl ?_
    refine XE.icmp_ne (pc := 5) (tgt := 12) dX3_hasHandLike_5 (by decide) (by first | omega | assumption) (by first | omega | assumption) (fun c_5 => ?_) (fun c_5 => ?_)
    · refine XE.iconst (pc := 12) dX3_hasHandLike_12 ?_
      exact XE.zreturn (pc := 13) dX3_hasHandLike_13 (by first | exact Or.inl rfl | exact Or.inr rfl | exact bz_01 _) (Nat.zero_le _) (Nat.zero_le _) (by exact ⟨by simp [bz, *], rfl⟩)
    · refine XE.iconst (pc := 8) dX3_hasHandLike_8 ?_
      refine XE.goto (pc := 9) (tgt := 13) dX3_hasHandLike_9 (by decide) ?_
      exact XE.zreturn (pc := 13) dX3_hasHandLike_13 (by first | exact Or.inl rfl | exact Or.inr rfl | exact bz_01 _) (Nat.zero_le _) (Nat.zero_le _) (by exact ⟨by simp [bz, *], rfl⟩)
  · refine XE.aload_n (pc := 0) dX3_hasHandLike_0 rfl ?_
    refine XE.getfield (pc := 1) tf_X3_15_9 dX3_hasHandLike_1 (by first | assumption | (repeat (first | refine xs_ne (by first | decide | assumption | omega) ?_ | exact xa_new | apply xa_old)); first | done | assumption | (apply xs_same; repeat (first | assumption | exact xa_new | refine xs_ne (by first | decide | assumption | omega) ?_ | apply xs_same | apply xa_old))) (by exact rfl) ?_
    refine XE.iload_n (pc := 4) dX3_hasHandLike_4 rfl ?_
    refine XE.icmp_ne (pc := 5) (tgt := 12) dX3_hasHandLike_5 (by decide) (by first | omega | assumption) (by first | omega | assumption) (fun c_5 => ?_) (fun c_5 => ?_)
    · refine XE.iconst (pc := 12) dX3_hasHandLike_12 ?_
      exact XE.zreturn (pc := 13) dX3_hasHandLike_13 (by first | exact Or.inl rfl | exact Or.inr rfl | exact bz_01 _) (Nat.zero_le _) (Nat.zero_le _) (by exact ⟨by simp [bz, *], rfl⟩)
    · refine XE.iconst (pc := 8) dX3_hasHandLike_8 ?_
      refine XE.goto (pc := 9) (tgt := 13) dX3_hasHandLike_9 (by decide) ?_
      exact XE.zreturn (pc := 13) dX3_hasHandLike_13 (by first | exact Or.inl rfl | exact Or.inr rfl | exact bz_01 _) (Nat.zero_le _) (Nat.zero_le _) (by exact ⟨by simp [bz, *], rfl⟩)
set_option maxHeartbeats 1000000 in
set_option maxRecDepth 20000 in
theorem s_Thief_hand {r : Nat} {z : Int} {h : XH}  : XSp yX9_hasHandLike cX9_hasHandLike 2 (some FieldType.boolean) 1 0 0 [.ref r, .int (zI z)] h (XD (some (.int (zI (bz true)))) h) := by
  refine XSp.ofF (by decide +kernel) (Nat.le_of_ble_eq_true rfl) ?_
  show XE _ RX9 cX9_hasHandLike 2 0 0 0 [(0, .ref r), (1, .int (zI z))] [] _
  refine XE.iconst (pc := 0) dX9_hasHandLike_0 ?_
  exact XE.zreturn (pc := 1) dX9_hasHandLike_1 (by first | exact Or.inl rfl | exact Or.inr rfl | exact bz_01 _) (Nat.zero_le _) (Nat.zero_le _) (by first | exact ⟨rfl, rfl⟩ | exact ⟨by simp_all, rfl⟩)
set_option maxHeartbeats 1000000 in
set_option maxRecDepth 20000 in
theorem XE.dsp_kind {K : XK} {own : String} {cc : ByteArray} {nL k n pc : Nat} {ls : List (Nat × Value)} {h : XH} {idx b : Nat} {kd sz hd : Int}  {stk : List Value} (st : List Value) (hc0 : XCv own idx 3 yX3_kind) (hc1 : XCv own idx 8 yX8_kind) (hc2 : XCv own idx 0 yX0_kind) (hc3 : XCv own idx 2 yX2_kind) (hc4 : XCv own idx 9 yX9_kind) (hd2 : decode cc pc = .ok (.invokevirtual idx, 3)) (hstk : stk = .ref b :: st) (ho : h[b]? = some (mO kd sz hd)) (hk : 0 ≤ kd ∧ kd ≤ 4)  (hcat : Nat.ble (st.map fun v => v.category).sum 8 = true) (hroom : XRD K 1 1 k n) (kk : XE K own cc nL k n (pc + 3) ls (.int (zI (kd)) :: st) h) : XE K own cc nL k n pc ls stk h := by
  rcases kd5 hk with rfl | rfl | rfl | rfl | rfl
  · exact XE.cvD1 st hc0 tm_X3_kind hd2 (by rw [hstk]; rfl) s_Man_kind ho rfl hcat hroom kk
  · exact XE.cvD1 st hc1 tm_X8_kind hd2 (by rw [hstk]; rfl) s_Tailor_kind ho rfl hcat hroom kk
  · exact XE.cvD1 st hc2 tm_X0_kind hd2 (by rw [hstk]; rfl) s_Boy_kind ho rfl hcat hroom kk
  · exact XE.cvD1 st hc3 tm_X2_kind hd2 (by rw [hstk]; rfl) s_Irish_kind ho rfl hcat hroom kk
  · exact XE.cvD1 st hc4 tm_X9_kind hd2 (by rw [hstk]; rfl) s_Thief_kind ho rfl hcat hroom kk
set_option maxHeartbeats 1000000 in
set_option maxRecDepth 20000 in
theorem XE.dsp_bears {K : XK} {own : String} {cc : ByteArray} {nL k n pc : Nat} {ls : List (Nat × Value)} {h : XH} {idx b : Nat} {kd sz hd : Int}  {stk : List Value} (st : List Value) (hc0 : XCv own idx 3 yX3_bears) (hc1 : XCv own idx 8 yX8_bears) (hc2 : XCv own idx 0 yX0_bears) (hc3 : XCv own idx 2 yX3_bears) (hc4 : XCv own idx 9 yX8_bears) (hd2 : decode cc pc = .ok (.invokevirtual idx, 3)) (hstk : stk = .ref b :: st) (ho : h[b]? = some (mO kd sz hd)) (hk : 0 ≤ kd ∧ kd ≤ 4)  (hcat : Nat.ble (st.map fun v => v.category).sum 8 = true) (hroom : XRD K 1 1 k n) (kk : XE K own cc nL k n (pc + 3) ls (.int (zI (bearsZ kd)) :: st) h) : XE K own cc nL k n pc ls stk h := by
  rcases kd5 hk with rfl | rfl | rfl | rfl | rfl
  · exact XE.cvD1 st hc0 tm_X3_bears hd2 (by rw [hstk]; rfl) s_Man_bears ho rfl hcat hroom kk
  · exact XE.cvD1 st hc1 tm_X8_bears hd2 (by rw [hstk]; rfl) s_Tailor_bears ho rfl hcat hroom kk
  · exact XE.cvD1 st hc2 tm_X0_bears hd2 (by rw [hstk]; rfl) s_Boy_bears ho rfl hcat hroom kk
  · exact XE.cvD1 st hc3 tm_X3_bears hd2 (by rw [hstk]; rfl) s_Man_bears ho rfl hcat hroom kk
  · exact XE.cvD1 st hc4 tm_X8_bears hd2 (by rw [hstk]; rfl) s_Tailor_bears ho rfl hcat hroom kk
set_option maxHeartbeats 1000000 in
set_option maxRecDepth 20000 in
theorem XE.dsp_doesConfess {K : XK} {own : String} {cc : ByteArray} {nL k n pc : Nat} {ls : List (Nat × Value)} {h : XH} {idx b : Nat} {kd sz hd : Int}  {stk : List Value} (st : List Value) (hc0 : XCv own idx 3 yX3_doesConfess) (hc1 : XCv own idx 8 yX3_doesConfess) (hc2 : XCv own idx 0 yX0_doesConfess) (hc3 : XCv own idx 2 yX3_doesConfess) (hc4 : XCv own idx 9 yX3_doesConfess) (hd2 : decode cc pc = .ok (.invokevirtual idx, 3)) (hstk : stk = .ref b :: st) (ho : h[b]? = some (mO kd sz hd)) (hk : 0 ≤ kd ∧ kd ≤ 4)  (hcat : Nat.ble (st.map fun v => v.category).sum 8 = true) (hroom : XRD K 1 1 k n) (kk : XE K own cc nL k n (pc + 3) ls (.int (zI (bz (confB kd))) :: st) h) : XE K own cc nL k n pc ls stk h := by
  rcases kd5 hk with rfl | rfl | rfl | rfl | rfl
  · exact XE.cvD1 st hc0 tm_X3_doesConfess hd2 (by rw [hstk]; rfl) s_Man_doesConfess ho rfl hcat hroom kk
  · exact XE.cvD1 st hc1 tm_X3_doesConfess hd2 (by rw [hstk]; rfl) s_Man_doesConfess ho rfl hcat hroom kk
  · exact XE.cvD1 st hc2 tm_X0_doesConfess hd2 (by rw [hstk]; rfl) s_Boy_doesConfess ho rfl hcat hroom kk
  · exact XE.cvD1 st hc3 tm_X3_doesConfess hd2 (by rw [hstk]; rfl) s_Man_doesConfess ho rfl hcat hroom kk
  · exact XE.cvD1 st hc4 tm_X3_doesConfess hd2 (by rw [hstk]; rfl) s_Man_doesConfess ho rfl hcat hroom kk
set_option maxHeartbeats 1000000 in
set_option maxRecDepth 20000 in
theorem XE.dsp_counted {K : XK} {own : String} {cc : ByteArray} {nL k n pc : Nat} {ls : List (Nat × Value)} {h : XH} {idx b : Nat} {kd sz hd : Int} {z : Int} {stk : List Value} (st : List Value) (hc0 : XCv own idx 3 yX3_counted) (hc1 : XCv own idx 8 yX3_counted) (hc2 : XCv own idx 0 yX3_counted) (hc3 : XCv own idx 2 yX2_counted) (hc4 : XCv own idx 9 yX3_counted) (hd2 : decode cc pc = .ok (.invokevirtual idx, 3)) (hstk : stk = .int (zI z) :: .ref b :: st) (ho : h[b]? = some (mO kd sz hd)) (hk : 0 ≤ kd ∧ kd ≤ 4)  (hcat : Nat.ble (st.map fun v => v.category).sum 8 = true) (hroom : XRD K 1 2 k n) (kk : XE K own cc nL k n (pc + 3) ls (.int (zI (cntZ kd z)) :: st) h) : XE K own cc nL k n pc ls stk h := by
  rcases kd5 hk with rfl | rfl | rfl | rfl | rfl
  · exact XE.cvD1 st hc0 tm_X3_counted hd2 (by rw [hstk]; rfl) s_Man_counted ho rfl hcat hroom kk
  · exact XE.cvD1 st hc1 tm_X3_counted hd2 (by rw [hstk]; rfl) s_Man_counted ho rfl hcat hroom kk
  · exact XE.cvD1 st hc2 tm_X3_counted hd2 (by rw [hstk]; rfl) s_Man_counted ho rfl hcat hroom kk
  · exact XE.cvD1 st hc3 tm_X2_counted hd2 (by rw [hstk]; rfl) s_Irish_counted ho rfl hcat hroom kk
  · exact XE.cvD1 st hc4 tm_X3_counted hd2 (by rw [hstk]; rfl) s_Man_counted ho rfl hcat hroom kk
set_option maxHeartbeats 1000000 in
set_option maxRecDepth 20000 in
theorem XE.dsp_hand {K : XK} {own : String} {cc : ByteArray} {nL k n pc : Nat} {ls : List (Nat × Value)} {h : XH} {idx b : Nat} {kd sz hd : Int} {z : Int} {stk : List Value} (st : List Value) (hc0 : XCv own idx 3 yX3_hasHandLike) (hc1 : XCv own idx 8 yX3_hasHandLike) (hc2 : XCv own idx 0 yX3_hasHandLike) (hc3 : XCv own idx 2 yX3_hasHandLike) (hc4 : XCv own idx 9 yX9_hasHandLike) (hd2 : decode cc pc = .ok (.invokevirtual idx, 3)) (hstk : stk = .int (zI z) :: .ref b :: st) (ho : h[b]? = some (mO kd sz hd)) (hk : 0 ≤ kd ∧ kd ≤ 4) (rh : RI hd) (rz : RI z) (hcat : Nat.ble (st.map fun v => v.category).sum 8 = true) (hroom : XRD K 1 2 k n) (kk : XE K own cc nL k n (pc + 3) ls (.int (zI (bz (handB kd hd z))) :: st) h) : XE K own cc nL k n pc ls stk h := by
  rcases kd5 hk with rfl | rfl | rfl | rfl | rfl
  · exact XE.cvD1 st hc0 tm_X3_hasHandLike hd2 (by rw [hstk]; rfl) (s_Man_hand (sz := sz) (mci_man 0) rh rz ho) ho rfl hcat hroom kk
  · exact XE.cvD1 st hc1 tm_X3_hasHandLike hd2 (by rw [hstk]; rfl) (s_Man_hand (sz := sz) (mci_man 1) rh rz ho) ho rfl hcat hroom kk
  · exact XE.cvD1 st hc2 tm_X3_hasHandLike hd2 (by rw [hstk]; rfl) (s_Man_hand (sz := sz) (mci_man 2) rh rz ho) ho rfl hcat hroom kk
  · exact XE.cvD1 st hc3 tm_X3_hasHandLike hd2 (by rw [hstk]; rfl) (s_Man_hand (sz := sz) (mci_man 3) rh rz ho) ho rfl hcat hroom kk
  · exact XE.cvD1 st hc4 tm_X9_hasHandLike hd2 (by rw [hstk]; rfl) s_Thief_hand ho rfl hcat hroom kk
theorem bears_ri (kd : Int) : 0 ≤ bearsZ kd ∧ bearsZ kd ≤ 2 := by
  unfold bearsZ
  split
  · omega
  · split <;> omega
theorem cnt_ri (kd s : Int) : s ≤ cntZ kd s ∧ cntZ kd s ≤ s + 1 := by
  unfold cntZ
  split <;> omega
theorem fitB_eq (kd hd s cs ch : Int) : fitB kd hd s cs ch = (handB kd hd ch && decide (absZ (cs - cntZ kd s) ≤ bearsZ kd)) := by
  unfold fitB absZ
  have := bears_ri kd
  congr 1
  rw [← Bool.decide_and]
  congr 1
  apply propext
  split <;> constructor <;> intro q <;> omega
set_option maxHeartbeats 1000000 in
set_option maxRecDepth 20000 in
theorem s_wouldFit {r : Nat} {kd sz hd s cs ch : Int} {h : XH} (ho : h[r]? = some (mO kd sz hd)) (hk : 0 ≤ kd ∧ kd ≤ 4) (rh : RI hd) (rc : RI ch) (b1 : -1000 ≤ s ∧ s ≤ 1000) (b2 : -1000 ≤ cs ∧ cs ≤ 1000) : XSp yX3_wouldFit cX3_wouldFit 4 (some FieldType.boolean) 2 0 0 [.ref r, .int (zI s), .int (zI cs), .int (zI ch)] h (XD (some (.int (zI (bz (fitB kd hd s cs ch))))) h) := by
  refine XSp.ofF (by decide +kernel) (Nat.le_of_ble_eq_true rfl) ?_
  show XE _ RX3 cX3_wouldFit 4 0 0 0 [(0, .ref r), (1, .int (zI s)), (2, .int (zI cs)), (3, .int (zI ch))] [] _
  have hb := bears_ri kd
  have hn := cnt_ri kd s
  have hab : 0 ≤ absZ (cs - cntZ kd s) ∧ absZ (cs - cntZ kd s) ≤ 10000 := by unfold absZ; split <;> omega
  refine XE.aload_n (pc := 0) dX3_wouldFit_0 rfl ?_
  refine XE.iload_n (pc := 1) dX3_wouldFit_1 rfl ?_
  refine XE.dsp_hand (pc := 2) [] tc_X3_18_3 tc_X3_18_8 tc_X3_18_0 tc_X3_18_2 tc_X3_18_9 dX3_wouldFit_2 (by exact rfl) (by first | assumption | (repeat (first | refine xs_ne (by first | decide | assumption | omega) ?_ | exact xa_new | apply xa_old)); first | done | assumption | (apply xs_same; repeat (first | assumption | exact xa_new | refine xs_ne (by first | decide | assumption | omega) ?_ | apply xs_same | apply xa_old))) hk rh rc rfl (XRD.km (by decide) (by decide) (by decide) (by decide)) ?_
  refine XE.ifz_eq (pc := 5) (tgt := 29) dX3_wouldFit_5 (by decide) (fun c_5 => ?_) (fun c_5 => ?_)
  · refine XE.iconst (pc := 29) dX3_wouldFit_29 ?_
    exact XE.zreturn (pc := 30) dX3_wouldFit_30 (by first | exact Or.inl rfl | exact Or.inr rfl | exact bz_01 _) (Nat.zero_le _) (Nat.zero_le _) (by refine ⟨?_, rfl⟩; rw [fitB_eq]; first | (rw [c_5, Bool.false_and]; done) | (rw [c_5, Bool.true_and, decide_eq_false (Int.not_le.mpr c_22)]; done) | (rw [c_5, Bool.true_and, decide_eq_true c_22]; done) | (rw [c_5, Bool.false_and]; rfl) | (rw [c_5, Bool.true_and, decide_eq_false (Int.not_le.mpr c_22)]; rfl) | (rw [c_5, Bool.true_and, decide_eq_true c_22]; rfl))
  · refine XE.iload_n (pc := 8) dX3_wouldFit_8 rfl ?_
    refine XE.aload_n (pc := 9) dX3_wouldFit_9 rfl ?_
    refine XE.iload_n (pc := 10) dX3_wouldFit_10 rfl ?_
    refine XE.dsp_counted (pc := 11) [_] tc_X3_22_3 tc_X3_22_8 tc_X3_22_0 tc_X3_22_2 tc_X3_22_9 dX3_wouldFit_11 (by exact rfl) (by first | assumption | (repeat (first | refine xs_ne (by first | decide | assumption | omega) ?_ | exact xa_new | apply xa_old)); first | done | assumption | (apply xs_same; repeat (first | assumption | exact xa_new | refine xs_ne (by first | decide | assumption | omega) ?_ | apply xs_same | apply xa_old))) hk  rfl (XRD.km (by decide) (by decide) (by decide) (by decide)) ?_
    refine XE.isub (pc := 14) dX3_wouldFit_14 ?_
    refine XE.csD1 (pc := 15) (st := []) tc_X3_26 tm_J9_abs_0f7a4 dX3_wouldFit_15 (by exact rfl) (s_abs (by omega))  rfl rfl (XRD.km (by decide) (by decide) (by decide) (by decide)) ?_
    refine XE.aload_n (pc := 18) dX3_wouldFit_18 rfl ?_
    refine XE.dsp_bears (pc := 19) [_] tc_X3_31_3 tc_X3_31_8 tc_X3_31_0 tc_X3_31_2 tc_X3_31_9 dX3_wouldFit_19 (by exact rfl) (by first | assumption | (repeat (first | refine xs_ne (by first | decide | assumption | omega) ?_ | exact xa_new | apply xa_old)); first | done | assumption | (apply xs_same; repeat (first | assumption | exact xa_new | refine xs_ne (by first | decide | assumption | omega) ?_ | apply xs_same | apply xa_old))) hk  rfl (XRD.km (by decide) (by decide) (by decide) (by decide)) ?_
    refine XE.icmp_gt (pc := 22) (tgt := 29) dX3_wouldFit_22 (by decide) (by first | omega | assumption) (by first | omega | assumption) (fun c_22 => ?_) (fun c_22 => ?_)
    · refine XE.iconst (pc := 29) dX3_wouldFit_29 ?_
      exact XE.zreturn (pc := 30) dX3_wouldFit_30 (by first | exact Or.inl rfl | exact Or.inr rfl | exact bz_01 _) (Nat.zero_le _) (Nat.zero_le _) (by refine ⟨?_, rfl⟩; rw [fitB_eq]; first | (rw [c_5, Bool.false_and]; done) | (rw [c_5, Bool.true_and, decide_eq_false (Int.not_le.mpr c_22)]; done) | (rw [c_5, Bool.true_and, decide_eq_true c_22]; done) | (rw [c_5, Bool.false_and]; rfl) | (rw [c_5, Bool.true_and, decide_eq_false (Int.not_le.mpr c_22)]; rfl) | (rw [c_5, Bool.true_and, decide_eq_true c_22]; rfl))
    · refine XE.iconst (pc := 25) dX3_wouldFit_25 ?_
      refine XE.goto (pc := 26) (tgt := 30) dX3_wouldFit_26 (by decide) ?_
      exact XE.zreturn (pc := 30) dX3_wouldFit_30 (by first | exact Or.inl rfl | exact Or.inr rfl | exact bz_01 _) (Nat.zero_le _) (Nat.zero_le _) (by refine ⟨?_, rfl⟩; rw [fitB_eq]; first | (rw [c_5, Bool.false_and]; done) | (rw [c_5, Bool.true_and, decide_eq_false (Int.not_le.mpr c_22)]; done) | (rw [c_5, Bool.true_and, decide_eq_true c_22]; done) | (rw [c_5, Bool.false_and]; rfl) | (rw [c_5, Bool.true_and, decide_eq_false (Int.not_le.mpr c_22)]; rfl) | (rw [c_5, Bool.true_and, decide_eq_true c_22]; rfl))
set_option maxHeartbeats 1000000 in
set_option maxRecDepth 20000 in
theorem XE.dsp_wouldFit {K : XK} {own : String} {cc : ByteArray} {nL k n pc : Nat} {ls : List (Nat × Value)} {h : XH} {idx b : Nat} {kd sz hd : Int} {s : Int} {cs : Int} {ch : Int} {stk : List Value} (st : List Value) (hc0 : XCv own idx 3 yX3_wouldFit) (hc1 : XCv own idx 8 yX3_wouldFit) (hc2 : XCv own idx 0 yX3_wouldFit) (hc3 : XCv own idx 2 yX3_wouldFit) (hc4 : XCv own idx 9 yX3_wouldFit) (hd2 : decode cc pc = .ok (.invokevirtual idx, 3)) (hstk : stk = .int (zI ch) :: .int (zI cs) :: .int (zI s) :: .ref b :: st) (ho : h[b]? = some (mO kd sz hd)) (hk : 0 ≤ kd ∧ kd ≤ 4) (rh : RI hd) (rc : RI ch) (b1 : -1000 ≤ s ∧ s ≤ 1000) (b2 : -1000 ≤ cs ∧ cs ≤ 1000) (hcat : Nat.ble (st.map fun v => v.category).sum 8 = true) (hroom : XRD K 2 4 k n) (kk : XE K own cc nL k n (pc + 3) ls (.int (zI (bz (fitB kd hd s cs ch))) :: st) h) : XE K own cc nL k n pc ls stk h := by
  rcases kd5 hk with rfl | rfl | rfl | rfl | rfl
  · exact XE.cvD1 st hc0 tm_X3_wouldFit hd2 (by rw [hstk]; rfl) (s_wouldFit (sz := sz) ho hk rh rc b1 b2) ho rfl hcat hroom kk
  · exact XE.cvD1 st hc1 tm_X3_wouldFit hd2 (by rw [hstk]; rfl) (s_wouldFit (sz := sz) ho hk rh rc b1 b2) ho rfl hcat hroom kk
  · exact XE.cvD1 st hc2 tm_X3_wouldFit hd2 (by rw [hstk]; rfl) (s_wouldFit (sz := sz) ho hk rh rc b1 b2) ho rfl hcat hroom kk
  · exact XE.cvD1 st hc3 tm_X3_wouldFit hd2 (by rw [hstk]; rfl) (s_wouldFit (sz := sz) ho hk rh rc b1 b2) ho rfl hcat hroom kk
  · exact XE.cvD1 st hc4 tm_X3_wouldFit hd2 (by rw [hstk]; rfl) (s_wouldFit (sz := sz) ho hk rh rc b1 b2) ho rfl hcat hroom kk
end
section
/-! trials: what is tried -/
def XR (lo hi : Nat) (h h' : XH) : Prop := h'.length = h.length ∧ ∀ i, (i < lo ∨ hi ≤ i) → h'[i]? = h[i]?
theorem XR.rf (lo hi : Nat) (h : XH) : XR lo hi h h := ⟨rfl, fun _ _ => rfl⟩
theorem XR.tr {lo hi : Nat} {h h' h2 : XH} (a : XR lo hi h h') (b : XR lo hi h' h2) : XR lo hi h h2 := ⟨b.1.trans a.1, fun i hi => (b.2 i hi).trans (a.2 i hi)⟩
theorem XR.set {lo hi i : Nat} {h h' : XH} (a : XR lo hi h h') (c : XC) (h1 : lo ≤ i) (h2 : i < hi) : XR lo hi h (h'.set i c) := ⟨by rw [List.length_set]; exact a.1, fun j hj => by rw [List.getElem?_set_ne (by omega)]; exact a.2 j hj⟩
theorem XR.mono {lo hi lo' hi' : Nat} {h h' : XH} (a : XR lo hi h h') (h1 : lo' ≤ lo) (h2 : hi ≤ hi') : XR lo' hi' h h' := ⟨a.1, fun i hi => a.2 i (by omega)⟩
theorem XR.at {lo hi i : Nat} {h h' : XH} {x : Option XC} (a : XR lo hi h h') (ho : h[i]? = x) (hi2 : i < lo ∨ hi ≤ i) : h'[i]? = x := (a.2 i hi2).trans ho
def oTri (a b c d : Nat) (m : Int) : XC := .inr (10, [.ref a, .ref b, .ref c, .ref d, .int (zI m)])
def TriAt (h : XH) (t m : Nat) (tw ts th : Nat → Int) (tf : Nat → Bool) : Prop := h[t]? = some (oTri (t + 1) (t + 2) (t + 3) (t + 4) (m : Int)) ∧ h[t + 1]? = some (ia 6 tw) ∧ h[t + 2]? = some (ia 6 ts) ∧ h[t + 3]? = some (ia 6 th) ∧ h[t + 4]? = some (za 6 (fun q => bz (tf q))) ∧ (∀ q, RI (tw q)) ∧ (∀ q, -1000 ≤ ts q ∧ ts q ≤ 1000) ∧ ∀ q, RI (th q)
theorem TriAt.keep {lo hi t m : Nat} {tw ts th : Nat → Int} {tf : Nat → Bool} {h h' : XH} (a : XR lo hi h h') (hd : t + 5 ≤ lo ∨ hi ≤ t) (b : TriAt h t m tw ts th tf) : TriAt h' t m tw ts th tf := ⟨a.at b.1 (by omega), a.at b.2.1 (by omega), a.at b.2.2.1 (by omega), a.at b.2.2.2.1 (by omega), a.at b.2.2.2.2.1 (by omega), b.2.2.2.2.2⟩
def zub (g : Nat → Bool) (j : Nat) (x : Bool) : Nat → Bool := fun q => if q = j then x else g q
theorem zub_bz (g : Nat → Bool) (j : Nat) (x : Bool) : zu (fun q => bz (g q)) j (bz x) = fun q => bz (zub g j x q) := by
  funext q
  unfold zu zub
  split <;> rfl
theorem ts_zu {g : Nat → Int} {j : Nat} {x : Int} (hg : ∀ q, -1000 ≤ g q ∧ g q ≤ 1000) (hx : -1000 ≤ x ∧ x ≤ 1000) : ∀ q, -1000 ≤ zu g j x q ∧ zu g j x q ≤ 1000 := fun q => by
  unfold zu
  split
  · exact hx
  · exact hg q
set_option maxHeartbeats 1000000 in
set_option maxRecDepth 20000 in
theorem s_Tri_many {t m : Nat} {tw ts th : Nat → Int} {tf : Nat → Bool} {h : XH} (hT : TriAt h t m tw ts th tf) : XSp yX10_many cX10_many 1 (some FieldType.int) 1 0 0 [.ref t] h (XD (some (.int (zI (m : Int)))) h) := by
  refine XSp.ofF (by decide +kernel) (Nat.le_of_ble_eq_true rfl) ?_
  show XE _ RX10 cX10_many 1 0 0 0 [(0, .ref t)] [] _
  obtain ⟨h1, h2, h3, h4, h5, rw1, rw2, rw3⟩ := id hT
  refine XE.aload_n (pc := 0) dX10_many_0 rfl ?_
  refine XE.getfield (pc := 1) tf_X10_25_10 dX10_many_1 (by first | assumption | (repeat (first | refine xs_ne (by first | decide | assumption | omega) ?_ | exact xa_new | apply xa_old)); first | done | assumption | (apply xs_same; repeat (first | assumption | exact xa_new | refine xs_ne (by first | decide | assumption | omega) ?_ | apply xs_same | apply xa_old))) (by exact rfl) ?_
  exact XE.ireturn (pc := 4) dX10_many_4 (by first | exact Nat.zero_le _ | decide) (by first | exact Nat.zero_le _ | decide) (by first | exact ⟨rfl, rfl⟩ | exact ⟨by simp_all, rfl⟩)
set_option maxHeartbeats 1000000 in
set_option maxRecDepth 20000 in
theorem s_Tri_isFull {t m : Nat} {tw ts th : Nat → Int} {tf : Nat → Bool} {h : XH} (hT : TriAt h t m tw ts th tf) (hm : m ≤ 6) : XSp yX10_isFull cX10_isFull 1 (some FieldType.boolean) 1 0 0 [.ref t] h (XD (some (.int (zI (bz (decide (6 ≤ m)))))) h) := by
  refine XSp.ofF (by decide +kernel) (Nat.le_of_ble_eq_true rfl) ?_
  show XE _ RX10 cX10_isFull 1 0 0 0 [(0, .ref t)] [] _
  obtain ⟨h1, h2, h3, h4, h5, rw1, rw2, rw3⟩ := id hT
  refine XE.aload_n (pc := 0) dX10_isFull_0 rfl ?_
  refine XE.getfield (pc := 1) tf_X10_25_10 dX10_isFull_1 (by first | assumption | (repeat (first | refine xs_ne (by first | decide | assumption | omega) ?_ | exact xa_new | apply xa_old)); first | done | assumption | (apply xs_same; repeat (first | assumption | exact xa_new | refine xs_ne (by first | decide | assumption | omega) ?_ | apply xs_same | apply xa_old))) (by exact rfl) ?_
  refine XE.bipush (pc := 4) dX10_isFull_4 rfl ?_
  refine XE.icmp_lt (pc := 6) (tgt := 13) dX10_isFull_6 (by decide) (by first | omega | assumption) (by first | omega | assumption) (fun c_6 => ?_) (fun c_6 => ?_)
  · refine XE.iconst (pc := 13) dX10_isFull_13 ?_
    exact XE.zreturn (pc := 14) dX10_isFull_14 (by first | exact Or.inl rfl | exact Or.inr rfl | exact bz_01 _) (Nat.zero_le _) (Nat.zero_le _) (by refine ⟨?_, rfl⟩; first | (rw [decide_eq_false (by omega)]; done) | (rw [decide_eq_true (by omega)]; done) | (rw [decide_eq_false (by omega)]; rfl) | (rw [decide_eq_true (by omega)]; rfl))
  · refine XE.iconst (pc := 9) dX10_isFull_9 ?_
    refine XE.goto (pc := 10) (tgt := 14) dX10_isFull_10 (by decide) ?_
    exact XE.zreturn (pc := 14) dX10_isFull_14 (by first | exact Or.inl rfl | exact Or.inr rfl | exact bz_01 _) (Nat.zero_le _) (Nat.zero_le _) (by refine ⟨?_, rfl⟩; first | (rw [decide_eq_false (by omega)]; done) | (rw [decide_eq_true (by omega)]; done) | (rw [decide_eq_false (by omega)]; rfl) | (rw [decide_eq_true (by omega)]; rfl))
set_option maxHeartbeats 1000000 in
set_option maxRecDepth 20000 in
theorem s_Tri_clear {t m : Nat} {tw ts th : Nat → Int} {tf : Nat → Bool} {h : XH} (hT : TriAt h t m tw ts th tf) : XSp yX10_clear cX10_clear 1 none 1 0 0 [.ref t] h (fun v h' => v = none ∧ TriAt h' t 0 tw ts th tf ∧ XR t (t + 5) h h') := by
  refine XSp.ofF (by decide +kernel) (Nat.le_of_ble_eq_true rfl) ?_
  show XE _ RX10 cX10_clear 1 0 0 0 [(0, .ref t)] [] _
  obtain ⟨h1, h2, h3, h4, h5, rw1, rw2, rw3⟩ := id hT
  refine XE.aload_n (pc := 0) dX10_clear_0 rfl ?_
  refine XE.iconst (pc := 1) dX10_clear_1 ?_
  refine XE.putfield (pc := 2) tp_X10_25_10 dX10_clear_2 (by first | assumption | (repeat (first | refine xs_ne (by first | decide | assumption | omega) ?_ | exact xa_new | apply xa_old)); first | done | assumption | (apply xs_same; repeat (first | assumption | exact xa_new | refine xs_ne (by first | decide | assumption | omega) ?_ | apply xs_same | apply xa_old))) (fun _ => ⟨by first | rfl | exact xnar_bz _ | decide +kernel, by first | rfl | exact xfit_bz _ | decide +kernel⟩) (Nat.le_of_ble_eq_true rfl) ?_
  exact XE.vreturn (pc := 5)  dX10_clear_5 (by first | exact Nat.zero_le _ | decide) (by first | exact Nat.zero_le _ | decide) (by exact ⟨rfl, ⟨by (repeat (first | refine xs_ne (by first | decide | assumption | omega) ?_ | exact xa_new | apply xa_old)); first | done | assumption | (apply xs_same; repeat (first | assumption | exact xa_new | refine xs_ne (by first | decide | assumption | omega) ?_ | apply xs_same | apply xa_old)), by (repeat (first | refine xs_ne (by first | decide | assumption | omega) ?_ | exact xa_new | apply xa_old)); first | done | assumption | (apply xs_same; repeat (first | assumption | exact xa_new | refine xs_ne (by first | decide | assumption | omega) ?_ | apply xs_same | apply xa_old)), by (repeat (first | refine xs_ne (by first | decide | assumption | omega) ?_ | exact xa_new | apply xa_old)); first | done | assumption | (apply xs_same; repeat (first | assumption | exact xa_new | refine xs_ne (by first | decide | assumption | omega) ?_ | apply xs_same | apply xa_old)), by (repeat (first | refine xs_ne (by first | decide | assumption | omega) ?_ | exact xa_new | apply xa_old)); first | done | assumption | (apply xs_same; repeat (first | assumption | exact xa_new | refine xs_ne (by first | decide | assumption | omega) ?_ | apply xs_same | apply xa_old)), by (repeat (first | refine xs_ne (by first | decide | assumption | omega) ?_ | exact xa_new | apply xa_old)); first | done | assumption | (apply xs_same; repeat (first | assumption | exact xa_new | refine xs_ne (by first | decide | assumption | omega) ?_ | apply xs_same | apply xa_old)), rw1, rw2, rw3⟩, (XR.rf _ _ _).set _ (by omega) (by omega)⟩)
set_option maxHeartbeats 1000000 in
set_option maxRecDepth 20000 in
theorem s_Tri_add {t m : Nat} {tw ts th : Nat → Int} {tf : Nat → Bool} {p cs ch : Int} {f : Bool} {h : XH} (hT : TriAt h t m tw ts th tf) (hm : m < 6) (rp : RI p) (rc : -1000 ≤ cs ∧ cs ≤ 1000) (rh : RI ch) : XSp yX10_add cX10_add 5 none 1 0 0 [.ref t, .int (zI p), .int (zI cs), .int (zI ch), .int (zI (bz f))] h (fun v h' => v = none ∧ TriAt h' t (m + 1) (zu tw m p) (zu ts m cs) (zu th m ch) (zub tf m f) ∧ XR t (t + 5) h h') := by
  refine XSp.ofF (by decide +kernel) (Nat.le_of_ble_eq_true rfl) ?_
  show XE _ RX10 cX10_add 5 0 0 0 [(0, .ref t), (1, .int (zI p)), (2, .int (zI cs)), (3, .int (zI ch)), (4, .int (zI (bz f)))] [] _
  obtain ⟨h1, h2, h3, h4, h5, rw1, rw2, rw3⟩ := id hT
  refine XE.aload_n (pc := 0) dX10_add_0 rfl ?_
  refine XE.getfield (pc := 1) tf_X10_25_10 dX10_add_1 (by first | assumption | (repeat (first | refine xs_ne (by first | decide | assumption | omega) ?_ | exact xa_new | apply xa_old)); first | done | assumption | (apply xs_same; repeat (first | assumption | exact xa_new | refine xs_ne (by first | decide | assumption | omega) ?_ | apply xs_same | apply xa_old))) (by exact rfl) ?_
  refine XE.if_lt_f (pc := 4) (tgt := 16) dX10_add_4 (by decide) (by first | omega | assumption) (by first | omega | assumption) ?_
  refine XE.aload_n (pc := 7) dX10_add_7 rfl ?_
  refine XE.getfield (pc := 8) tf_X10_25_10 dX10_add_8 (by first | assumption | (repeat (first | refine xs_ne (by first | decide | assumption | omega) ?_ | exact xa_new | apply xa_old)); first | done | assumption | (apply xs_same; repeat (first | assumption | exact xa_new | refine xs_ne (by first | decide | assumption | omega) ?_ | apply xs_same | apply xa_old))) (by exact rfl) ?_
  refine XE.bipush (pc := 11) dX10_add_11 rfl ?_
  refine XE.icmp_lt_t (pc := 13) (tgt := 17) dX10_add_13 (by decide) (by first | omega | assumption) (by first | omega | assumption) (by first | omega | assumption) ?_
  refine XE.aload_n (pc := 17) dX10_add_17 rfl ?_
  refine XE.getfield (pc := 18) tf_X10_9_10 dX10_add_18 (by first | assumption | (repeat (first | refine xs_ne (by first | decide | assumption | omega) ?_ | exact xa_new | apply xa_old)); first | done | assumption | (apply xs_same; repeat (first | assumption | exact xa_new | refine xs_ne (by first | decide | assumption | omega) ?_ | apply xs_same | apply xa_old))) (by exact rfl) ?_
  refine XE.aload_n (pc := 21) dX10_add_21 rfl ?_
  refine XE.getfield (pc := 22) tf_X10_25_10 dX10_add_22 (by first | assumption | (repeat (first | refine xs_ne (by first | decide | assumption | omega) ?_ | exact xa_new | apply xa_old)); first | done | assumption | (apply xs_same; repeat (first | assumption | exact xa_new | refine xs_ne (by first | decide | assumption | omega) ?_ | apply xs_same | apply xa_old))) (by exact rfl) ?_
  refine XE.iload_n (pc := 25) dX10_add_25 rfl ?_
  refine XE.iastore (pc := 26) m dX10_add_26 (by first | assumption | (repeat (first | refine xs_ne (by first | decide | assumption | omega) ?_ | exact xa_new | apply xa_old)); first | done | assumption | (apply xs_same; repeat (first | assumption | exact xa_new | refine xs_ne (by first | decide | assumption | omega) ?_ | apply xs_same | apply xa_old))) (by first | omega | assumption) (by first | omega | assumption) (by decide)  ?_
  refine XE.aload_n (pc := 27) dX10_add_27 rfl ?_
  refine XE.getfield (pc := 28) tf_X10_15_10 dX10_add_28 (by first | assumption | (repeat (first | refine xs_ne (by first | decide | assumption | omega) ?_ | exact xa_new | apply xa_old)); first | done | assumption | (apply xs_same; repeat (first | assumption | exact xa_new | refine xs_ne (by first | decide | assumption | omega) ?_ | apply xs_same | apply xa_old))) (by exact rfl) ?_
  refine XE.aload_n (pc := 31) dX10_add_31 rfl ?_
  refine XE.getfield (pc := 32) tf_X10_25_10 dX10_add_32 (by first | assumption | (repeat (first | refine xs_ne (by first | decide | assumption | omega) ?_ | exact xa_new | apply xa_old)); first | done | assumption | (apply xs_same; repeat (first | assumption | exact xa_new | refine xs_ne (by first | decide | assumption | omega) ?_ | apply xs_same | apply xa_old))) (by exact rfl) ?_
  refine XE.iload_n (pc := 35) dX10_add_35 rfl ?_
  refine XE.iastore (pc := 36) m dX10_add_36 (by first | assumption | (repeat (first | refine xs_ne (by first | decide | assumption | omega) ?_ | exact xa_new | apply xa_old)); first | done | assumption | (apply xs_same; repeat (first | assumption | exact xa_new | refine xs_ne (by first | decide | assumption | omega) ?_ | apply xs_same | apply xa_old))) (by first | omega | assumption) (by first | omega | assumption) (by decide)  ?_
  refine XE.aload_n (pc := 37) dX10_add_37 rfl ?_
  refine XE.getfield (pc := 38) tf_X10_18_10 dX10_add_38 (by first | assumption | (repeat (first | refine xs_ne (by first | decide | assumption | omega) ?_ | exact xa_new | apply xa_old)); first | done | assumption | (apply xs_same; repeat (first | assumption | exact xa_new | refine xs_ne (by first | decide | assumption | omega) ?_ | apply xs_same | apply xa_old))) (by exact rfl) ?_
  refine XE.aload_n (pc := 41) dX10_add_41 rfl ?_
  refine XE.getfield (pc := 42) tf_X10_25_10 dX10_add_42 (by first | assumption | (repeat (first | refine xs_ne (by first | decide | assumption | omega) ?_ | exact xa_new | apply xa_old)); first | done | assumption | (apply xs_same; repeat (first | assumption | exact xa_new | refine xs_ne (by first | decide | assumption | omega) ?_ | apply xs_same | apply xa_old))) (by exact rfl) ?_
  refine XE.iload_n (pc := 45) dX10_add_45 rfl ?_
  refine XE.iastore (pc := 46) m dX10_add_46 (by first | assumption | (repeat (first | refine xs_ne (by first | decide | assumption | omega) ?_ | exact xa_new | apply xa_old)); first | done | assumption | (apply xs_same; repeat (first | assumption | exact xa_new | refine xs_ne (by first | decide | assumption | omega) ?_ | apply xs_same | apply xa_old))) (by first | omega | assumption) (by first | omega | assumption) (by decide)  ?_
  refine XE.aload_n (pc := 47) dX10_add_47 rfl ?_
  refine XE.getfield (pc := 48) tf_X10_21_10 dX10_add_48 (by first | assumption | (repeat (first | refine xs_ne (by first | decide | assumption | omega) ?_ | exact xa_new | apply xa_old)); first | done | assumption | (apply xs_same; repeat (first | assumption | exact xa_new | refine xs_ne (by first | decide | assumption | omega) ?_ | apply xs_same | apply xa_old))) (by exact rfl) ?_
  refine XE.aload_n (pc := 51) dX10_add_51 rfl ?_
  refine XE.getfield (pc := 52) tf_X10_25_10 dX10_add_52 (by first | assumption | (repeat (first | refine xs_ne (by first | decide | assumption | omega) ?_ | exact xa_new | apply xa_old)); first | done | assumption | (apply xs_same; repeat (first | assumption | exact xa_new | refine xs_ne (by first | decide | assumption | omega) ?_ | apply xs_same | apply xa_old))) (by exact rfl) ?_
  refine XE.iload (pc := 55) dX10_add_55 rfl ?_
  refine XE.zastore (pc := 57) m dX10_add_57 (by first | assumption | (repeat (first | refine xs_ne (by first | decide | assumption | omega) ?_ | exact xa_new | apply xa_old)); first | done | assumption | (apply xs_same; repeat (first | assumption | exact xa_new | refine xs_ne (by first | decide | assumption | omega) ?_ | apply xs_same | apply xa_old))) (by first | omega | assumption) (by first | omega | assumption) (by decide) (by first | rfl | exact xnarz_bz _ | decide +kernel) ?_
  refine XE.aload_n (pc := 58) dX10_add_58 rfl ?_
  refine XE.dup (pc := 59) dX10_add_59 rfl ?_
  refine XE.getfield (pc := 60) tf_X10_25_10 dX10_add_60 (by first | assumption | (repeat (first | refine xs_ne (by first | decide | assumption | omega) ?_ | exact xa_new | apply xa_old)); first | done | assumption | (apply xs_same; repeat (first | assumption | exact xa_new | refine xs_ne (by first | decide | assumption | omega) ?_ | apply xs_same | apply xa_old))) (by exact rfl) ?_
  refine XE.iconst (pc := 63) dX10_add_63 ?_
  refine XE.iadd (pc := 64) dX10_add_64 ?_
  refine XE.putfield (pc := 65) tp_X10_25_10 dX10_add_65 (by first | assumption | (repeat (first | refine xs_ne (by first | decide | assumption | omega) ?_ | exact xa_new | apply xa_old)); first | done | assumption | (apply xs_same; repeat (first | assumption | exact xa_new | refine xs_ne (by first | decide | assumption | omega) ?_ | apply xs_same | apply xa_old))) (fun _ => ⟨by first | rfl | exact xnar_bz _ | decide +kernel, by first | rfl | exact xfit_bz _ | decide +kernel⟩) (Nat.le_of_ble_eq_true rfl) ?_
  exact XE.vreturn (pc := 68)  dX10_add_68 (by first | exact Nat.zero_le _ | decide) (by first | exact Nat.zero_le _ | decide) (by refine ⟨rfl, ⟨by (repeat (first | refine xs_ne (by first | decide | assumption | omega) ?_ | exact xa_new | apply xa_old)); first | done | assumption | (apply xs_same; repeat (first | assumption | exact xa_new | refine xs_ne (by first | decide | assumption | omega) ?_ | apply xs_same | apply xa_old)), by (repeat (first | refine xs_ne (by first | decide | assumption | omega) ?_ | exact xa_new | apply xa_old)); first | done | assumption | (apply xs_same; repeat (first | assumption | exact xa_new | refine xs_ne (by first | decide | assumption | omega) ?_ | apply xs_same | apply xa_old)), by (repeat (first | refine xs_ne (by first | decide | assumption | omega) ?_ | exact xa_new | apply xa_old)); first | done | assumption | (apply xs_same; repeat (first | assumption | exact xa_new | refine xs_ne (by first | decide | assumption | omega) ?_ | apply xs_same | apply xa_old)), by (repeat (first | refine xs_ne (by first | decide | assumption | omega) ?_ | exact xa_new | apply xa_old)); first | done | assumption | (apply xs_same; repeat (first | assumption | exact xa_new | refine xs_ne (by first | decide | assumption | omega) ?_ | apply xs_same | apply xa_old)), ?_, RI_zu rw1 rp, ts_zu rw2 rc, RI_zu rw3 rh⟩, (((((XR.rf _ _ _).set _ (by omega) (by omega)).set _ (by omega) (by omega)).set _ (by omega) (by omega)).set _ (by omega) (by omega)).set _ (by omega) (by omega)⟩; rw [← zub_bz]; (repeat (first | refine xs_ne (by first | decide | assumption | omega) ?_ | exact xa_new | apply xa_old)); first | done | assumption | (apply xs_same; repeat (first | assumption | exact xa_new | refine xs_ne (by first | decide | assumption | omega) ?_ | apply xs_same | apply xa_old)))
set_option maxHeartbeats 1000000 in
set_option maxRecDepth 20000 in
theorem l_Tri_copy {t t2 m2 : Nat} {tw2 ts2 th2 : Nat → Int} {tf2 : Nat → Bool} {h : XH} (hm2 : m2 ≤ 6) (hd : t2 + 5 ≤ t ∨ t + 5 ≤ t2) : ∀ (r : Nat) (i : Nat) (hi : i + r = m2) (h1 : XH) (tw ts th : Nat → Int) (tf : Nat → Bool) (hT : TriAt h1 t i tw ts th tf) (he : ∀ k, k < i → tw k = tw2 k ∧ ts k = ts2 k ∧ th k = th2 k ∧ tf k = tf2 k) (hT2 : TriAt h1 t2 m2 tw2 ts2 th2 tf2) (hX : XR t (t + 5) h h1), XE (XKM yX10_copyFrom none 2 0 0 (fun v h' => v = none ∧ (∃ (tw ts th : Nat → Int) (tf : Nat → Bool), TriAt h' t m2 tw ts th tf ∧ ∀ k, k < m2 → tw k = tw2 k ∧ ts k = ts2 k ∧ th k = th2 k ∧ tf k = tf2 k) ∧ XR t (t + 5) h h')) RX10 cX10_copyFrom 3 0 0 11 [(0, .ref t), (1, .ref t2), (2, .int (zI (i : Int)))] [] h1 := by
  intro r
  induction r with
  | zero =>
    intro i hi h1 tw ts th tf hT he hT2 hX
    obtain ⟨g1, g2, g3, g4, g5, gw1, gw2, gw3⟩ := id hT2
    obtain ⟨h1, h2, h3, h4, h5, rw1, rw2, rw3⟩ := id hT
    refine XE.iload_n (pc := 11) dX10_copyFrom_11 rfl ?_
    refine XE.aload_n (pc := 12) dX10_copyFrom_12 rfl ?_
    refine XE.getfield (pc := 13) tf_X10_25_10 dX10_copyFrom_13 (by first | assumption | (repeat (first | refine xs_ne (by first | decide | assumption | omega) ?_ | exact xa_new | apply xa_old)); first | done | assumption | (apply xs_same; repeat (first | assumption | exact xa_new | refine xs_ne (by first | decide | assumption | omega) ?_ | apply xs_same | apply xa_old))) (by exact rfl) ?_
    refine XE.icmp_ge_t (pc := 16) (tgt := 59) dX10_copyFrom_16 (by decide) (by first | omega | assumption | exact rw1 _ | exact rw3 _ | exact gw1 _ | exact gw2 _ | exact gw3 _ | (have := rw2; omega)) (by first | omega | assumption | exact rw1 _ | exact rw3 _ | exact gw1 _ | exact gw2 _ | exact gw3 _ | (have := rw2; omega)) (by first | omega | assumption | exact rw1 _ | exact rw3 _ | exact gw1 _ | exact gw2 _ | exact gw3 _ | (have := rw2; omega)) ?_
    exact XE.vreturn (pc := 59)  dX10_copyFrom_59 (by first | exact Nat.zero_le _ | decide) (by first | exact Nat.zero_le _ | decide) (by have e : i = m2 := (by omega); subst e; exact ⟨rfl, ⟨tw, ts, th, tf, hT, he⟩, hX⟩)
  | succ r ih =>
    intro i hi h1 tw ts th tf hT he hT2 hX
    obtain ⟨g1, g2, g3, g4, g5, gw1, gw2, gw3⟩ := id hT2
    obtain ⟨h1, h2, h3, h4, h5, rw1, rw2, rw3⟩ := id hT
    have hlt : i < m2 := by omega
    refine XE.iload_n (pc := 11) dX10_copyFrom_11 rfl ?_
    refine XE.aload_n (pc := 12) dX10_copyFrom_12 rfl ?_
    refine XE.getfield (pc := 13) tf_X10_25_10 dX10_copyFrom_13 (by first | assumption | (repeat (first | refine xs_ne (by first | decide | assumption | omega) ?_ | exact xa_new | apply xa_old)); first | done | assumption | (apply xs_same; repeat (first | assumption | exact xa_new | refine xs_ne (by first | decide | assumption | omega) ?_ | apply xs_same | apply xa_old))) (by exact rfl) ?_
    refine XE.icmp_ge_f (pc := 16) (tgt := 59) dX10_copyFrom_16 (by decide) (by first | omega | assumption | exact rw1 _ | exact rw3 _ | exact gw1 _ | exact gw2 _ | exact gw3 _ | (have := rw2; omega)) (by first | omega | assumption | exact rw1 _ | exact rw3 _ | exact gw1 _ | exact gw2 _ | exact gw3 _ | (have := rw2; omega)) (by first | omega | assumption | exact rw1 _ | exact rw3 _ | exact gw1 _ | exact gw2 _ | exact gw3 _ | (have := rw2; omega)) ?_
    refine XE.iload_n (pc := 19) dX10_copyFrom_19 rfl ?_
    refine XE.bipush (pc := 20) dX10_copyFrom_20 rfl ?_
    refine XE.icmp_ge_f (pc := 22) (tgt := 59) dX10_copyFrom_22 (by decide) (by first | omega | assumption | exact rw1 _ | exact rw3 _ | exact gw1 _ | exact gw2 _ | exact gw3 _ | (have := rw2; omega)) (by first | omega | assumption | exact rw1 _ | exact rw3 _ | exact gw1 _ | exact gw2 _ | exact gw3 _ | (have := rw2; omega)) (by first | omega | assumption | exact rw1 _ | exact rw3 _ | exact gw1 _ | exact gw2 _ | exact gw3 _ | (have := rw2; omega)) ?_
    refine XE.aload_n (pc := 25) dX10_copyFrom_25 rfl ?_
    refine XE.aload_n (pc := 26) dX10_copyFrom_26 rfl ?_
    refine XE.getfield (pc := 27) tf_X10_9_10 dX10_copyFrom_27 (by first | assumption | (repeat (first | refine xs_ne (by first | decide | assumption | omega) ?_ | exact xa_new | apply xa_old)); first | done | assumption | (apply xs_same; repeat (first | assumption | exact xa_new | refine xs_ne (by first | decide | assumption | omega) ?_ | apply xs_same | apply xa_old))) (by exact rfl) ?_
    refine XE.iload_n (pc := 30) dX10_copyFrom_30 rfl ?_
    refine XE.iaload (pc := 31) i dX10_copyFrom_31 (by first | assumption | (repeat (first | refine xs_ne (by first | decide | assumption | omega) ?_ | exact xa_new | apply xa_old)); first | done | assumption | (apply xs_same; repeat (first | assumption | exact xa_new | refine xs_ne (by first | decide | assumption | omega) ?_ | apply xs_same | apply xa_old))) (by first | omega | assumption | exact rw1 _ | exact rw3 _ | exact gw1 _ | exact gw2 _ | exact gw3 _ | (have := rw2; omega)) (by first | omega | assumption | exact rw1 _ | exact rw3 _ | exact gw1 _ | exact gw2 _ | exact gw3 _ | (have := rw2; omega)) (by decide) ?_
    refine XE.aload_n (pc := 32) dX10_copyFrom_32 rfl ?_
    refine XE.getfield (pc := 33) tf_X10_15_10 dX10_copyFrom_33 (by first | assumption | (repeat (first | refine xs_ne (by first | decide | assumption | omega) ?_ | exact xa_new | apply xa_old)); first | done | assumption | (apply xs_same; repeat (first | assumption | exact xa_new | refine xs_ne (by first | decide | assumption | omega) ?_ | apply xs_same | apply xa_old))) (by exact rfl) ?_
    refine XE.iload_n (pc := 36) dX10_copyFrom_36 rfl ?_
    refine XE.iaload (pc := 37) i dX10_copyFrom_37 (by first | assumption | (repeat (first | refine xs_ne (by first | decide | assumption | omega) ?_ | exact xa_new | apply xa_old)); first | done | assumption | (apply xs_same; repeat (first | assumption | exact xa_new | refine xs_ne (by first | decide | assumption | omega) ?_ | apply xs_same | apply xa_old))) (by first | omega | assumption | exact rw1 _ | exact rw3 _ | exact gw1 _ | exact gw2 _ | exact gw3 _ | (have := rw2; omega)) (by first | omega | assumption | exact rw1 _ | exact rw3 _ | exact gw1 _ | exact gw2 _ | exact gw3 _ | (have := rw2; omega)) (by decide) ?_
    refine XE.aload_n (pc := 38) dX10_copyFrom_38 rfl ?_
    refine XE.getfield (pc := 39) tf_X10_18_10 dX10_copyFrom_39 (by first | assumption | (repeat (first | refine xs_ne (by first | decide | assumption | omega) ?_ | exact xa_new | apply xa_old)); first | done | assumption | (apply xs_same; repeat (first | assumption | exact xa_new | refine xs_ne (by first | decide | assumption | omega) ?_ | apply xs_same | apply xa_old))) (by exact rfl) ?_
    refine XE.iload_n (pc := 42) dX10_copyFrom_42 rfl ?_
    refine XE.iaload (pc := 43) i dX10_copyFrom_43 (by first | assumption | (repeat (first | refine xs_ne (by first | decide | assumption | omega) ?_ | exact xa_new | apply xa_old)); first | done | assumption | (apply xs_same; repeat (first | assumption | exact xa_new | refine xs_ne (by first | decide | assumption | omega) ?_ | apply xs_same | apply xa_old))) (by first | omega | assumption | exact rw1 _ | exact rw3 _ | exact gw1 _ | exact gw2 _ | exact gw3 _ | (have := rw2; omega)) (by first | omega | assumption | exact rw1 _ | exact rw3 _ | exact gw1 _ | exact gw2 _ | exact gw3 _ | (have := rw2; omega)) (by decide) ?_
    refine XE.aload_n (pc := 44) dX10_copyFrom_44 rfl ?_
    refine XE.getfield (pc := 45) tf_X10_21_10 dX10_copyFrom_45 (by first | assumption | (repeat (first | refine xs_ne (by first | decide | assumption | omega) ?_ | exact xa_new | apply xa_old)); first | done | assumption | (apply xs_same; repeat (first | assumption | exact xa_new | refine xs_ne (by first | decide | assumption | omega) ?_ | apply xs_same | apply xa_old))) (by exact rfl) ?_
    refine XE.iload_n (pc := 48) dX10_copyFrom_48 rfl ?_
    refine XE.zaload (pc := 49) i dX10_copyFrom_49 (by first | assumption | (repeat (first | refine xs_ne (by first | decide | assumption | omega) ?_ | exact xa_new | apply xa_old)); first | done | assumption | (apply xs_same; repeat (first | assumption | exact xa_new | refine xs_ne (by first | decide | assumption | omega) ?_ | apply xs_same | apply xa_old))) (by first | omega | assumption | exact rw1 _ | exact rw3 _ | exact gw1 _ | exact gw2 _ | exact gw3 _ | (have := rw2; omega)) (by first | omega | assumption | exact rw1 _ | exact rw3 _ | exact gw1 _ | exact gw2 _ | exact gw3 _ | (have := rw2; omega)) (by decide) ?_
    refine XE.cvP (pc := 50) (st := []) tc_X10_32_10 tm_X10_add dX10_copyFrom_50 (by exact rfl) (s_Tri_add hT (by omega) (gw1 _) (gw2 _) (gw3 _)) (by first | assumption | (repeat (first | refine xs_ne (by first | decide | assumption | omega) ?_ | exact xa_new | apply xa_old)); first | done | assumption | (apply xs_same; repeat (first | assumption | exact xa_new | refine xs_ne (by first | decide | assumption | omega) ?_ | apply xs_same | apply xa_old))) rfl rfl (XRD.km (by decide) (by decide) (by decide) (by decide)) ?_
    intro v1 hh hq
    obtain ⟨rfl, hT', hX'⟩ := hq
    refine XE.iinc (pc := 53) dX10_copyFrom_53 rfl (by decide) ?_
    refine XE.goto (pc := 56) (tgt := 11) dX10_copyFrom_56 (by decide) ?_
    exact ih (i + 1) (by omega) hh _ _ _ _ hT' (fun k hk => by
      by_cases e : k = i
      · subst e; exact ⟨zu_same _ _ _, zu_same _ _ _, zu_same _ _ _, if_pos rfl⟩
      · obtain ⟨a1, a2, a3, a4⟩ := he k (by omega)
        exact ⟨(zu_ne _ _ e).trans a1, (zu_ne _ _ e).trans a2, (zu_ne _ _ e).trans a3, (if_neg e).trans a4⟩) (hT2.keep hX' hd) (hX.tr hX')
set_option maxHeartbeats 1000000 in
set_option maxRecDepth 20000 in
theorem s_Tri_copyFrom {t t2 m m2 : Nat} {tw ts th tw2 ts2 th2 : Nat → Int} {tf tf2 : Nat → Bool} {h : XH} (hm2 : m2 ≤ 6) (hd : t2 + 5 ≤ t ∨ t + 5 ≤ t2) (hT : TriAt h t m tw ts th tf) (hT2 : TriAt h t2 m2 tw2 ts2 th2 tf2) : XSp yX10_copyFrom cX10_copyFrom 3 none 2 0 0 [.ref t, .ref t2] h (fun v h' => v = none ∧ (∃ (tw ts th : Nat → Int) (tf : Nat → Bool), TriAt h' t m2 tw ts th tf ∧ ∀ k, k < m2 → tw k = tw2 k ∧ ts k = ts2 k ∧ th k = th2 k ∧ tf k = tf2 k) ∧ XR t (t + 5) h h') := by
  refine XSp.ofF (by decide +kernel) (Nat.le_of_ble_eq_true rfl) ?_
  show XE _ RX10 cX10_copyFrom 3 0 0 0 [(0, .ref t), (1, .ref t2)] [] _
  obtain ⟨g1, g2, g3, g4, g5, gw1, gw2, gw3⟩ := id hT2
  obtain ⟨h1, h2, h3, h4, h5, rw1, rw2, rw3⟩ := id hT
  refine XE.aload_n (pc := 0) dX10_copyFrom_0 rfl ?_
  refine XE.ifnonnull (pc := 1) (tgt := 5) dX10_copyFrom_1 (by decide) ?_
  refine XE.aload_n (pc := 5) dX10_copyFrom_5 rfl ?_
  refine XE.cvP (pc := 6) (st := []) tc_X10_29_10 tm_X10_clear dX10_copyFrom_6 (by exact rfl) (s_Tri_clear hT) (by first | assumption | (repeat (first | refine xs_ne (by first | decide | assumption | omega) ?_ | exact xa_new | apply xa_old)); first | done | assumption | (apply xs_same; repeat (first | assumption | exact xa_new | refine xs_ne (by first | decide | assumption | omega) ?_ | apply xs_same | apply xa_old))) rfl rfl (XRD.km (by decide) (by decide) (by decide) (by decide)) ?_
  intro v1 hh hq
  obtain ⟨rfl, hT', hX'⟩ := hq
  refine XE.iconst (pc := 9) dX10_copyFrom_9 ?_
  refine XE.istore_n (pc := 10) dX10_copyFrom_10 (by decide) ?_
  exact l_Tri_copy hm2 hd m2 0 (by omega) hh _ _ _ _ hT' (fun k hk => absurd hk (Nat.not_lt_zero _)) (hT2.keep hX' hd) hX'
/-- whether all that is tried on p is so, from the i-th on, if he is of this size -/
def alwB (tw ts th : Nat → Int) (tf : Nat → Bool) (kd hd p s : Int) : Nat → Nat → Bool
  | 0, _ => true
  | r + 1, i => (!(decide (tw i = p)) || (fitB kd hd s (ts i) (th i) == tf i)) && alwB tw ts th tf kd hd p s r (i + 1)
set_option maxHeartbeats 1000000 in
set_option maxRecDepth 20000 in
theorem l_Tri_allow {t m a : Nat} {tw ts th : Nat → Int} {tf : Nat → Bool} {kd sz hd p s : Int} {v : Bool} {h : XH} (hm : m ≤ 6) (hT : TriAt h t m tw ts th tf) (ho : h[a]? = some (mO kd sz hd)) (hk : 0 ≤ kd ∧ kd ≤ 4) (rp : RI p) (rh : RI hd) (hs : -1000 ≤ s ∧ s ≤ 1000) : ∀ (r : Nat) (i : Nat) (hi : i + r = m) (hv : alwB tw ts th tf kd hd p s r i = v), XE (XKM yX10_allow (some FieldType.boolean) 3 0 0 (XD (some (.int (zI (bz v)))) h)) RX10 cX10_allow 6 0 0 9 [(0, .ref t), (1, .int (zI p)), (2, .ref a), (3, .int (zI s)), (4, .int (zI (i : Int)))] [] h := by
  intro r
  induction r with
  | zero =>
    intro i hi hv
    obtain ⟨h1, h2, h3, h4, h5, rw1, rw2, rw3⟩ := id hT
    refine XE.iload (pc := 9) dX10_allow_9 rfl ?_
    refine XE.aload_n (pc := 11) dX10_allow_11 rfl ?_
    refine XE.getfield (pc := 12) tf_X10_25_10 dX10_allow_12 (by first | assumption | (repeat (first | refine xs_ne (by first | decide | assumption | omega) ?_ | exact xa_new | apply xa_old)); first | done | assumption | (apply xs_same; repeat (first | assumption | exact xa_new | refine xs_ne (by first | decide | assumption | omega) ?_ | apply xs_same | apply xa_old))) (by exact rfl) ?_
    refine XE.icmp_ge_t (pc := 15) (tgt := 85) dX10_allow_15 (by decide) (by first | omega | assumption | exact rw1 _ | exact rw3 _ | exact bz_ri _) (by first | omega | assumption | exact rw1 _ | exact rw3 _ | exact bz_ri _) (by first | omega | assumption | exact rw1 _ | exact rw3 _ | (have := rw2; omega)) ?_
    refine XE.iconst (pc := 85) dX10_allow_85 ?_
    exact XE.zreturn (pc := 86) dX10_allow_86 (by first | exact Or.inl rfl | exact Or.inr rfl | exact bz_01 _) (Nat.zero_le _) (Nat.zero_le _) (by refine ⟨?_, rfl⟩; rw [← hv]; rfl)
  | succ r ih =>
    intro i hi hv
    obtain ⟨h1, h2, h3, h4, h5, rw1, rw2, rw3⟩ := id hT
    have hlt : i < m := by omega
    rw [alwB] at hv
    refine XE.iload (pc := 9) dX10_allow_9 rfl ?_
    refine XE.aload_n (pc := 11) dX10_allow_11 rfl ?_
    refine XE.getfield (pc := 12) tf_X10_25_10 dX10_allow_12 (by first | assumption | (repeat (first | refine xs_ne (by first | decide | assumption | omega) ?_ | exact xa_new | apply xa_old)); first | done | assumption | (apply xs_same; repeat (first | assumption | exact xa_new | refine xs_ne (by first | decide | assumption | omega) ?_ | apply xs_same | apply xa_old))) (by exact rfl) ?_
    refine XE.icmp_ge_f (pc := 15) (tgt := 85) dX10_allow_15 (by decide) (by first | omega | assumption | exact rw1 _ | exact rw3 _ | exact bz_ri _) (by first | omega | assumption | exact rw1 _ | exact rw3 _ | exact bz_ri _) (by first | omega | assumption | exact rw1 _ | exact rw3 _ | (have := rw2; omega)) ?_
    refine XE.iload (pc := 18) dX10_allow_18 rfl ?_
    refine XE.bipush (pc := 20) dX10_allow_20 rfl ?_
    refine XE.icmp_ge_f (pc := 22) (tgt := 85) dX10_allow_22 (by decide) (by first | omega | assumption | exact rw1 _ | exact rw3 _ | exact bz_ri _) (by first | omega | assumption | exact rw1 _ | exact rw3 _ | exact bz_ri _) (by first | omega | assumption | exact rw1 _ | exact rw3 _ | (have := rw2; omega)) ?_
    refine XE.aload_n (pc := 25) dX10_allow_25 rfl ?_
    refine XE.getfield (pc := 26) tf_X10_9_10 dX10_allow_26 (by first | assumption | (repeat (first | refine xs_ne (by first | decide | assumption | omega) ?_ | exact xa_new | apply xa_old)); first | done | assumption | (apply xs_same; repeat (first | assumption | exact xa_new | refine xs_ne (by first | decide | assumption | omega) ?_ | apply xs_same | apply xa_old))) (by exact rfl) ?_
    refine XE.iload (pc := 29) dX10_allow_29 rfl ?_
    refine XE.iaload (pc := 31) i dX10_allow_31 (by first | assumption | (repeat (first | refine xs_ne (by first | decide | assumption | omega) ?_ | exact xa_new | apply xa_old)); first | done | assumption | (apply xs_same; repeat (first | assumption | exact xa_new | refine xs_ne (by first | decide | assumption | omega) ?_ | apply xs_same | apply xa_old))) (by first | omega | assumption | exact rw1 _ | exact rw3 _ | (have := rw2; omega)) (by first | omega | assumption | exact rw1 _ | exact rw3 _ | (have := rw2; omega)) (by decide) ?_
    refine XE.iload_n (pc := 32) dX10_allow_32 rfl ?_
    refine XE.icmp_ne (pc := 33) (tgt := 40) dX10_allow_33 (by decide) (by first | omega | assumption | exact rw1 _ | exact rw3 _ | exact bz_ri _) (by first | omega | assumption | exact rw1 _ | exact rw3 _ | exact bz_ri _) (fun c_33 => ?_) (fun c_33 => ?_)
    · refine XE.iconst (pc := 40) dX10_allow_40 ?_
      refine XE.istore (pc := 41) dX10_allow_41 (by decide) ?_
      refine XE.iload (pc := 43) dX10_allow_43 rfl ?_
      refine XE.if_eq_t (pc := 45) (tgt := 79) dX10_allow_45 (by decide) (by decide) (by decide) ?_
      refine XE.keep [0, 1, 2, 3, 4] (ls' := [(0, .ref t), (1, .int (zI p)), (2, .ref a), (3, .int (zI s)), (4, .int (zI (i : Int)))]) rfl ?_
      refine XE.iinc (pc := 79) dX10_allow_79 rfl (by decide) ?_
      refine XE.goto (pc := 82) (tgt := 9) dX10_allow_82 (by decide) ?_
      exact ih (i + 1) (by omega) (by rw [← hv]; first | (rw [decide_eq_false c_33]; rfl) | (rw [bz_inj.mp c_74]; simp) | (rw [c_33, bz_inj.mp c_74]; simp))
    · refine XE.iconst (pc := 36) dX10_allow_36 ?_
      refine XE.goto (pc := 37) (tgt := 41) dX10_allow_37 (by decide) ?_
      refine XE.istore (pc := 41) dX10_allow_41 (by decide) ?_
      refine XE.iload (pc := 43) dX10_allow_43 rfl ?_
      refine XE.if_eq_f (pc := 45) (tgt := 79) dX10_allow_45 (by decide) (by decide) (by decide) ?_
      refine XE.aload_n (pc := 48) dX10_allow_48 rfl ?_
      refine XE.iload_n (pc := 49) dX10_allow_49 rfl ?_
      refine XE.aload_n (pc := 50) dX10_allow_50 rfl ?_
      refine XE.getfield (pc := 51) tf_X10_15_10 dX10_allow_51 (by first | assumption | (repeat (first | refine xs_ne (by first | decide | assumption | omega) ?_ | exact xa_new | apply xa_old)); first | done | assumption | (apply xs_same; repeat (first | assumption | exact xa_new | refine xs_ne (by first | decide | assumption | omega) ?_ | apply xs_same | apply xa_old))) (by exact rfl) ?_
      refine XE.iload (pc := 54) dX10_allow_54 rfl ?_
      refine XE.iaload (pc := 56) i dX10_allow_56 (by first | assumption | (repeat (first | refine xs_ne (by first | decide | assumption | omega) ?_ | exact xa_new | apply xa_old)); first | done | assumption | (apply xs_same; repeat (first | assumption | exact xa_new | refine xs_ne (by first | decide | assumption | omega) ?_ | apply xs_same | apply xa_old))) (by first | omega | assumption | exact rw1 _ | exact rw3 _ | (have := rw2; omega)) (by first | omega | assumption | exact rw1 _ | exact rw3 _ | (have := rw2; omega)) (by decide) ?_
      refine XE.aload_n (pc := 57) dX10_allow_57 rfl ?_
      refine XE.getfield (pc := 58) tf_X10_18_10 dX10_allow_58 (by first | assumption | (repeat (first | refine xs_ne (by first | decide | assumption | omega) ?_ | exact xa_new | apply xa_old)); first | done | assumption | (apply xs_same; repeat (first | assumption | exact xa_new | refine xs_ne (by first | decide | assumption | omega) ?_ | apply xs_same | apply xa_old))) (by exact rfl) ?_
      refine XE.iload (pc := 61) dX10_allow_61 rfl ?_
      refine XE.iaload (pc := 63) i dX10_allow_63 (by first | assumption | (repeat (first | refine xs_ne (by first | decide | assumption | omega) ?_ | exact xa_new | apply xa_old)); first | done | assumption | (apply xs_same; repeat (first | assumption | exact xa_new | refine xs_ne (by first | decide | assumption | omega) ?_ | apply xs_same | apply xa_old))) (by first | omega | assumption | exact rw1 _ | exact rw3 _ | (have := rw2; omega)) (by first | omega | assumption | exact rw1 _ | exact rw3 _ | (have := rw2; omega)) (by decide) ?_
      refine XE.dsp_wouldFit (pc := 64) [] tc_X10_36_3 tc_X10_36_8 tc_X10_36_0 tc_X10_36_2 tc_X10_36_9 dX10_allow_64 (by exact rfl) (by first | assumption | (repeat (first | refine xs_ne (by first | decide | assumption | omega) ?_ | exact xa_new | apply xa_old)); first | done | assumption | (apply xs_same; repeat (first | assumption | exact xa_new | refine xs_ne (by first | decide | assumption | omega) ?_ | apply xs_same | apply xa_old))) hk rh (rw3 _) hs (rw2 _) rfl (XRD.km (by decide) (by decide) (by decide) (by decide)) ?_
      refine XE.aload_n (pc := 67) dX10_allow_67 rfl ?_
      refine XE.getfield (pc := 68) tf_X10_21_10 dX10_allow_68 (by first | assumption | (repeat (first | refine xs_ne (by first | decide | assumption | omega) ?_ | exact xa_new | apply xa_old)); first | done | assumption | (apply xs_same; repeat (first | assumption | exact xa_new | refine xs_ne (by first | decide | assumption | omega) ?_ | apply xs_same | apply xa_old))) (by exact rfl) ?_
      refine XE.iload (pc := 71) dX10_allow_71 rfl ?_
      refine XE.zaload (pc := 73) i dX10_allow_73 (by first | assumption | (repeat (first | refine xs_ne (by first | decide | assumption | omega) ?_ | exact xa_new | apply xa_old)); first | done | assumption | (apply xs_same; repeat (first | assumption | exact xa_new | refine xs_ne (by first | decide | assumption | omega) ?_ | apply xs_same | apply xa_old))) (by first | omega | assumption | exact rw1 _ | exact rw3 _ | (have := rw2; omega)) (by first | omega | assumption | exact rw1 _ | exact rw3 _ | (have := rw2; omega)) (by decide) ?_
      refine XE.icmp_eq (pc := 74) (tgt := 79) dX10_allow_74 (by decide) (by first | omega | assumption | exact rw1 _ | exact rw3 _ | exact bz_ri _) (by first | omega | assumption | exact rw1 _ | exact rw3 _ | exact bz_ri _) (fun c_74 => ?_) (fun c_74 => ?_)
      · refine XE.keep [0, 1, 2, 3, 4] (ls' := [(0, .ref t), (1, .int (zI p)), (2, .ref a), (3, .int (zI s)), (4, .int (zI (i : Int)))]) rfl ?_
        refine XE.iinc (pc := 79) dX10_allow_79 rfl (by decide) ?_
        refine XE.goto (pc := 82) (tgt := 9) dX10_allow_82 (by decide) ?_
        exact ih (i + 1) (by omega) (by rw [← hv]; first | (rw [decide_eq_false c_33]; rfl) | (rw [bz_inj.mp c_74]; simp) | (rw [c_33, bz_inj.mp c_74]; simp))
      · refine XE.iconst (pc := 77) dX10_allow_77 ?_
        exact XE.zreturn (pc := 78) dX10_allow_78 (by first | exact Or.inl rfl | exact Or.inr rfl | exact bz_01 _) (Nat.zero_le _) (Nat.zero_le _) (by refine ⟨?_, rfl⟩; rw [← hv]; rw [decide_eq_true c_33, beq_eq_false_iff_ne.mpr (fun z => c_74 (bz_inj.mpr z))]; rfl)
set_option maxHeartbeats 1000000 in
set_option maxRecDepth 20000 in
theorem s_Tri_allow {t m a : Nat} {tw ts th : Nat → Int} {tf : Nat → Bool} {kd sz hd p s : Int} {h : XH} (hm : m ≤ 6) (hT : TriAt h t m tw ts th tf) (ho : h[a]? = some (mO kd sz hd)) (hk : 0 ≤ kd ∧ kd ≤ 4) (rp : RI p) (rh : RI hd) (hs : -1000 ≤ s ∧ s ≤ 1000) : XSp yX10_allow cX10_allow 6 (some FieldType.boolean) 3 0 0 [.ref t, .int (zI p), .ref a, .int (zI s)] h (XD (some (.int (zI (bz (alwB tw ts th tf kd hd p s m 0))))) h) := by
  refine XSp.ofF (by decide +kernel) (Nat.le_of_ble_eq_true rfl) ?_
  show XE _ RX10 cX10_allow 6 0 0 0 [(0, .ref t), (1, .int (zI p)), (2, .ref a), (3, .int (zI s))] [] _
  refine XE.aload_n (pc := 0) dX10_allow_0 rfl ?_
  refine XE.ifnonnull (pc := 1) (tgt := 6) dX10_allow_1 (by decide) ?_
  refine XE.iconst (pc := 6) dX10_allow_6 ?_
  refine XE.istore (pc := 7) dX10_allow_7 (by decide) ?_
  exact l_Tri_allow hm hT ho hk rp rh hs m 0 (by omega) rfl
end
section
/-! the page and the roll -/
def oPg (n : Int) : XC := .inr (5, [.ref 2, .int (zI n)])
def PgAt (h : XH) (n : Nat) (cs : Nat → Int) : Prop := h[1]? = some (oPg (n : Int)) ∧ h[2]? = some (ia 30 cs) ∧ n ≤ 30 ∧ ∀ q, 0 ≤ cs q ∧ cs q ≤ 126
theorem PgAt.keep {lo hi n : Nat} {cs : Nat → Int} {h h' : XH} (a : XR lo hi h h') (hd : 3 ≤ lo ∨ hi ≤ 1) (b : PgAt h n cs) : PgAt h' n cs := ⟨a.at b.1 (by omega), a.at b.2.1 (by omega), b.2.2⟩
def oRl (np nc : Int) : XC := .inr (6, [.ref 4, .ref 5, .int (zI np), .int (zI nc)])
def ManOk (kd sz hd : Int) : Prop := (0 ≤ kd ∧ kd ≤ 4) ∧ (0 ≤ sz ∧ sz ≤ 9) ∧ (0 ≤ hd ∧ hd ≤ 3)
def CrOk (ct ch cr : Int) : Prop := (0 ≤ ct ∧ ct ≤ 9) ∧ (0 ≤ ch ∧ ch ≤ 3) ∧ (0 ≤ cr ∧ cr ≤ 9)
def RlAt (h : XH) (np nc : Nat) (pf cf : Nat → Option Nat) (kd sz hd ct ch cr : Nat → Int) : Prop := h[3]? = some (oRl (np : Int) (nc : Int)) ∧ h[4]? = some (ra RX3 4 pf) ∧ h[5]? = some (ra RX1 4 cf) ∧ np ≤ 4 ∧ nc ≤ 4 ∧
  (∀ p, p < np → ∃ i, pf p = some i ∧ 56 ≤ i ∧ h[i]? = some (mO (kd p) (sz p) (hd p)) ∧ ManOk (kd p) (sz p) (hd p)) ∧ ∀ c, c < nc → ∃ i, cf c = some i ∧ 56 ≤ i ∧ h[i]? = some (cO (ct c) (ch c) (cr c)) ∧ CrOk (ct c) (ch c) (cr c)
theorem RlAt.keep {lo hi np nc : Nat} {pf cf : Nat → Option Nat} {kd sz hd ct ch cr : Nat → Int} {h h' : XH} (a : XR lo hi h h') (hd2 : (6 ≤ lo ∨ hi ≤ 3) ∧ hi ≤ 56) (b : RlAt h np nc pf cf kd sz hd ct ch cr) : RlAt h' np nc pf cf kd sz hd ct ch cr :=
  ⟨a.at b.1 (by omega), a.at b.2.1 (by omega), a.at b.2.2.1 (by omega), b.2.2.2.1, b.2.2.2.2.1, fun p hp => by
    obtain ⟨i, h1, h2, h3, h4⟩ := b.2.2.2.2.2.1 p hp
    exact ⟨i, h1, h2, a.at h3 (by omega), h4⟩, fun p hp => by
    obtain ⟨i, h1, h2, h3, h4⟩ := b.2.2.2.2.2.2 p hp
    exact ⟨i, h1, h2, a.at h3 (by omega), h4⟩⟩
def codZ (cs : Nat → Int) (n : Nat) (z : Int) : Int := if 0 ≤ z ∧ z < n then cs z.toNat else -1
theorem cod_in {cs : Nat → Int} {n i : Nat} (h : i < n) : codZ cs n (i : Int) = cs i := by unfold codZ; rw [if_pos (by omega)]; rfl
theorem cod_ri {cs : Nat → Int} {n : Nat} (hc : ∀ q, 0 ≤ cs q ∧ cs q ≤ 126) (z : Int) : -1 ≤ codZ cs n z ∧ codZ cs n z ≤ 126 := by
  unfold codZ
  split
  · have := hc z.toNat; omega
  · omega
/-- the first semicolon, from i on -/
def semR (cs : Nat → Int) : Nat → Nat → Nat
  | 0, i => i
  | r + 1, i => if cs i = 59 then i else semR cs r (i + 1)
theorem semR_le (cs : Nat → Int) : ∀ (r i : Nat), i ≤ semR cs r i ∧ semR cs r i ≤ i + r
  | 0, i => ⟨Nat.le_refl _, Nat.le_refl _⟩
  | r + 1, i => by
    unfold semR
    split
    · omega
    · have := semR_le cs r (i + 1); omega
def semF (cs : Nat → Int) (n : Nat) : Nat := semR cs n 0
def digB (c lo hi : Int) : Bool := decide (48 + lo ≤ c) && decide (c ≤ 48 + hi)
def kndB (c : Int) : Bool := decide (c = 109) || (decide (c = 116) || (decide (c = 98) || (decide (c = 105) || decide (c = 104))))
def crB (c : Int) (k : Nat) : Bool := if 4 ≤ k / 3 then false else if k % 3 = 1 then digB c 0 3 else digB c 1 9
def plB (c : Int) (k : Nat) : Bool := if k % 4 = 0 then kndB c else if k % 4 = 1 then digB c 1 9 else if k % 4 = 2 then digB c 0 3 else (decide (c = 44) && decide (k / 4 + 1 < 4)) || (decide (c = 59) && (decide (2 ≤ k / 4 + 1) && decide (k / 4 + 1 ≤ 4)))
def okB (cs : Nat → Int) (s i : Nat) : Bool := if i ≤ s then plB (cs i) i else crB (cs i) (i - s - 1)
def ffR (cs : Nat → Int) (s : Nat) : Nat → Nat → Nat
  | 0, i => i
  | r + 1, i => if okB cs s i = true then ffR cs s r (i + 1) else i
theorem ffR_le (cs : Nat → Int) (s : Nat) : ∀ (r i : Nat), i ≤ ffR cs s r i ∧ ffR cs s r i ≤ i + r
  | 0, i => ⟨Nat.le_refl _, Nat.le_refl _⟩
  | r + 1, i => by
    unfold ffR
    split
    · have := ffR_le cs s r (i + 1); omega
    · omega
def ffF (cs : Nat → Int) (n : Nat) : Nat := ffR cs (semF cs n) n 0
def staB (cs : Nat → Int) (n : Nat) : Bool := decide (ffF cs n = n) && (decide ((semF cs n : Int) + 1 < n) && decide ((n - semF cs n - 1) % 3 = 0))
set_option maxHeartbeats 1000000 in
set_option maxRecDepth 20000 in
theorem s_Pg_length {n : Nat} {cs : Nat → Int} {h : XH} (hG : PgAt h n cs) : XSp yX5_length cX5_length 1 (some FieldType.int) 1 0 0 [.ref 1] h (XD (some (.int (zI (n : Int)))) h) := by
  refine XSp.ofF (by decide +kernel) (Nat.le_of_ble_eq_true rfl) ?_
  show XE _ RX5 cX5_length 1 0 0 0 [(0, .ref 1)] [] _
  obtain ⟨p1, p2, p3, p4⟩ := id hG
  refine XE.aload_n (pc := 0) dX5_length_0 rfl ?_
  refine XE.getfield (pc := 1) tf_X5_15_5 dX5_length_1 (by first | assumption | (repeat (first | refine xs_ne (by first | decide | assumption | omega) ?_ | exact xa_new | apply xa_old)); first | done | assumption | (apply xs_same; repeat (first | assumption | exact xa_new | refine xs_ne (by first | decide | assumption | omega) ?_ | apply xs_same | apply xa_old))) (by exact rfl) ?_
  exact XE.ireturn (pc := 4) dX5_length_4 (by first | exact Nat.zero_le _ | decide) (by first | exact Nat.zero_le _ | decide) (by first | exact ⟨rfl, rfl⟩ | exact ⟨by simp_all, rfl⟩)
set_option maxHeartbeats 1000000 in
set_option maxRecDepth 20000 in
theorem s_Pg_isFull {n : Nat} {cs : Nat → Int} {h : XH} (hG : PgAt h n cs) : XSp yX5_isFull cX5_isFull 1 (some FieldType.boolean) 1 0 0 [.ref 1] h (XD (some (.int (zI (bz (decide (30 ≤ n)))))) h) := by
  refine XSp.ofF (by decide +kernel) (Nat.le_of_ble_eq_true rfl) ?_
  show XE _ RX5 cX5_isFull 1 0 0 0 [(0, .ref 1)] [] _
  obtain ⟨p1, p2, p3, p4⟩ := id hG
  refine XE.aload_n (pc := 0) dX5_isFull_0 rfl ?_
  refine XE.getfield (pc := 1) tf_X5_15_5 dX5_isFull_1 (by first | assumption | (repeat (first | refine xs_ne (by first | decide | assumption | omega) ?_ | exact xa_new | apply xa_old)); first | done | assumption | (apply xs_same; repeat (first | assumption | exact xa_new | refine xs_ne (by first | decide | assumption | omega) ?_ | apply xs_same | apply xa_old))) (by exact rfl) ?_
  refine XE.aload_n (pc := 4) dX5_isFull_4 rfl ?_
  refine XE.getfield (pc := 5) tf_X5_9_5 dX5_isFull_5 (by first | assumption | (repeat (first | refine xs_ne (by first | decide | assumption | omega) ?_ | exact xa_new | apply xa_old)); first | done | assumption | (apply xs_same; repeat (first | assumption | exact xa_new | refine xs_ne (by first | decide | assumption | omega) ?_ | apply xs_same | apply xa_old))) (by exact rfl) ?_
  refine XE.alen (pc := 8) dX5_isFull_8 (by first | assumption | (repeat (first | refine xs_ne (by first | decide | assumption | omega) ?_ | exact xa_new | apply xa_old)); first | done | assumption | (apply xs_same; repeat (first | assumption | exact xa_new | refine xs_ne (by first | decide | assumption | omega) ?_ | apply xs_same | apply xa_old))) ?_
  refine XE.icmp_lt (pc := 9) (tgt := 16) dX5_isFull_9 (by decide) (by first | omega | assumption) (by first | omega | assumption) (fun c_9 => ?_) (fun c_9 => ?_)
  · refine XE.iconst (pc := 16) dX5_isFull_16 ?_
    exact XE.zreturn (pc := 17) dX5_isFull_17 (by first | exact Or.inl rfl | exact Or.inr rfl | exact bz_01 _) (Nat.zero_le _) (Nat.zero_le _) (by refine ⟨?_, rfl⟩; first | (rw [decide_eq_false (by omega)]; done) | (rw [decide_eq_true (by omega)]; done) | (rw [decide_eq_false (by omega)]; rfl) | (rw [decide_eq_true (by omega)]; rfl))
  · refine XE.iconst (pc := 12) dX5_isFull_12 ?_
    refine XE.goto (pc := 13) (tgt := 17) dX5_isFull_13 (by decide) ?_
    exact XE.zreturn (pc := 17) dX5_isFull_17 (by first | exact Or.inl rfl | exact Or.inr rfl | exact bz_01 _) (Nat.zero_le _) (Nat.zero_le _) (by refine ⟨?_, rfl⟩; first | (rw [decide_eq_false (by omega)]; done) | (rw [decide_eq_true (by omega)]; done) | (rw [decide_eq_false (by omega)]; rfl) | (rw [decide_eq_true (by omega)]; rfl))
set_option maxHeartbeats 1000000 in
set_option maxRecDepth 20000 in
theorem s_Pg_add {n : Nat} {cs : Nat → Int} {z : Int} {h : XH} (hG : PgAt h n cs) (hn : n < 30) (hz : 0 ≤ z ∧ z ≤ 126) : XSp yX5_add cX5_add 2 none 1 0 0 [.ref 1, .int (zI z)] h (fun v h' => v = none ∧ PgAt h' (n + 1) (zu cs n z) ∧ XR 1 3 h h') := by
  refine XSp.ofF (by decide +kernel) (Nat.le_of_ble_eq_true rfl) ?_
  show XE _ RX5 cX5_add 2 0 0 0 [(0, .ref 1), (1, .int (zI z))] [] _
  obtain ⟨p1, p2, p3, p4⟩ := id hG
  refine XE.aload_n (pc := 0) dX5_add_0 rfl ?_
  refine XE.getfield (pc := 1) tf_X5_15_5 dX5_add_1 (by first | assumption | (repeat (first | refine xs_ne (by first | decide | assumption | omega) ?_ | exact xa_new | apply xa_old)); first | done | assumption | (apply xs_same; repeat (first | assumption | exact xa_new | refine xs_ne (by first | decide | assumption | omega) ?_ | apply xs_same | apply xa_old))) (by exact rfl) ?_
  refine XE.if_lt_f (pc := 4) (tgt := 19) dX5_add_4 (by decide) (by first | omega | assumption) (by first | omega | assumption) ?_
  refine XE.aload_n (pc := 7) dX5_add_7 rfl ?_
  refine XE.getfield (pc := 8) tf_X5_15_5 dX5_add_8 (by first | assumption | (repeat (first | refine xs_ne (by first | decide | assumption | omega) ?_ | exact xa_new | apply xa_old)); first | done | assumption | (apply xs_same; repeat (first | assumption | exact xa_new | refine xs_ne (by first | decide | assumption | omega) ?_ | apply xs_same | apply xa_old))) (by exact rfl) ?_
  refine XE.aload_n (pc := 11) dX5_add_11 rfl ?_
  refine XE.getfield (pc := 12) tf_X5_9_5 dX5_add_12 (by first | assumption | (repeat (first | refine xs_ne (by first | decide | assumption | omega) ?_ | exact xa_new | apply xa_old)); first | done | assumption | (apply xs_same; repeat (first | assumption | exact xa_new | refine xs_ne (by first | decide | assumption | omega) ?_ | apply xs_same | apply xa_old))) (by exact rfl) ?_
  refine XE.alen (pc := 15) dX5_add_15 (by first | assumption | (repeat (first | refine xs_ne (by first | decide | assumption | omega) ?_ | exact xa_new | apply xa_old)); first | done | assumption | (apply xs_same; repeat (first | assumption | exact xa_new | refine xs_ne (by first | decide | assumption | omega) ?_ | apply xs_same | apply xa_old))) ?_
  refine XE.icmp_lt_t (pc := 16) (tgt := 20) dX5_add_16 (by decide) (by first | omega | assumption) (by first | omega | assumption) (by first | omega | assumption) ?_
  refine XE.aload_n (pc := 20) dX5_add_20 rfl ?_
  refine XE.getfield (pc := 21) tf_X5_9_5 dX5_add_21 (by first | assumption | (repeat (first | refine xs_ne (by first | decide | assumption | omega) ?_ | exact xa_new | apply xa_old)); first | done | assumption | (apply xs_same; repeat (first | assumption | exact xa_new | refine xs_ne (by first | decide | assumption | omega) ?_ | apply xs_same | apply xa_old))) (by exact rfl) ?_
  refine XE.aload_n (pc := 24) dX5_add_24 rfl ?_
  refine XE.getfield (pc := 25) tf_X5_15_5 dX5_add_25 (by first | assumption | (repeat (first | refine xs_ne (by first | decide | assumption | omega) ?_ | exact xa_new | apply xa_old)); first | done | assumption | (apply xs_same; repeat (first | assumption | exact xa_new | refine xs_ne (by first | decide | assumption | omega) ?_ | apply xs_same | apply xa_old))) (by exact rfl) ?_
  refine XE.iload_n (pc := 28) dX5_add_28 rfl ?_
  refine XE.iastore (pc := 29) n dX5_add_29 (by first | assumption | (repeat (first | refine xs_ne (by first | decide | assumption | omega) ?_ | exact xa_new | apply xa_old)); first | done | assumption | (apply xs_same; repeat (first | assumption | exact xa_new | refine xs_ne (by first | decide | assumption | omega) ?_ | apply xs_same | apply xa_old))) (by first | omega | assumption) (by first | omega | assumption) (by decide)  ?_
  refine XE.aload_n (pc := 30) dX5_add_30 rfl ?_
  refine XE.dup (pc := 31) dX5_add_31 rfl ?_
  refine XE.getfield (pc := 32) tf_X5_15_5 dX5_add_32 (by first | assumption | (repeat (first | refine xs_ne (by first | decide | assumption | omega) ?_ | exact xa_new | apply xa_old)); first | done | assumption | (apply xs_same; repeat (first | assumption | exact xa_new | refine xs_ne (by first | decide | assumption | omega) ?_ | apply xs_same | apply xa_old))) (by exact rfl) ?_
  refine XE.iconst (pc := 35) dX5_add_35 ?_
  refine XE.iadd (pc := 36) dX5_add_36 ?_
  refine XE.putfield (pc := 37) tp_X5_15_5 dX5_add_37 (by first | assumption | (repeat (first | refine xs_ne (by first | decide | assumption | omega) ?_ | exact xa_new | apply xa_old)); first | done | assumption | (apply xs_same; repeat (first | assumption | exact xa_new | refine xs_ne (by first | decide | assumption | omega) ?_ | apply xs_same | apply xa_old))) (fun _ => ⟨by first | rfl | exact xnar_bz _ | decide +kernel, by first | rfl | exact xfit_bz _ | decide +kernel⟩) (Nat.le_of_ble_eq_true rfl) ?_
  exact XE.vreturn (pc := 40)  dX5_add_40 (by first | exact Nat.zero_le _ | decide) (by first | exact Nat.zero_le _ | decide) (by exact ⟨rfl, ⟨by (repeat (first | refine xs_ne (by first | decide | assumption | omega) ?_ | exact xa_new | apply xa_old)); first | done | assumption | (apply xs_same; repeat (first | assumption | exact xa_new | refine xs_ne (by first | decide | assumption | omega) ?_ | apply xs_same | apply xa_old)), by (repeat (first | refine xs_ne (by first | decide | assumption | omega) ?_ | exact xa_new | apply xa_old)); first | done | assumption | (apply xs_same; repeat (first | assumption | exact xa_new | refine xs_ne (by first | decide | assumption | omega) ?_ | apply xs_same | apply xa_old)), by omega, fun q => by unfold zu; split; exact hz; exact p4 q⟩, ((XR.rf _ _ _).set _ (by omega) (by omega)).set _ (by omega) (by omega)⟩)
set_option maxHeartbeats 1000000 in
set_option maxRecDepth 20000 in
theorem s_Pg_clear {n : Nat} {cs : Nat → Int} {h : XH} (hG : PgAt h n cs) : XSp yX5_clear cX5_clear 1 none 1 0 0 [.ref 1] h (fun v h' => v = none ∧ PgAt h' 0 cs ∧ XR 1 3 h h') := by
  refine XSp.ofF (by decide +kernel) (Nat.le_of_ble_eq_true rfl) ?_
  show XE _ RX5 cX5_clear 1 0 0 0 [(0, .ref 1)] [] _
  obtain ⟨p1, p2, p3, p4⟩ := id hG
  refine XE.aload_n (pc := 0) dX5_clear_0 rfl ?_
  refine XE.iconst (pc := 1) dX5_clear_1 ?_
  refine XE.putfield (pc := 2) tp_X5_15_5 dX5_clear_2 (by first | assumption | (repeat (first | refine xs_ne (by first | decide | assumption | omega) ?_ | exact xa_new | apply xa_old)); first | done | assumption | (apply xs_same; repeat (first | assumption | exact xa_new | refine xs_ne (by first | decide | assumption | omega) ?_ | apply xs_same | apply xa_old))) (fun _ => ⟨by first | rfl | exact xnar_bz _ | decide +kernel, by first | rfl | exact xfit_bz _ | decide +kernel⟩) (Nat.le_of_ble_eq_true rfl) ?_
  exact XE.vreturn (pc := 5)  dX5_clear_5 (by first | exact Nat.zero_le _ | decide) (by first | exact Nat.zero_le _ | decide) (by exact ⟨rfl, ⟨by (repeat (first | refine xs_ne (by first | decide | assumption | omega) ?_ | exact xa_new | apply xa_old)); first | done | assumption | (apply xs_same; repeat (first | assumption | exact xa_new | refine xs_ne (by first | decide | assumption | omega) ?_ | apply xs_same | apply xa_old)), by (repeat (first | refine xs_ne (by first | decide | assumption | omega) ?_ | exact xa_new | apply xa_old)); first | done | assumption | (apply xs_same; repeat (first | assumption | exact xa_new | refine xs_ne (by first | decide | assumption | omega) ?_ | apply xs_same | apply xa_old)), by omega, p4⟩, (XR.rf _ _ _).set _ (by omega) (by omega)⟩)
set_option maxHeartbeats 1000000 in
set_option maxRecDepth 20000 in
theorem s_Pg_codeAt {n : Nat} {cs : Nat → Int} {z : Int} {h : XH} (hG : PgAt h n cs) (rz : RI z) : XSp yX5_codeAt cX5_codeAt 2 (some FieldType.int) 1 0 0 [.ref 1, .int (zI z)] h (XD (some (.int (zI (codZ cs n z)))) h) := by
  refine XSp.ofF (by decide +kernel) (Nat.le_of_ble_eq_true rfl) ?_
  show XE _ RX5 cX5_codeAt 2 0 0 0 [(0, .ref 1), (1, .int (zI z))] [] _
  obtain ⟨p1, p2, p3, p4⟩ := id hG
  refine XE.iload_n (pc := 0) dX5_codeAt_0 rfl ?_
  refine XE.if_lt (pc := 1) (tgt := 30) dX5_codeAt_1 (by decide) (by first | omega | assumption) (fun c_1 => ?_) (fun c_1 => ?_)
  · refine XE.iconst (pc := 30) dX5_codeAt_30 ?_
    exact XE.ireturn (pc := 31) dX5_codeAt_31 (by first | exact Nat.zero_le _ | decide) (by first | exact Nat.zero_le _ | decide) (by refine ⟨?_, rfl⟩; unfold codZ; first | (rw [if_pos (by omega)]; done) | (rw [if_neg (by omega)]; done))
  · refine XE.iload_n (pc := 4) dX5_codeAt_4 rfl ?_
    refine XE.aload_n (pc := 5) dX5_codeAt_5 rfl ?_
    refine XE.getfield (pc := 6) tf_X5_15_5 dX5_codeAt_6 (by first | assumption | (repeat (first | refine xs_ne (by first | decide | assumption | omega) ?_ | exact xa_new | apply xa_old)); first | done | assumption | (apply xs_same; repeat (first | assumption | exact xa_new | refine xs_ne (by first | decide | assumption | omega) ?_ | apply xs_same | apply xa_old))) (by exact rfl) ?_
    refine XE.icmp_ge (pc := 9) (tgt := 30) dX5_codeAt_9 (by decide) (by first | omega | assumption) (by first | omega | assumption) (fun c_9 => ?_) (fun c_9 => ?_)
    · refine XE.iconst (pc := 30) dX5_codeAt_30 ?_
      exact XE.ireturn (pc := 31) dX5_codeAt_31 (by first | exact Nat.zero_le _ | decide) (by first | exact Nat.zero_le _ | decide) (by refine ⟨?_, rfl⟩; unfold codZ; first | (rw [if_pos (by omega)]; done) | (rw [if_neg (by omega)]; done))
    · refine XE.iload_n (pc := 12) dX5_codeAt_12 rfl ?_
      refine XE.aload_n (pc := 13) dX5_codeAt_13 rfl ?_
      refine XE.getfield (pc := 14) tf_X5_9_5 dX5_codeAt_14 (by first | assumption | (repeat (first | refine xs_ne (by first | decide | assumption | omega) ?_ | exact xa_new | apply xa_old)); first | done | assumption | (apply xs_same; repeat (first | assumption | exact xa_new | refine xs_ne (by first | decide | assumption | omega) ?_ | apply xs_same | apply xa_old))) (by exact rfl) ?_
      refine XE.alen (pc := 17) dX5_codeAt_17 (by first | assumption | (repeat (first | refine xs_ne (by first | decide | assumption | omega) ?_ | exact xa_new | apply xa_old)); first | done | assumption | (apply xs_same; repeat (first | assumption | exact xa_new | refine xs_ne (by first | decide | assumption | omega) ?_ | apply xs_same | apply xa_old))) ?_
      refine XE.icmp_ge_f (pc := 18) (tgt := 30) dX5_codeAt_18 (by decide) (by first | omega | assumption) (by first | omega | assumption) (by first | omega | assumption) ?_
      refine XE.aload_n (pc := 21) dX5_codeAt_21 rfl ?_
      refine XE.getfield (pc := 22) tf_X5_9_5 dX5_codeAt_22 (by first | assumption | (repeat (first | refine xs_ne (by first | decide | assumption | omega) ?_ | exact xa_new | apply xa_old)); first | done | assumption | (apply xs_same; repeat (first | assumption | exact xa_new | refine xs_ne (by first | decide | assumption | omega) ?_ | apply xs_same | apply xa_old))) (by exact rfl) ?_
      refine XE.iload_n (pc := 25) dX5_codeAt_25 rfl ?_
      refine XE.iaload (pc := 26) z.toNat dX5_codeAt_26 (by first | assumption | (repeat (first | refine xs_ne (by first | decide | assumption | omega) ?_ | exact xa_new | apply xa_old)); first | done | assumption | (apply xs_same; repeat (first | assumption | exact xa_new | refine xs_ne (by first | decide | assumption | omega) ?_ | apply xs_same | apply xa_old))) (by first | omega | assumption) (by first | omega | assumption) (by decide) ?_
      refine XE.goto (pc := 27) (tgt := 31) dX5_codeAt_27 (by decide) ?_
      exact XE.ireturn (pc := 31) dX5_codeAt_31 (by first | exact Nat.zero_le _ | decide) (by first | exact Nat.zero_le _ | decide) (by refine ⟨?_, rfl⟩; unfold codZ; first | (rw [if_pos (by omega)]; done) | (rw [if_neg (by omega)]; done))
set_option maxHeartbeats 1000000 in
set_option maxRecDepth 20000 in
theorem s_Pg_digitAt {n : Nat} {cs : Nat → Int} {z : Int} {h : XH} (hG : PgAt h n cs) (rz : RI z) : XSp yX5_digitAt cX5_digitAt 2 (some FieldType.int) 2 0 0 [.ref 1, .int (zI z)] h (XD (some (.int (zI (codZ cs n z - 48)))) h) := by
  refine XSp.ofF (by decide +kernel) (Nat.le_of_ble_eq_true rfl) ?_
  show XE _ RX5 cX5_digitAt 2 0 0 0 [(0, .ref 1), (1, .int (zI z))] [] _
  obtain ⟨p1, p2, p3, p4⟩ := id hG
  refine XE.aload_n (pc := 0) dX5_digitAt_0 rfl ?_
  refine XE.iload_n (pc := 1) dX5_digitAt_1 rfl ?_
  refine XE.cvD1 (pc := 2) (st := []) tc_X5_19_5 tm_X5_codeAt dX5_digitAt_2 (by exact rfl) (s_Pg_codeAt hG rz) (by first | assumption | (repeat (first | refine xs_ne (by first | decide | assumption | omega) ?_ | exact xa_new | apply xa_old)); first | done | assumption | (apply xs_same; repeat (first | assumption | exact xa_new | refine xs_ne (by first | decide | assumption | omega) ?_ | apply xs_same | apply xa_old))) rfl rfl (XRD.km (by decide) (by decide) (by decide) (by decide)) ?_
  refine XE.bipush (pc := 5) dX5_digitAt_5 rfl ?_
  refine XE.isub (pc := 7) dX5_digitAt_7 ?_
  exact XE.ireturn (pc := 8) dX5_digitAt_8 (by first | exact Nat.zero_le _ | decide) (by first | exact Nat.zero_le _ | decide) (by first | exact ⟨rfl, rfl⟩ | exact ⟨by simp_all, rfl⟩)
set_option maxHeartbeats 1000000 in
set_option maxRecDepth 20000 in
theorem l_Pg_semi {n : Nat} {cs : Nat → Int} {w : Nat} {h : XH} (hG : PgAt h n cs) : ∀ (r : Nat) (i : Nat) (hi : i + r = n) (hv : semR cs r i = w), XE (XKM yX5_semicolon (some FieldType.int) 2 0 0 (XD (some (.int (zI (w : Int)))) h)) RX5 cX5_semicolon 2 0 0 2 [(0, .ref 1), (1, .int (zI (i : Int)))] [] h := by
  intro r
  induction r with
  | zero =>
    intro i hi hv
    obtain ⟨p1, p2, p3, p4⟩ := id hG
    refine XE.iload_n (pc := 2) dX5_semicolon_2 rfl ?_
    refine XE.aload_n (pc := 3) dX5_semicolon_3 rfl ?_
    refine XE.getfield (pc := 4) tf_X5_15_5 dX5_semicolon_4 (by first | assumption | (repeat (first | refine xs_ne (by first | decide | assumption | omega) ?_ | exact xa_new | apply xa_old)); first | done | assumption | (apply xs_same; repeat (first | assumption | exact xa_new | refine xs_ne (by first | decide | assumption | omega) ?_ | apply xs_same | apply xa_old))) (by exact rfl) ?_
    refine XE.icmp_ge_t (pc := 7) (tgt := 28) dX5_semicolon_7 (by decide) (by first | omega | assumption) (by first | omega | assumption) (by first | omega | assumption) ?_
    refine XE.aload_n (pc := 28) dX5_semicolon_28 rfl ?_
    refine XE.getfield (pc := 29) tf_X5_15_5 dX5_semicolon_29 (by first | assumption | (repeat (first | refine xs_ne (by first | decide | assumption | omega) ?_ | exact xa_new | apply xa_old)); first | done | assumption | (apply xs_same; repeat (first | assumption | exact xa_new | refine xs_ne (by first | decide | assumption | omega) ?_ | apply xs_same | apply xa_old))) (by exact rfl) ?_
    exact XE.ireturn (pc := 32) dX5_semicolon_32 (by first | exact Nat.zero_le _ | decide) (by first | exact Nat.zero_le _ | decide) (by refine ⟨?_, rfl⟩; rw [← hv, semR, show i = n by omega])
  | succ r ih =>
    intro i hi hv
    obtain ⟨p1, p2, p3, p4⟩ := id hG
    have hcd := cod_in (cs := cs) (show i < n by omega)
    have hb := p4 i
    rw [semR] at hv
    refine XE.iload_n (pc := 2) dX5_semicolon_2 rfl ?_
    refine XE.aload_n (pc := 3) dX5_semicolon_3 rfl ?_
    refine XE.getfield (pc := 4) tf_X5_15_5 dX5_semicolon_4 (by first | assumption | (repeat (first | refine xs_ne (by first | decide | assumption | omega) ?_ | exact xa_new | apply xa_old)); first | done | assumption | (apply xs_same; repeat (first | assumption | exact xa_new | refine xs_ne (by first | decide | assumption | omega) ?_ | apply xs_same | apply xa_old))) (by exact rfl) ?_
    refine XE.icmp_ge_f (pc := 7) (tgt := 28) dX5_semicolon_7 (by decide) (by first | omega | assumption) (by first | omega | assumption) (by first | omega | assumption) ?_
    refine XE.aload_n (pc := 10) dX5_semicolon_10 rfl ?_
    refine XE.iload_n (pc := 11) dX5_semicolon_11 rfl ?_
    refine XE.cvD1 (pc := 12) (st := []) tc_X5_19_5 tm_X5_codeAt dX5_semicolon_12 (by exact rfl) (s_Pg_codeAt hG (by omega)) (by first | assumption | (repeat (first | refine xs_ne (by first | decide | assumption | omega) ?_ | exact xa_new | apply xa_old)); first | done | assumption | (apply xs_same; repeat (first | assumption | exact xa_new | refine xs_ne (by first | decide | assumption | omega) ?_ | apply xs_same | apply xa_old))) rfl rfl (XRD.km (by decide) (by decide) (by decide) (by decide)) ?_
    rw [hcd]
    refine XE.bipush (pc := 15) dX5_semicolon_15 rfl ?_
    refine XE.icmp_ne (pc := 17) (tgt := 22) dX5_semicolon_17 (by decide) (by first | omega | assumption) (by first | omega | assumption) (fun c_17 => ?_) (fun c_17 => ?_)
    · refine XE.iinc (pc := 22) dX5_semicolon_22 rfl (by decide) ?_
      refine XE.goto (pc := 25) (tgt := 2) dX5_semicolon_25 (by decide) ?_
      exact ih (i + 1) (by omega) (by rw [← hv, if_neg c_17])
    · refine XE.iload_n (pc := 20) dX5_semicolon_20 rfl ?_
      exact XE.ireturn (pc := 21) dX5_semicolon_21 (by first | exact Nat.zero_le _ | decide) (by first | exact Nat.zero_le _ | decide) (by refine ⟨?_, rfl⟩; rw [← hv, if_pos c_17])
set_option maxHeartbeats 1000000 in
set_option maxRecDepth 20000 in
theorem s_Pg_semi {n : Nat} {cs : Nat → Int} {h : XH} (hG : PgAt h n cs) : XSp yX5_semicolon cX5_semicolon 2 (some FieldType.int) 2 0 0 [.ref 1] h (XD (some (.int (zI (semF cs n : Int)))) h) := by
  refine XSp.ofF (by decide +kernel) (Nat.le_of_ble_eq_true rfl) ?_
  show XE _ RX5 cX5_semicolon 2 0 0 0 [(0, .ref 1)] [] _
  refine XE.iconst (pc := 0) dX5_semicolon_0 ?_
  refine XE.istore_n (pc := 1) dX5_semicolon_1 (by decide) ?_
  exact l_Pg_semi hG n 0 (by omega) rfl
set_option maxHeartbeats 1000000 in
set_option maxRecDepth 20000 in
theorem s_Pg_isDigit {c lo hi : Int} {h : XH} (hc : -1 ≤ c ∧ c ≤ 126) (hl : 0 ≤ lo ∧ lo ≤ 9) (hh : 0 ≤ hi ∧ hi ≤ 9) : XSp yX5_isDigit cX5_isDigit 3 (some FieldType.boolean) 1 0 0 [.int (zI c), .int (zI lo), .int (zI hi)] h (XD (some (.int (zI (bz (digB c lo hi))))) h) := by
  refine XSp.ofF (by decide +kernel) (Nat.le_of_ble_eq_true rfl) ?_
  show XE _ RX5 cX5_isDigit 3 0 0 0 [(0, .int (zI c)), (1, .int (zI lo)), (2, .int (zI hi))] [] _
  refine XE.iload_n (pc := 0) dX5_isDigit_0 rfl ?_
  refine XE.bipush (pc := 1) dX5_isDigit_1 rfl ?_
  refine XE.iload_n (pc := 3) dX5_isDigit_3 rfl ?_
  refine XE.iadd (pc := 4) dX5_isDigit_4 ?_
  refine XE.icmp_lt (pc := 5) (tgt := 20) dX5_isDigit_5 (by decide) (by first | omega | assumption) (by first | omega | assumption) (fun c_5 => ?_) (fun c_5 => ?_)
  · refine XE.iconst (pc := 20) dX5_isDigit_20 ?_
    exact XE.zreturn (pc := 21) dX5_isDigit_21 (by first | exact Or.inl rfl | exact Or.inr rfl | exact bz_01 _) (Nat.zero_le _) (Nat.zero_le _) (by refine ⟨?_, rfl⟩; unfold digB; first | (rw [decide_eq_false (by omega)]; rfl) | (rw [decide_eq_true (by omega), decide_eq_false (by omega)]; rfl) | (rw [decide_eq_true (by omega), decide_eq_true (by omega)]; rfl))
  · refine XE.iload_n (pc := 8) dX5_isDigit_8 rfl ?_
    refine XE.bipush (pc := 9) dX5_isDigit_9 rfl ?_
    refine XE.iload_n (pc := 11) dX5_isDigit_11 rfl ?_
    refine XE.iadd (pc := 12) dX5_isDigit_12 ?_
    refine XE.icmp_gt (pc := 13) (tgt := 20) dX5_isDigit_13 (by decide) (by first | omega | assumption) (by first | omega | assumption) (fun c_13 => ?_) (fun c_13 => ?_)
    · refine XE.iconst (pc := 20) dX5_isDigit_20 ?_
      exact XE.zreturn (pc := 21) dX5_isDigit_21 (by first | exact Or.inl rfl | exact Or.inr rfl | exact bz_01 _) (Nat.zero_le _) (Nat.zero_le _) (by refine ⟨?_, rfl⟩; unfold digB; first | (rw [decide_eq_false (by omega)]; rfl) | (rw [decide_eq_true (by omega), decide_eq_false (by omega)]; rfl) | (rw [decide_eq_true (by omega), decide_eq_true (by omega)]; rfl))
    · refine XE.iconst (pc := 16) dX5_isDigit_16 ?_
      refine XE.goto (pc := 17) (tgt := 21) dX5_isDigit_17 (by decide) ?_
      exact XE.zreturn (pc := 21) dX5_isDigit_21 (by first | exact Or.inl rfl | exact Or.inr rfl | exact bz_01 _) (Nat.zero_le _) (Nat.zero_le _) (by refine ⟨?_, rfl⟩; unfold digB; first | (rw [decide_eq_false (by omega)]; rfl) | (rw [decide_eq_true (by omega), decide_eq_false (by omega)]; rfl) | (rw [decide_eq_true (by omega), decide_eq_true (by omega)]; rfl))
set_option maxHeartbeats 1000000 in
set_option maxRecDepth 20000 in
theorem s_Pg_isKind {c : Int} {h : XH} (hc : -1 ≤ c ∧ c ≤ 126) : XSp yX5_isKindLetter cX5_isKindLetter 1 (some FieldType.boolean) 1 0 0 [.int (zI c)] h (XD (some (.int (zI (bz (kndB c))))) h) := by
  refine XSp.ofF (by decide +kernel) (Nat.le_of_ble_eq_true rfl) ?_
  show XE _ RX5 cX5_isKindLetter 1 0 0 0 [(0, .int (zI c))] [] _
  refine XE.iload_n (pc := 0) dX5_isKindLetter_0 rfl ?_
  refine XE.bipush (pc := 1) dX5_isKindLetter_1 rfl ?_
  refine XE.icmp_eq (pc := 3) (tgt := 30) dX5_isKindLetter_3 (by decide) (by first | omega | assumption) (by first | omega | assumption) (fun c_3 => ?_) (fun c_3 => ?_)
  · refine XE.iconst (pc := 30) dX5_isKindLetter_30 ?_
    refine XE.goto (pc := 31) (tgt := 35) dX5_isKindLetter_31 (by decide) ?_
    exact XE.zreturn (pc := 35) dX5_isKindLetter_35 (by first | exact Or.inl rfl | exact Or.inr rfl | exact bz_01 _) (Nat.zero_le _) (Nat.zero_le _) (by refine ⟨?_, rfl⟩; unfold kndB; simp_all [bz])
  · refine XE.iload_n (pc := 6) dX5_isKindLetter_6 rfl ?_
    refine XE.bipush (pc := 7) dX5_isKindLetter_7 rfl ?_
    refine XE.icmp_eq (pc := 9) (tgt := 30) dX5_isKindLetter_9 (by decide) (by first | omega | assumption) (by first | omega | assumption) (fun c_9 => ?_) (fun c_9 => ?_)
    · refine XE.iconst (pc := 30) dX5_isKindLetter_30 ?_
      refine XE.goto (pc := 31) (tgt := 35) dX5_isKindLetter_31 (by decide) ?_
      exact XE.zreturn (pc := 35) dX5_isKindLetter_35 (by first | exact Or.inl rfl | exact Or.inr rfl | exact bz_01 _) (Nat.zero_le _) (Nat.zero_le _) (by refine ⟨?_, rfl⟩; unfold kndB; simp_all [bz])
    · refine XE.iload_n (pc := 12) dX5_isKindLetter_12 rfl ?_
      refine XE.bipush (pc := 13) dX5_isKindLetter_13 rfl ?_
      refine XE.icmp_eq (pc := 15) (tgt := 30) dX5_isKindLetter_15 (by decide) (by first | omega | assumption) (by first | omega | assumption) (fun c_15 => ?_) (fun c_15 => ?_)
      · refine XE.iconst (pc := 30) dX5_isKindLetter_30 ?_
        refine XE.goto (pc := 31) (tgt := 35) dX5_isKindLetter_31 (by decide) ?_
        exact XE.zreturn (pc := 35) dX5_isKindLetter_35 (by first | exact Or.inl rfl | exact Or.inr rfl | exact bz_01 _) (Nat.zero_le _) (Nat.zero_le _) (by refine ⟨?_, rfl⟩; unfold kndB; simp_all [bz])
      · refine XE.iload_n (pc := 18) dX5_isKindLetter_18 rfl ?_
        refine XE.bipush (pc := 19) dX5_isKindLetter_19 rfl ?_
        refine XE.icmp_eq (pc := 21) (tgt := 30) dX5_isKindLetter_21 (by decide) (by first | omega | assumption) (by first | omega | assumption) (fun c_21 => ?_) (fun c_21 => ?_)
        · refine XE.iconst (pc := 30) dX5_isKindLetter_30 ?_
          refine XE.goto (pc := 31) (tgt := 35) dX5_isKindLetter_31 (by decide) ?_
          exact XE.zreturn (pc := 35) dX5_isKindLetter_35 (by first | exact Or.inl rfl | exact Or.inr rfl | exact bz_01 _) (Nat.zero_le _) (Nat.zero_le _) (by refine ⟨?_, rfl⟩; unfold kndB; simp_all [bz])
        · refine XE.iload_n (pc := 24) dX5_isKindLetter_24 rfl ?_
          refine XE.bipush (pc := 25) dX5_isKindLetter_25 rfl ?_
          refine XE.icmp_ne (pc := 27) (tgt := 34) dX5_isKindLetter_27 (by decide) (by first | omega | assumption) (by first | omega | assumption) (fun c_27 => ?_) (fun c_27 => ?_)
          · refine XE.iconst (pc := 34) dX5_isKindLetter_34 ?_
            exact XE.zreturn (pc := 35) dX5_isKindLetter_35 (by first | exact Or.inl rfl | exact Or.inr rfl | exact bz_01 _) (Nat.zero_le _) (Nat.zero_le _) (by refine ⟨?_, rfl⟩; unfold kndB; simp_all [bz])
          · refine XE.iconst (pc := 30) dX5_isKindLetter_30 ?_
            refine XE.goto (pc := 31) (tgt := 35) dX5_isKindLetter_31 (by decide) ?_
            exact XE.zreturn (pc := 35) dX5_isKindLetter_35 (by first | exact Or.inl rfl | exact Or.inr rfl | exact bz_01 _) (Nat.zero_le _) (Nat.zero_le _) (by refine ⟨?_, rfl⟩; unfold kndB; simp_all [bz])
set_option maxHeartbeats 1000000 in
set_option maxRecDepth 20000 in
theorem s_Pg_ofCr {c : Int} {k : Nat} {h : XH} (hc : -1 ≤ c ∧ c ≤ 126) (hk : k ≤ 60) : XSp yX5_isOfCrimes cX5_isOfCrimes 2 (some FieldType.boolean) 2 0 0 [.int (zI c), .int (zI (k : Int))] h (XD (some (.int (zI (bz (crB c k))))) h) := by
  refine XSp.ofF (by decide +kernel) (Nat.le_of_ble_eq_true rfl) ?_
  show XE _ RX5 cX5_isOfCrimes 2 0 0 0 [(0, .int (zI c)), (1, .int (zI (k : Int)))] [] _
  refine XE.iload_n (pc := 0) dX5_isOfCrimes_0 rfl ?_
  refine XE.iconst (pc := 1) dX5_isOfCrimes_1 ?_
  refine XE.idiv (pc := 2) dX5_isOfCrimes_2 (by first | omega | assumption) (by first | omega | assumption) (by first | omega | assumption) (by first | omega | assumption) ?_
  refine XE.iconst (pc := 3) dX5_isOfCrimes_3 ?_
  refine XE.icmp_lt (pc := 4) (tgt := 9) dX5_isOfCrimes_4 (by decide) (by first | omega | assumption) (by first | omega | assumption) (fun c_4 => ?_) (fun c_4 => ?_)
  · refine XE.iload_n (pc := 9) dX5_isOfCrimes_9 rfl ?_
    refine XE.iconst (pc := 10) dX5_isOfCrimes_10 ?_
    refine XE.irem (pc := 11) dX5_isOfCrimes_11 (by first | omega | assumption) (by first | omega | assumption) (by first | omega | assumption) (by first | omega | assumption) ?_
    refine XE.iconst (pc := 12) dX5_isOfCrimes_12 ?_
    refine XE.icmp_ne (pc := 13) (tgt := 25) dX5_isOfCrimes_13 (by decide) (by first | omega | assumption) (by first | omega | assumption) (fun c_13 => ?_) (fun c_13 => ?_)
    · refine XE.iload_n (pc := 25) dX5_isOfCrimes_25 rfl ?_
      refine XE.iconst (pc := 26) dX5_isOfCrimes_26 ?_
      refine XE.bipush (pc := 27) dX5_isOfCrimes_27 rfl ?_
      refine XE.csD1 (pc := 29) (st := []) tc_X5_41 tm_X5_isDigit dX5_isOfCrimes_29 (by exact rfl) (s_Pg_isDigit hc (by omega) (by omega))  rfl rfl (XRD.km (by decide) (by decide) (by decide) (by decide)) ?_
      exact XE.zreturn (pc := 32) dX5_isOfCrimes_32 (by first | exact Or.inl rfl | exact Or.inr rfl | exact bz_01 _) (Nat.zero_le _) (Nat.zero_le _) (by refine ⟨?_, rfl⟩; unfold crB; first | (rw [if_pos (by omega)]; rfl) | (rw [if_neg (by omega), if_pos (by omega)]; done) | (rw [if_neg (by omega), if_neg (by omega)]; done))
    · refine XE.iload_n (pc := 16) dX5_isOfCrimes_16 rfl ?_
      refine XE.iconst (pc := 17) dX5_isOfCrimes_17 ?_
      refine XE.iconst (pc := 18) dX5_isOfCrimes_18 ?_
      refine XE.csD1 (pc := 19) (st := []) tc_X5_41 tm_X5_isDigit dX5_isOfCrimes_19 (by exact rfl) (s_Pg_isDigit hc (by omega) (by omega))  rfl rfl (XRD.km (by decide) (by decide) (by decide) (by decide)) ?_
      refine XE.goto (pc := 22) (tgt := 32) dX5_isOfCrimes_22 (by decide) ?_
      exact XE.zreturn (pc := 32) dX5_isOfCrimes_32 (by first | exact Or.inl rfl | exact Or.inr rfl | exact bz_01 _) (Nat.zero_le _) (Nat.zero_le _) (by refine ⟨?_, rfl⟩; unfold crB; first | (rw [if_pos (by omega)]; rfl) | (rw [if_neg (by omega), if_pos (by omega)]; done) | (rw [if_neg (by omega), if_neg (by omega)]; done))
  · refine XE.iconst (pc := 7) dX5_isOfCrimes_7 ?_
    exact XE.zreturn (pc := 8) dX5_isOfCrimes_8 (by first | exact Or.inl rfl | exact Or.inr rfl | exact bz_01 _) (Nat.zero_le _) (Nat.zero_le _) (by refine ⟨?_, rfl⟩; unfold crB; first | (rw [if_pos (by omega)]; rfl) | (rw [if_neg (by omega), if_pos (by omega)]; done) | (rw [if_neg (by omega), if_neg (by omega)]; done))
set_option maxHeartbeats 1000000 in
set_option maxRecDepth 20000 in
theorem s_Pg_ofPl {c : Int} {k : Nat} {h : XH} (hc : -1 ≤ c ∧ c ≤ 126) (hk : k ≤ 60) : XSp yX5_isOfPeople cX5_isOfPeople 3 (some FieldType.boolean) 2 0 0 [.int (zI c), .int (zI (k : Int))] h (XD (some (.int (zI (bz (plB c k))))) h) := by
  refine XSp.ofF (by decide +kernel) (Nat.le_of_ble_eq_true rfl) ?_
  show XE _ RX5 cX5_isOfPeople 3 0 0 0 [(0, .int (zI c)), (1, .int (zI (k : Int)))] [] _
  have hm : k % 4 = 0 ∨ k % 4 = 1 ∨ k % 4 = 2 ∨ k % 4 = 3 := by omega
  have he : ((k : Int) % 4) = ((k % 4 : Nat) : Int) := by omega
  refine XE.iload_n (pc := 0) dX5_isOfPeople_0 rfl ?_
  refine XE.iconst (pc := 1) dX5_isOfPeople_1 ?_
  refine XE.idiv (pc := 2) dX5_isOfPeople_2 (by first | omega | assumption) (by first | omega | assumption) (by first | omega | assumption) (by first | omega | assumption) ?_
  refine XE.iconst (pc := 3) dX5_isOfPeople_3 ?_
  refine XE.iadd (pc := 4) dX5_isOfPeople_4 ?_
  refine XE.istore_n (pc := 5) dX5_isOfPeople_5 (by decide) ?_
  refine XE.iload_n (pc := 6) dX5_isOfPeople_6 rfl ?_
  refine XE.iconst (pc := 7) dX5_isOfPeople_7 ?_
  refine XE.irem (pc := 8) dX5_isOfPeople_8 (by first | omega | assumption) (by first | omega | assumption) (by first | omega | assumption) (by first | omega | assumption) ?_
  rw [he]; rcases hm with hm | hm | hm | hm <;> rw [hm]
  · refine XE.tableIn (pc := 9) (tgt := 36) dX5_isOfPeople_9 (by first | omega | assumption) ⟨(by first | omega | assumption), (by first | omega | assumption)⟩ (by exact rfl) (by decide) ?_
    refine XE.iload_n (pc := 36) dX5_isOfPeople_36 rfl ?_
    refine XE.csD1 (pc := 37) (st := []) tc_X5_37 tm_X5_isKindLetter dX5_isOfPeople_37 (by exact rfl) (s_Pg_isKind hc)  rfl rfl (XRD.km (by decide) (by decide) (by decide) (by decide)) ?_
    exact XE.zreturn (pc := 40) dX5_isOfPeople_40 (by first | exact Or.inl rfl | exact Or.inr rfl | exact bz_01 _) (Nat.zero_le _) (Nat.zero_le _) (by refine ⟨?_, rfl⟩; unfold plB; rw [if_pos hm])
  · refine XE.tableIn (pc := 9) (tgt := 41) dX5_isOfPeople_9 (by first | omega | assumption) ⟨(by first | omega | assumption), (by first | omega | assumption)⟩ (by exact rfl) (by decide) ?_
    refine XE.iload_n (pc := 41) dX5_isOfPeople_41 rfl ?_
    refine XE.iconst (pc := 42) dX5_isOfPeople_42 ?_
    refine XE.bipush (pc := 43) dX5_isOfPeople_43 rfl ?_
    refine XE.csD1 (pc := 45) (st := []) tc_X5_41 tm_X5_isDigit dX5_isOfPeople_45 (by exact rfl) (s_Pg_isDigit hc (by omega) (by omega))  rfl rfl (XRD.km (by decide) (by decide) (by decide) (by decide)) ?_
    exact XE.zreturn (pc := 48) dX5_isOfPeople_48 (by first | exact Or.inl rfl | exact Or.inr rfl | exact bz_01 _) (Nat.zero_le _) (Nat.zero_le _) (by refine ⟨?_, rfl⟩; unfold plB; rw [if_neg (by omega), if_pos hm])
  · refine XE.tableIn (pc := 9) (tgt := 49) dX5_isOfPeople_9 (by first | omega | assumption) ⟨(by first | omega | assumption), (by first | omega | assumption)⟩ (by exact rfl) (by decide) ?_
    refine XE.iload_n (pc := 49) dX5_isOfPeople_49 rfl ?_
    refine XE.iconst (pc := 50) dX5_isOfPeople_50 ?_
    refine XE.iconst (pc := 51) dX5_isOfPeople_51 ?_
    refine XE.csD1 (pc := 52) (st := []) tc_X5_41 tm_X5_isDigit dX5_isOfPeople_52 (by exact rfl) (s_Pg_isDigit hc (by omega) (by omega))  rfl rfl (XRD.km (by decide) (by decide) (by decide) (by decide)) ?_
    exact XE.zreturn (pc := 55) dX5_isOfPeople_55 (by first | exact Or.inl rfl | exact Or.inr rfl | exact bz_01 _) (Nat.zero_le _) (Nat.zero_le _) (by refine ⟨?_, rfl⟩; unfold plB; rw [if_neg (by omega), if_neg (by omega), if_pos hm])
  · refine XE.tableOut (pc := 9) (tgt := 56) dX5_isOfPeople_9 (by first | omega | assumption) (by first | omega | assumption) (by decide) ?_
    refine XE.iload_n (pc := 56) dX5_isOfPeople_56 rfl ?_
    refine XE.bipush (pc := 57) dX5_isOfPeople_57 rfl ?_
    refine XE.icmp_ne (pc := 59) (tgt := 67) dX5_isOfPeople_59 (by decide) (by first | omega | assumption) (by first | omega | assumption) (fun c_59 => ?_) (fun c_59 => ?_)
    · refine XE.iload_n (pc := 67) dX5_isOfPeople_67 rfl ?_
      refine XE.bipush (pc := 68) dX5_isOfPeople_68 rfl ?_
      refine XE.icmp_ne (pc := 70) (tgt := 87) dX5_isOfPeople_70 (by decide) (by first | omega | assumption) (by first | omega | assumption) (fun c_70 => ?_) (fun c_70 => ?_)
      · refine XE.iconst (pc := 87) dX5_isOfPeople_87 ?_
        exact XE.zreturn (pc := 88) dX5_isOfPeople_88 (by first | exact Or.inl rfl | exact Or.inr rfl | exact bz_01 _) (Nat.zero_le _) (Nat.zero_le _) (by refine ⟨?_, rfl⟩; unfold plB; rw [if_neg (by omega), if_neg (by omega), if_neg (by omega)]; first | (apply bzr1; simp only [Bool.or_eq_true, Bool.and_eq_true, decide_eq_true_eq, Bool.not_eq_true, decide_eq_false_iff_not]; omega) | (apply bzr0; rw [Bool.eq_false_iff]; intro q; simp only [Bool.or_eq_true, Bool.and_eq_true, decide_eq_true_eq, Bool.not_eq_true, decide_eq_false_iff_not, ne_eq] at q; omega))
      · refine XE.iload_n (pc := 73) dX5_isOfPeople_73 rfl ?_
        refine XE.iconst (pc := 74) dX5_isOfPeople_74 ?_
        refine XE.icmp_lt (pc := 75) (tgt := 87) dX5_isOfPeople_75 (by decide) (by first | omega | assumption) (by first | omega | assumption) (fun c_75 => ?_) (fun c_75 => ?_)
        · refine XE.iconst (pc := 87) dX5_isOfPeople_87 ?_
          exact XE.zreturn (pc := 88) dX5_isOfPeople_88 (by first | exact Or.inl rfl | exact Or.inr rfl | exact bz_01 _) (Nat.zero_le _) (Nat.zero_le _) (by refine ⟨?_, rfl⟩; unfold plB; rw [if_neg (by omega), if_neg (by omega), if_neg (by omega)]; first | (apply bzr1; simp only [Bool.or_eq_true, Bool.and_eq_true, decide_eq_true_eq, Bool.not_eq_true, decide_eq_false_iff_not]; omega) | (apply bzr0; rw [Bool.eq_false_iff]; intro q; simp only [Bool.or_eq_true, Bool.and_eq_true, decide_eq_true_eq, Bool.not_eq_true, decide_eq_false_iff_not, ne_eq] at q; omega))
        · refine XE.iload_n (pc := 78) dX5_isOfPeople_78 rfl ?_
          refine XE.iconst (pc := 79) dX5_isOfPeople_79 ?_
          refine XE.icmp_gt (pc := 80) (tgt := 87) dX5_isOfPeople_80 (by decide) (by first | omega | assumption) (by first | omega | assumption) (fun c_80 => ?_) (fun c_80 => ?_)
          · refine XE.iconst (pc := 87) dX5_isOfPeople_87 ?_
            exact XE.zreturn (pc := 88) dX5_isOfPeople_88 (by first | exact Or.inl rfl | exact Or.inr rfl | exact bz_01 _) (Nat.zero_le _) (Nat.zero_le _) (by refine ⟨?_, rfl⟩; unfold plB; rw [if_neg (by omega), if_neg (by omega), if_neg (by omega)]; first | (apply bzr1; simp only [Bool.or_eq_true, Bool.and_eq_true, decide_eq_true_eq, Bool.not_eq_true, decide_eq_false_iff_not]; omega) | (apply bzr0; rw [Bool.eq_false_iff]; intro q; simp only [Bool.or_eq_true, Bool.and_eq_true, decide_eq_true_eq, Bool.not_eq_true, decide_eq_false_iff_not, ne_eq] at q; omega))
          · refine XE.iconst (pc := 83) dX5_isOfPeople_83 ?_
            refine XE.goto (pc := 84) (tgt := 88) dX5_isOfPeople_84 (by decide) ?_
            exact XE.zreturn (pc := 88) dX5_isOfPeople_88 (by first | exact Or.inl rfl | exact Or.inr rfl | exact bz_01 _) (Nat.zero_le _) (Nat.zero_le _) (by refine ⟨?_, rfl⟩; unfold plB; rw [if_neg (by omega), if_neg (by omega), if_neg (by omega)]; first | (apply bzr1; simp only [Bool.or_eq_true, Bool.and_eq_true, decide_eq_true_eq, Bool.not_eq_true, decide_eq_false_iff_not]; omega) | (apply bzr0; rw [Bool.eq_false_iff]; intro q; simp only [Bool.or_eq_true, Bool.and_eq_true, decide_eq_true_eq, Bool.not_eq_true, decide_eq_false_iff_not, ne_eq] at q; omega))
    · refine XE.iload_n (pc := 62) dX5_isOfPeople_62 rfl ?_
      refine XE.iconst (pc := 63) dX5_isOfPeople_63 ?_
      refine XE.icmp_lt (pc := 64) (tgt := 83) dX5_isOfPeople_64 (by decide) (by first | omega | assumption) (by first | omega | assumption) (fun c_64 => ?_) (fun c_64 => ?_)
      · refine XE.iconst (pc := 83) dX5_isOfPeople_83 ?_
        refine XE.goto (pc := 84) (tgt := 88) dX5_isOfPeople_84 (by decide) ?_
        exact XE.zreturn (pc := 88) dX5_isOfPeople_88 (by first | exact Or.inl rfl | exact Or.inr rfl | exact bz_01 _) (Nat.zero_le _) (Nat.zero_le _) (by refine ⟨?_, rfl⟩; unfold plB; rw [if_neg (by omega), if_neg (by omega), if_neg (by omega)]; first | (apply bzr1; simp only [Bool.or_eq_true, Bool.and_eq_true, decide_eq_true_eq, Bool.not_eq_true, decide_eq_false_iff_not]; omega) | (apply bzr0; rw [Bool.eq_false_iff]; intro q; simp only [Bool.or_eq_true, Bool.and_eq_true, decide_eq_true_eq, Bool.not_eq_true, decide_eq_false_iff_not, ne_eq] at q; omega))
      · refine XE.iload_n (pc := 67) dX5_isOfPeople_67 rfl ?_
        refine XE.bipush (pc := 68) dX5_isOfPeople_68 rfl ?_
        refine XE.icmp_ne (pc := 70) (tgt := 87) dX5_isOfPeople_70 (by decide) (by first | omega | assumption) (by first | omega | assumption) (fun c_70 => ?_) (fun c_70 => ?_)
        · refine XE.iconst (pc := 87) dX5_isOfPeople_87 ?_
          exact XE.zreturn (pc := 88) dX5_isOfPeople_88 (by first | exact Or.inl rfl | exact Or.inr rfl | exact bz_01 _) (Nat.zero_le _) (Nat.zero_le _) (by refine ⟨?_, rfl⟩; unfold plB; rw [if_neg (by omega), if_neg (by omega), if_neg (by omega)]; first | (apply bzr1; simp only [Bool.or_eq_true, Bool.and_eq_true, decide_eq_true_eq, Bool.not_eq_true, decide_eq_false_iff_not]; omega) | (apply bzr0; rw [Bool.eq_false_iff]; intro q; simp only [Bool.or_eq_true, Bool.and_eq_true, decide_eq_true_eq, Bool.not_eq_true, decide_eq_false_iff_not, ne_eq] at q; omega))
        · refine XE.iload_n (pc := 73) dX5_isOfPeople_73 rfl ?_
          refine XE.iconst (pc := 74) dX5_isOfPeople_74 ?_
          refine XE.icmp_lt (pc := 75) (tgt := 87) dX5_isOfPeople_75 (by decide) (by first | omega | assumption) (by first | omega | assumption) (fun c_75 => ?_) (fun c_75 => ?_)
          · refine XE.iconst (pc := 87) dX5_isOfPeople_87 ?_
            exact XE.zreturn (pc := 88) dX5_isOfPeople_88 (by first | exact Or.inl rfl | exact Or.inr rfl | exact bz_01 _) (Nat.zero_le _) (Nat.zero_le _) (by refine ⟨?_, rfl⟩; unfold plB; rw [if_neg (by omega), if_neg (by omega), if_neg (by omega)]; first | (apply bzr1; simp only [Bool.or_eq_true, Bool.and_eq_true, decide_eq_true_eq, Bool.not_eq_true, decide_eq_false_iff_not]; omega) | (apply bzr0; rw [Bool.eq_false_iff]; intro q; simp only [Bool.or_eq_true, Bool.and_eq_true, decide_eq_true_eq, Bool.not_eq_true, decide_eq_false_iff_not, ne_eq] at q; omega))
          · refine XE.iload_n (pc := 78) dX5_isOfPeople_78 rfl ?_
            refine XE.iconst (pc := 79) dX5_isOfPeople_79 ?_
            refine XE.icmp_gt (pc := 80) (tgt := 87) dX5_isOfPeople_80 (by decide) (by first | omega | assumption) (by first | omega | assumption) (fun c_80 => ?_) (fun c_80 => ?_)
            · refine XE.iconst (pc := 87) dX5_isOfPeople_87 ?_
              exact XE.zreturn (pc := 88) dX5_isOfPeople_88 (by first | exact Or.inl rfl | exact Or.inr rfl | exact bz_01 _) (Nat.zero_le _) (Nat.zero_le _) (by refine ⟨?_, rfl⟩; unfold plB; rw [if_neg (by omega), if_neg (by omega), if_neg (by omega)]; first | (apply bzr1; simp only [Bool.or_eq_true, Bool.and_eq_true, decide_eq_true_eq, Bool.not_eq_true, decide_eq_false_iff_not]; omega) | (apply bzr0; rw [Bool.eq_false_iff]; intro q; simp only [Bool.or_eq_true, Bool.and_eq_true, decide_eq_true_eq, Bool.not_eq_true, decide_eq_false_iff_not, ne_eq] at q; omega))
            · refine XE.iconst (pc := 83) dX5_isOfPeople_83 ?_
              refine XE.goto (pc := 84) (tgt := 88) dX5_isOfPeople_84 (by decide) ?_
              exact XE.zreturn (pc := 88) dX5_isOfPeople_88 (by first | exact Or.inl rfl | exact Or.inr rfl | exact bz_01 _) (Nat.zero_le _) (Nat.zero_le _) (by refine ⟨?_, rfl⟩; unfold plB; rw [if_neg (by omega), if_neg (by omega), if_neg (by omega)]; first | (apply bzr1; simp only [Bool.or_eq_true, Bool.and_eq_true, decide_eq_true_eq, Bool.not_eq_true, decide_eq_false_iff_not]; omega) | (apply bzr0; rw [Bool.eq_false_iff]; intro q; simp only [Bool.or_eq_true, Bool.and_eq_true, decide_eq_true_eq, Bool.not_eq_true, decide_eq_false_iff_not, ne_eq] at q; omega))
set_option maxHeartbeats 1000000 in
set_option maxRecDepth 20000 in
theorem l_Pg_ff {n : Nat} {cs : Nat → Int} {s w : Nat} {h : XH} (hG : PgAt h n cs) (hs : s ≤ 30) : ∀ (r : Nat) (i : Nat) (hi : i + r = n) (hv : ffR cs s r i = w), XE (XKM yX5_firstFault (some FieldType.int) 3 0 0 (XD (some (.int (zI (w : Int)))) h)) RX5 cX5_firstFault 4 0 0 7 [(0, .ref 1), (1, .int (zI (s : Int))), (2, .int (zI (i : Int)))] [] h := by
  intro r
  induction r with
  | zero =>
    intro i hi hv
    obtain ⟨p1, p2, p3, p4⟩ := id hG
    refine XE.iload_n (pc := 7) dX5_firstFault_7 rfl ?_
    refine XE.aload_n (pc := 8) dX5_firstFault_8 rfl ?_
    refine XE.getfield (pc := 9) tf_X5_15_5 dX5_firstFault_9 (by first | assumption | (repeat (first | refine xs_ne (by first | decide | assumption | omega) ?_ | exact xa_new | apply xa_old)); first | done | assumption | (apply xs_same; repeat (first | assumption | exact xa_new | refine xs_ne (by first | decide | assumption | omega) ?_ | apply xs_same | apply xa_old))) (by exact rfl) ?_
    refine XE.icmp_ge_t (pc := 12) (tgt := 58) dX5_firstFault_12 (by decide) (by first | omega | assumption) (by first | omega | assumption) (by first | omega | assumption) ?_
    refine XE.aload_n (pc := 58) dX5_firstFault_58 rfl ?_
    refine XE.getfield (pc := 59) tf_X5_15_5 dX5_firstFault_59 (by first | assumption | (repeat (first | refine xs_ne (by first | decide | assumption | omega) ?_ | exact xa_new | apply xa_old)); first | done | assumption | (apply xs_same; repeat (first | assumption | exact xa_new | refine xs_ne (by first | decide | assumption | omega) ?_ | apply xs_same | apply xa_old))) (by exact rfl) ?_
    exact XE.ireturn (pc := 62) dX5_firstFault_62 (by first | exact Nat.zero_le _ | decide) (by first | exact Nat.zero_le _ | decide) (by refine ⟨?_, rfl⟩; rw [← hv, ffR, show i = n by omega])
  | succ r ih =>
    intro i hi hv
    obtain ⟨p1, p2, p3, p4⟩ := id hG
    have hcd := cod_in (cs := cs) (show i < n by omega)
    have hb := p4 i
    rw [ffR] at hv
    refine XE.iload_n (pc := 7) dX5_firstFault_7 rfl ?_
    refine XE.aload_n (pc := 8) dX5_firstFault_8 rfl ?_
    refine XE.getfield (pc := 9) tf_X5_15_5 dX5_firstFault_9 (by first | assumption | (repeat (first | refine xs_ne (by first | decide | assumption | omega) ?_ | exact xa_new | apply xa_old)); first | done | assumption | (apply xs_same; repeat (first | assumption | exact xa_new | refine xs_ne (by first | decide | assumption | omega) ?_ | apply xs_same | apply xa_old))) (by exact rfl) ?_
    refine XE.icmp_ge_f (pc := 12) (tgt := 58) dX5_firstFault_12 (by decide) (by first | omega | assumption) (by first | omega | assumption) (by first | omega | assumption) ?_
    refine XE.iload_n (pc := 15) dX5_firstFault_15 rfl ?_
    refine XE.iload_n (pc := 16) dX5_firstFault_16 rfl ?_
    refine XE.icmp_gt (pc := 17) (tgt := 32) dX5_firstFault_17 (by decide) (by first | omega | assumption) (by first | omega | assumption) (fun c_17 => ?_) (fun c_17 => ?_)
    · refine XE.aload_n (pc := 32) dX5_firstFault_32 rfl ?_
      refine XE.iload_n (pc := 33) dX5_firstFault_33 rfl ?_
      refine XE.cvD1 (pc := 34) (st := []) tc_X5_19_5 tm_X5_codeAt dX5_firstFault_34 (by exact rfl) (s_Pg_codeAt hG (by omega)) (by first | assumption | (repeat (first | refine xs_ne (by first | decide | assumption | omega) ?_ | exact xa_new | apply xa_old)); first | done | assumption | (apply xs_same; repeat (first | assumption | exact xa_new | refine xs_ne (by first | decide | assumption | omega) ?_ | apply xs_same | apply xa_old))) rfl rfl (XRD.km (by decide) (by decide) (by decide) (by decide)) ?_
      rw [hcd]
      refine XE.iload_n (pc := 37) dX5_firstFault_37 rfl ?_
      refine XE.iload_n (pc := 38) dX5_firstFault_38 rfl ?_
      refine XE.isub (pc := 39) dX5_firstFault_39 ?_
      refine XE.iconst (pc := 40) dX5_firstFault_40 ?_
      refine XE.isub (pc := 41) dX5_firstFault_41 ?_
      rw [show ((i : Int) - (s : Int) - 1) = ((i - s - 1 : Nat) : Int) by omega]
      refine XE.csD1 (pc := 42) (st := []) tc_X5_31 tm_X5_isOfCrimes dX5_firstFault_42 (by exact rfl) (s_Pg_ofCr (k := i - s - 1) (by omega) (by omega))  rfl rfl (XRD.km (by decide) (by decide) (by decide) (by decide)) ?_
      refine XE.istore_n (pc := 45) dX5_firstFault_45 (by decide) ?_
      refine XE.iload_n (pc := 46) dX5_firstFault_46 rfl ?_
      refine XE.ifz_ne (pc := 47) (tgt := 52) dX5_firstFault_47 (by decide) (fun c_47 => ?_) (fun c_47 => ?_)
      · refine XE.keep [0, 1, 2] (ls' := [(0, .ref 1), (1, .int (zI (s : Int))), (2, .int (zI (i : Int)))]) rfl ?_
        refine XE.iinc (pc := 52) dX5_firstFault_52 rfl (by decide) ?_
        refine XE.goto (pc := 55) (tgt := 7) dX5_firstFault_55 (by decide) ?_
        exact ih (i + 1) (by omega) (by rw [← hv, if_pos]; unfold okB; first | (rw [if_pos (by omega), c_47]; done) | (rw [if_neg (by omega), c_47]; done))
      · refine XE.iload_n (pc := 50) dX5_firstFault_50 rfl ?_
        exact XE.ireturn (pc := 51) dX5_firstFault_51 (by first | exact Nat.zero_le _ | decide) (by first | exact Nat.zero_le _ | decide) (by refine ⟨?_, rfl⟩; rw [← hv, if_neg]; unfold okB; first | (rw [if_pos (by omega), c_47]; decide) | (rw [if_neg (by omega), c_47]; decide))
    · refine XE.aload_n (pc := 20) dX5_firstFault_20 rfl ?_
      refine XE.iload_n (pc := 21) dX5_firstFault_21 rfl ?_
      refine XE.cvD1 (pc := 22) (st := []) tc_X5_19_5 tm_X5_codeAt dX5_firstFault_22 (by exact rfl) (s_Pg_codeAt hG (by omega)) (by first | assumption | (repeat (first | refine xs_ne (by first | decide | assumption | omega) ?_ | exact xa_new | apply xa_old)); first | done | assumption | (apply xs_same; repeat (first | assumption | exact xa_new | refine xs_ne (by first | decide | assumption | omega) ?_ | apply xs_same | apply xa_old))) rfl rfl (XRD.km (by decide) (by decide) (by decide) (by decide)) ?_
      rw [hcd]
      refine XE.iload_n (pc := 25) dX5_firstFault_25 rfl ?_
      refine XE.csD1 (pc := 26) (st := []) tc_X5_27 tm_X5_isOfPeople dX5_firstFault_26 (by exact rfl) (s_Pg_ofPl (by omega) (by omega))  rfl rfl (XRD.km (by decide) (by decide) (by decide) (by decide)) ?_
      refine XE.goto (pc := 29) (tgt := 45) dX5_firstFault_29 (by decide) ?_
      refine XE.istore_n (pc := 45) dX5_firstFault_45 (by decide) ?_
      refine XE.iload_n (pc := 46) dX5_firstFault_46 rfl ?_
      refine XE.ifz_ne (pc := 47) (tgt := 52) dX5_firstFault_47 (by decide) (fun c_47 => ?_) (fun c_47 => ?_)
      · refine XE.keep [0, 1, 2] (ls' := [(0, .ref 1), (1, .int (zI (s : Int))), (2, .int (zI (i : Int)))]) rfl ?_
        refine XE.iinc (pc := 52) dX5_firstFault_52 rfl (by decide) ?_
        refine XE.goto (pc := 55) (tgt := 7) dX5_firstFault_55 (by decide) ?_
        exact ih (i + 1) (by omega) (by rw [← hv, if_pos]; unfold okB; first | (rw [if_pos (by omega), c_47]; done) | (rw [if_neg (by omega), c_47]; done))
      · refine XE.iload_n (pc := 50) dX5_firstFault_50 rfl ?_
        exact XE.ireturn (pc := 51) dX5_firstFault_51 (by first | exact Nat.zero_le _ | decide) (by first | exact Nat.zero_le _ | decide) (by refine ⟨?_, rfl⟩; rw [← hv, if_neg]; unfold okB; first | (rw [if_pos (by omega), c_47]; decide) | (rw [if_neg (by omega), c_47]; decide))
set_option maxHeartbeats 1000000 in
set_option maxRecDepth 20000 in
theorem s_Pg_ff {n : Nat} {cs : Nat → Int} {h : XH} (hG : PgAt h n cs) : XSp yX5_firstFault cX5_firstFault 4 (some FieldType.int) 3 0 0 [.ref 1] h (XD (some (.int (zI (ffF cs n : Int)))) h) := by
  refine XSp.ofF (by decide +kernel) (Nat.le_of_ble_eq_true rfl) ?_
  show XE _ RX5 cX5_firstFault 4 0 0 0 [(0, .ref 1)] [] _
  obtain ⟨p1, p2, p3, p4⟩ := id hG
  have hsl := semR_le cs n 0
  refine XE.aload_n (pc := 0) dX5_firstFault_0 rfl ?_
  refine XE.cvD1 (pc := 1) (st := []) tc_X5_23_5 tm_X5_semicolon dX5_firstFault_1 (by exact rfl) (s_Pg_semi hG) (by first | assumption | (repeat (first | refine xs_ne (by first | decide | assumption | omega) ?_ | exact xa_new | apply xa_old)); first | done | assumption | (apply xs_same; repeat (first | assumption | exact xa_new | refine xs_ne (by first | decide | assumption | omega) ?_ | apply xs_same | apply xa_old))) rfl rfl (XRD.km (by decide) (by decide) (by decide) (by decide)) ?_
  refine XE.istore_n (pc := 4) dX5_firstFault_4 (by decide) ?_
  refine XE.iconst (pc := 5) dX5_firstFault_5 ?_
  refine XE.istore_n (pc := 6) dX5_firstFault_6 (by decide) ?_
  exact l_Pg_ff hG (show semF cs n ≤ 30 by unfold semF; omega) n 0 (by omega) rfl
set_option maxHeartbeats 1000000 in
set_option maxRecDepth 20000 in
theorem s_Pg_sta {n : Nat} {cs : Nat → Int} {h : XH} (hG : PgAt h n cs) : XSp yX5_isStation cX5_isStation 2 (some FieldType.boolean) 4 0 0 [.ref 1] h (XD (some (.int (zI (bz (staB cs n))))) h) := by
  refine XSp.ofF (by decide +kernel) (Nat.le_of_ble_eq_true rfl) ?_
  show XE _ RX5 cX5_isStation 2 0 0 0 [(0, .ref 1)] [] _
  obtain ⟨p1, p2, p3, p4⟩ := id hG
  have hsl : semF cs n ≤ n := by have := semR_le cs n 0; unfold semF; omega
  have hfl : ffF cs n ≤ n := by have := ffR_le cs (semF cs n) n 0; unfold ffF; omega
  refine XE.aload_n (pc := 0) dX5_isStation_0 rfl ?_
  refine XE.getfield (pc := 1) tf_X5_15_5 dX5_isStation_1 (by first | assumption | (repeat (first | refine xs_ne (by first | decide | assumption | omega) ?_ | exact xa_new | apply xa_old)); first | done | assumption | (apply xs_same; repeat (first | assumption | exact xa_new | refine xs_ne (by first | decide | assumption | omega) ?_ | apply xs_same | apply xa_old))) (by exact rfl) ?_
  refine XE.aload_n (pc := 4) dX5_isStation_4 rfl ?_
  refine XE.cvD1 (pc := 5) (st := [_]) tc_X5_23_5 tm_X5_semicolon dX5_isStation_5 (by exact rfl) (s_Pg_semi hG) (by first | assumption | (repeat (first | refine xs_ne (by first | decide | assumption | omega) ?_ | exact xa_new | apply xa_old)); first | done | assumption | (apply xs_same; repeat (first | assumption | exact xa_new | refine xs_ne (by first | decide | assumption | omega) ?_ | apply xs_same | apply xa_old))) rfl rfl (XRD.km (by decide) (by decide) (by decide) (by decide)) ?_
  refine XE.isub (pc := 8) dX5_isStation_8 ?_
  refine XE.iconst (pc := 9) dX5_isStation_9 ?_
  refine XE.isub (pc := 10) dX5_isStation_10 ?_
  refine XE.istore_n (pc := 11) dX5_isStation_11 (by decide) ?_
  refine XE.aload_n (pc := 12) dX5_isStation_12 rfl ?_
  refine XE.cvD1 (pc := 13) (st := []) tc_X5_34_5 tm_X5_firstFault dX5_isStation_13 (by exact rfl) (s_Pg_ff hG) (by first | assumption | (repeat (first | refine xs_ne (by first | decide | assumption | omega) ?_ | exact xa_new | apply xa_old)); first | done | assumption | (apply xs_same; repeat (first | assumption | exact xa_new | refine xs_ne (by first | decide | assumption | omega) ?_ | apply xs_same | apply xa_old))) rfl rfl (XRD.km (by decide) (by decide) (by decide) (by decide)) ?_
  refine XE.aload_n (pc := 16) dX5_isStation_16 rfl ?_
  refine XE.getfield (pc := 17) tf_X5_15_5 dX5_isStation_17 (by first | assumption | (repeat (first | refine xs_ne (by first | decide | assumption | omega) ?_ | exact xa_new | apply xa_old)); first | done | assumption | (apply xs_same; repeat (first | assumption | exact xa_new | refine xs_ne (by first | decide | assumption | omega) ?_ | apply xs_same | apply xa_old))) (by exact rfl) ?_
  refine XE.icmp_ne (pc := 20) (tgt := 37) dX5_isStation_20 (by decide) (by first | omega | assumption) (by first | omega | assumption) (fun c_20 => ?_) (fun c_20 => ?_)
  · refine XE.iconst (pc := 37) dX5_isStation_37 ?_
    exact XE.zreturn (pc := 38) dX5_isStation_38 (by first | exact Or.inl rfl | exact Or.inr rfl | exact bz_01 _) (Nat.zero_le _) (Nat.zero_le _) (by refine ⟨?_, rfl⟩; unfold staB; first | (apply bzr1; simp only [Bool.or_eq_true, Bool.and_eq_true, decide_eq_true_eq, Bool.not_eq_true, decide_eq_false_iff_not]; omega) | (apply bzr0; rw [Bool.eq_false_iff]; intro q; simp only [Bool.or_eq_true, Bool.and_eq_true, decide_eq_true_eq, Bool.not_eq_true, decide_eq_false_iff_not, ne_eq] at q; omega))
  · refine XE.iload_n (pc := 23) dX5_isStation_23 rfl ?_
    refine XE.if_le (pc := 24) (tgt := 37) dX5_isStation_24 (by decide) (by first | omega | assumption) (fun c_24 => ?_) (fun c_24 => ?_)
    · refine XE.iconst (pc := 37) dX5_isStation_37 ?_
      exact XE.zreturn (pc := 38) dX5_isStation_38 (by first | exact Or.inl rfl | exact Or.inr rfl | exact bz_01 _) (Nat.zero_le _) (Nat.zero_le _) (by refine ⟨?_, rfl⟩; unfold staB; first | (apply bzr1; simp only [Bool.or_eq_true, Bool.and_eq_true, decide_eq_true_eq, Bool.not_eq_true, decide_eq_false_iff_not]; omega) | (apply bzr0; rw [Bool.eq_false_iff]; intro q; simp only [Bool.or_eq_true, Bool.and_eq_true, decide_eq_true_eq, Bool.not_eq_true, decide_eq_false_iff_not, ne_eq] at q; omega))
    · refine XE.iload_n (pc := 27) dX5_isStation_27 rfl ?_
      refine XE.iconst (pc := 28) dX5_isStation_28 ?_
      refine XE.irem (pc := 29) dX5_isStation_29 (by first | omega | assumption) (by first | omega | assumption) (by first | omega | assumption) (by first | omega | assumption) ?_
      refine XE.if_ne (pc := 30) (tgt := 37) dX5_isStation_30 (by decide) (by first | omega | assumption) (fun c_30 => ?_) (fun c_30 => ?_)
      · refine XE.iconst (pc := 37) dX5_isStation_37 ?_
        exact XE.zreturn (pc := 38) dX5_isStation_38 (by first | exact Or.inl rfl | exact Or.inr rfl | exact bz_01 _) (Nat.zero_le _) (Nat.zero_le _) (by refine ⟨?_, rfl⟩; unfold staB; first | (apply bzr1; simp only [Bool.or_eq_true, Bool.and_eq_true, decide_eq_true_eq, Bool.not_eq_true, decide_eq_false_iff_not]; omega) | (apply bzr0; rw [Bool.eq_false_iff]; intro q; simp only [Bool.or_eq_true, Bool.and_eq_true, decide_eq_true_eq, Bool.not_eq_true, decide_eq_false_iff_not, ne_eq] at q; omega))
      · refine XE.iconst (pc := 33) dX5_isStation_33 ?_
        refine XE.goto (pc := 34) (tgt := 38) dX5_isStation_34 (by decide) ?_
        exact XE.zreturn (pc := 38) dX5_isStation_38 (by first | exact Or.inl rfl | exact Or.inr rfl | exact bz_01 _) (Nat.zero_le _) (Nat.zero_le _) (by refine ⟨?_, rfl⟩; unfold staB; first | (apply bzr1; simp only [Bool.or_eq_true, Bool.and_eq_true, decide_eq_true_eq, Bool.not_eq_true, decide_eq_false_iff_not]; omega) | (apply bzr0; rw [Bool.eq_false_iff]; intro q; simp only [Bool.or_eq_true, Bool.and_eq_true, decide_eq_true_eq, Bool.not_eq_true, decide_eq_false_iff_not, ne_eq] at q; omega))
end
