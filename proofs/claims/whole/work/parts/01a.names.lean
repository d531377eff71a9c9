-- ===== PART A: goes FIRST, ahead of the names: the tables' words, and 'selects' of the private methods out of them =====
/-- a private method of a class that the tables say can be made, by its rows of tables_1 -/
def lw_okq (q : MethodName × Nat) : Prop := (q.1.cls ≠ "java/lang/invoke/MethodHandle" ∧ q.1.cls ≠ "java/lang/invoke/VarHandle") ∧ Cond.instantiable q.1.cls q.2 ∈ tables_1 ∧ Cond.privateMethod q.1 ∈ tables_1 ∧ Cond.instanceMethod q.1 ∈ tables_1
theorem lw_p0 : lw_okq (⟨"BatteryCachesModel", "keep", "()V"⟩, 14) := ⟨⟨by decide +kernel, by decide +kernel⟩, List.mem_of_getElem? (i := 598) (by decide +kernel), List.mem_of_getElem? (i := 651) (by decide +kernel), List.mem_of_getElem? (i := 652) (by decide +kernel)⟩
theorem lw_p1 : lw_okq (⟨"BatteryCachesModel", "doRead", "(I)I"⟩, 14) := ⟨⟨by decide +kernel, by decide +kernel⟩, List.mem_of_getElem? (i := 598) (by decide +kernel), List.mem_of_getElem? (i := 655) (by decide +kernel), List.mem_of_getElem? (i := 656) (by decide +kernel)⟩
theorem lw_p2 : lw_okq (⟨"BatteryCachesModel", "touches", "(I)I"⟩, 14) := ⟨⟨by decide +kernel, by decide +kernel⟩, List.mem_of_getElem? (i := 598) (by decide +kernel), List.mem_of_getElem? (i := 666) (by decide +kernel), List.mem_of_getElem? (i := 667) (by decide +kernel)⟩
theorem lw_p3 : lw_okq (⟨"BatteryCachesModel", "holder", "(I)I"⟩, 14) := ⟨⟨by decide +kernel, by decide +kernel⟩, List.mem_of_getElem? (i := 598) (by decide +kernel), List.mem_of_getElem? (i := 670) (by decide +kernel), List.mem_of_getElem? (i := 671) (by decide +kernel)⟩
theorem lw_p4 : lw_okq (⟨"BatteryCachesModel", "counts", "(I)V"⟩, 14) := ⟨⟨by decide +kernel, by decide +kernel⟩, List.mem_of_getElem? (i := 598) (by decide +kernel), List.mem_of_getElem? (i := 674) (by decide +kernel), List.mem_of_getElem? (i := 675) (by decide +kernel)⟩
theorem lw_p5 : lw_okq (⟨"BatteryCachesModel", "oldest", "(I)I"⟩, 14) := ⟨⟨by decide +kernel, by decide +kernel⟩, List.mem_of_getElem? (i := 598) (by decide +kernel), List.mem_of_getElem? (i := 678) (by decide +kernel), List.mem_of_getElem? (i := 679) (by decide +kernel)⟩
theorem lw_p6 : lw_okq (⟨"BatteryCachesModel", "flushes", "(I)V"⟩, 14) := ⟨⟨by decide +kernel, by decide +kernel⟩, List.mem_of_getElem? (i := 598) (by decide +kernel), List.mem_of_getElem? (i := 682) (by decide +kernel), List.mem_of_getElem? (i := 683) (by decide +kernel)⟩
theorem lw_p7 : lw_okq (⟨"BatteryCachesModel", "lays", "(II)V"⟩, 14) := ⟨⟨by decide +kernel, by decide +kernel⟩, List.mem_of_getElem? (i := 598) (by decide +kernel), List.mem_of_getElem? (i := 686) (by decide +kernel), List.mem_of_getElem? (i := 687) (by decide +kernel)⟩
theorem lw_p8 : lw_okq (⟨"BatteryCachesModel", "turns", "(I)V"⟩, 14) := ⟨⟨by decide +kernel, by decide +kernel⟩, List.mem_of_getElem? (i := 598) (by decide +kernel), List.mem_of_getElem? (i := 690) (by decide +kernel), List.mem_of_getElem? (i := 691) (by decide +kernel)⟩
theorem lw_p9 : lw_okq (⟨"BatteryCachesModel", "changed", "(I)I"⟩, 14) := ⟨⟨by decide +kernel, by decide +kernel⟩, List.mem_of_getElem? (i := 598) (by decide +kernel), List.mem_of_getElem? (i := 695) (by decide +kernel), List.mem_of_getElem? (i := 696) (by decide +kernel)⟩
theorem lw_p10 : lw_okq (⟨"BatteryCachesModel", "doWrite", "(II)I"⟩, 14) := ⟨⟨by decide +kernel, by decide +kernel⟩, List.mem_of_getElem? (i := 598) (by decide +kernel), List.mem_of_getElem? (i := 704) (by decide +kernel), List.mem_of_getElem? (i := 705) (by decide +kernel)⟩
theorem lw_p11 : lw_okq (⟨"BatteryCachesModel", "many", "(I)I"⟩, 14) := ⟨⟨by decide +kernel, by decide +kernel⟩, List.mem_of_getElem? (i := 598) (by decide +kernel), List.mem_of_getElem? (i := 709) (by decide +kernel), List.mem_of_getElem? (i := 710) (by decide +kernel)⟩
theorem lw_p12 : lw_okq (⟨"BatteryCachesModel", "allowance", "()I"⟩, 14) := ⟨⟨by decide +kernel, by decide +kernel⟩, List.mem_of_getElem? (i := 598) (by decide +kernel), List.mem_of_getElem? (i := 713) (by decide +kernel), List.mem_of_getElem? (i := 714) (by decide +kernel)⟩
theorem lw_p13 : lw_okq (⟨"BatteryCachesModel", "setting", "(I)I"⟩, 14) := ⟨⟨by decide +kernel, by decide +kernel⟩, List.mem_of_getElem? (i := 598) (by decide +kernel), List.mem_of_getElem? (i := 717) (by decide +kernel), List.mem_of_getElem? (i := 718) (by decide +kernel)⟩
theorem lw_p14 : lw_okq (⟨"BatteryCachesModel", "doFlush", "(I)I"⟩, 14) := ⟨⟨by decide +kernel, by decide +kernel⟩, List.mem_of_getElem? (i := 598) (by decide +kernel), List.mem_of_getElem? (i := 725) (by decide +kernel), List.mem_of_getElem? (i := 726) (by decide +kernel)⟩
theorem lw_p15 : lw_okq (⟨"BatteryCachesModel", "doTick", "(I)I"⟩, 14) := ⟨⟨by decide +kernel, by decide +kernel⟩, List.mem_of_getElem? (i := 598) (by decide +kernel), List.mem_of_getElem? (i := 738) (by decide +kernel), List.mem_of_getElem? (i := 739) (by decide +kernel)⟩
def lw_privs_1 : List (MethodName × Nat) := [(⟨"BatteryCachesModel", "keep", "()V"⟩, 14), (⟨"BatteryCachesModel", "doRead", "(I)I"⟩, 14), (⟨"BatteryCachesModel", "touches", "(I)I"⟩, 14), (⟨"BatteryCachesModel", "holder", "(I)I"⟩, 14), (⟨"BatteryCachesModel", "counts", "(I)V"⟩, 14), (⟨"BatteryCachesModel", "oldest", "(I)I"⟩, 14), (⟨"BatteryCachesModel", "flushes", "(I)V"⟩, 14), (⟨"BatteryCachesModel", "lays", "(II)V"⟩, 14), (⟨"BatteryCachesModel", "turns", "(I)V"⟩, 14), (⟨"BatteryCachesModel", "changed", "(I)I"⟩, 14), (⟨"BatteryCachesModel", "doWrite", "(II)I"⟩, 14), (⟨"BatteryCachesModel", "many", "(I)I"⟩, 14), (⟨"BatteryCachesModel", "allowance", "()I"⟩, 14), (⟨"BatteryCachesModel", "setting", "(I)I"⟩, 14), (⟨"BatteryCachesModel", "doFlush", "(I)I"⟩, 14), (⟨"BatteryCachesModel", "doTick", "(I)I"⟩, 14)]
theorem lw_r1 : ∀ q ∈ lw_privs_1, lw_okq q := List.forall_mem_cons.mpr ⟨lw_p0, List.forall_mem_cons.mpr ⟨lw_p1, List.forall_mem_cons.mpr ⟨lw_p2, List.forall_mem_cons.mpr ⟨lw_p3, List.forall_mem_cons.mpr ⟨lw_p4, List.forall_mem_cons.mpr ⟨lw_p5, List.forall_mem_cons.mpr ⟨lw_p6, List.forall_mem_cons.mpr ⟨lw_p7, List.forall_mem_cons.mpr ⟨lw_p8, List.forall_mem_cons.mpr ⟨lw_p9, List.forall_mem_cons.mpr ⟨lw_p10, List.forall_mem_cons.mpr ⟨lw_p11, List.forall_mem_cons.mpr ⟨lw_p12, List.forall_mem_cons.mpr ⟨lw_p13, List.forall_mem_cons.mpr ⟨lw_p14, List.forall_mem_cons.mpr ⟨lw_p15, fun _ h => absurd h List.not_mem_nil⟩⟩⟩⟩⟩⟩⟩⟩⟩⟩⟩⟩⟩⟩⟩⟩
theorem lw_p16 : lw_okq (⟨"BatteryCachesModel", "ticksOn", "()I"⟩, 14) := ⟨⟨by decide +kernel, by decide +kernel⟩, List.mem_of_getElem? (i := 598) (by decide +kernel), List.mem_of_getElem? (i := 743) (by decide +kernel), List.mem_of_getElem? (i := 744) (by decide +kernel)⟩
theorem lw_p17 : lw_okq (⟨"BatteryCachesModel", "learnsOn", "()V"⟩, 14) := ⟨⟨by decide +kernel, by decide +kernel⟩, List.mem_of_getElem? (i := 598) (by decide +kernel), List.mem_of_getElem? (i := 747) (by decide +kernel), List.mem_of_getElem? (i := 748) (by decide +kernel)⟩
theorem lw_p18 : lw_okq (⟨"BatteryCachesModel", "drains", "(I)V"⟩, 14) := ⟨⟨by decide +kernel, by decide +kernel⟩, List.mem_of_getElem? (i := 598) (by decide +kernel), List.mem_of_getElem? (i := 751) (by decide +kernel), List.mem_of_getElem? (i := 752) (by decide +kernel)⟩
theorem lw_p19 : lw_okq (⟨"BatteryCachesModel", "charges", "()V"⟩, 14) := ⟨⟨by decide +kernel, by decide +kernel⟩, List.mem_of_getElem? (i := 598) (by decide +kernel), List.mem_of_getElem? (i := 755) (by decide +kernel), List.mem_of_getElem? (i := 756) (by decide +kernel)⟩
theorem lw_p20 : lw_okq (⟨"BatteryCachesModel", "capacity", "()I"⟩, 14) := ⟨⟨by decide +kernel, by decide +kernel⟩, List.mem_of_getElem? (i := 598) (by decide +kernel), List.mem_of_getElem? (i := 759) (by decide +kernel), List.mem_of_getElem? (i := 760) (by decide +kernel)⟩
theorem lw_p21 : lw_okq (⟨"BatteryCachesModel", "flushesToo", "()I"⟩, 14) := ⟨⟨by decide +kernel, by decide +kernel⟩, List.mem_of_getElem? (i := 598) (by decide +kernel), List.mem_of_getElem? (i := 763) (by decide +kernel), List.mem_of_getElem? (i := 764) (by decide +kernel)⟩
theorem lw_p22 : lw_okq (⟨"BatteryCachesModel", "doLoad", "(I)I"⟩, 14) := ⟨⟨by decide +kernel, by decide +kernel⟩, List.mem_of_getElem? (i := 598) (by decide +kernel), List.mem_of_getElem? (i := 771) (by decide +kernel), List.mem_of_getElem? (i := 772) (by decide +kernel)⟩
theorem lw_p23 : lw_okq (⟨"BatteryCachesModel", "doLearn", "()I"⟩, 14) := ⟨⟨by decide +kernel, by decide +kernel⟩, List.mem_of_getElem? (i := 598) (by decide +kernel), List.mem_of_getElem? (i := 779) (by decide +kernel), List.mem_of_getElem? (i := 780) (by decide +kernel)⟩
theorem lw_p24 : lw_okq (⟨"BatteryCachesModel", "doCut", "()I"⟩, 14) := ⟨⟨by decide +kernel, by decide +kernel⟩, List.mem_of_getElem? (i := 598) (by decide +kernel), List.mem_of_getElem? (i := 787) (by decide +kernel), List.mem_of_getElem? (i := 788) (by decide +kernel)⟩
theorem lw_p25 : lw_okq (⟨"BatteryCachesModel", "doSet", "(II)I"⟩, 14) := ⟨⟨by decide +kernel, by decide +kernel⟩, List.mem_of_getElem? (i := 598) (by decide +kernel), List.mem_of_getElem? (i := 795) (by decide +kernel), List.mem_of_getElem? (i := 796) (by decide +kernel)⟩
theorem lw_p26 : lw_okq (⟨"BatteryCachesModel", "lowerTurns", "(I)I"⟩, 14) := ⟨⟨by decide +kernel, by decide +kernel⟩, List.mem_of_getElem? (i := 598) (by decide +kernel), List.mem_of_getElem? (i := 807) (by decide +kernel), List.mem_of_getElem? (i := 808) (by decide +kernel)⟩
theorem lw_p27 : lw_okq (⟨"BatteryCachesModel", "saved", "()I"⟩, 14) := ⟨⟨by decide +kernel, by decide +kernel⟩, List.mem_of_getElem? (i := 598) (by decide +kernel), List.mem_of_getElem? (i := 820) (by decide +kernel), List.mem_of_getElem? (i := 821) (by decide +kernel)⟩
theorem lw_p28 : lw_okq (⟨"BatteryCachesModel", "losable", "()I"⟩, 14) := ⟨⟨by decide +kernel, by decide +kernel⟩, List.mem_of_getElem? (i := 598) (by decide +kernel), List.mem_of_getElem? (i := 828) (by decide +kernel), List.mem_of_getElem? (i := 829) (by decide +kernel)⟩
theorem lw_p29 : lw_okq (⟨"BatteryCachesModel", "dirtyBefore", "(I)I"⟩, 14) := ⟨⟨by decide +kernel, by decide +kernel⟩, List.mem_of_getElem? (i := 598) (by decide +kernel), List.mem_of_getElem? (i := 832) (by decide +kernel), List.mem_of_getElem? (i := 833) (by decide +kernel)⟩
theorem lw_p30 : lw_okq (⟨"BatteryCachesModel", "setOf", "(I)I"⟩, 14) := ⟨⟨by decide +kernel, by decide +kernel⟩, List.mem_of_getElem? (i := 598) (by decide +kernel), List.mem_of_getElem? (i := 836) (by decide +kernel), List.mem_of_getElem? (i := 837) (by decide +kernel)⟩
theorem lw_p31 : lw_okq (⟨"BatteryCachesModel", "giveBack", "()V"⟩, 14) := ⟨⟨by decide +kernel, by decide +kernel⟩, List.mem_of_getElem? (i := 598) (by decide +kernel), List.mem_of_getElem? (i := 844) (by decide +kernel), List.mem_of_getElem? (i := 845) (by decide +kernel)⟩
def lw_privs_2 : List (MethodName × Nat) := [(⟨"BatteryCachesModel", "ticksOn", "()I"⟩, 14), (⟨"BatteryCachesModel", "learnsOn", "()V"⟩, 14), (⟨"BatteryCachesModel", "drains", "(I)V"⟩, 14), (⟨"BatteryCachesModel", "charges", "()V"⟩, 14), (⟨"BatteryCachesModel", "capacity", "()I"⟩, 14), (⟨"BatteryCachesModel", "flushesToo", "()I"⟩, 14), (⟨"BatteryCachesModel", "doLoad", "(I)I"⟩, 14), (⟨"BatteryCachesModel", "doLearn", "()I"⟩, 14), (⟨"BatteryCachesModel", "doCut", "()I"⟩, 14), (⟨"BatteryCachesModel", "doSet", "(II)I"⟩, 14), (⟨"BatteryCachesModel", "lowerTurns", "(I)I"⟩, 14), (⟨"BatteryCachesModel", "saved", "()I"⟩, 14), (⟨"BatteryCachesModel", "losable", "()I"⟩, 14), (⟨"BatteryCachesModel", "dirtyBefore", "(I)I"⟩, 14), (⟨"BatteryCachesModel", "setOf", "(I)I"⟩, 14), (⟨"BatteryCachesModel", "giveBack", "()V"⟩, 14)]
theorem lw_r2 : ∀ q ∈ lw_privs_2, lw_okq q := List.forall_mem_cons.mpr ⟨lw_p16, List.forall_mem_cons.mpr ⟨lw_p17, List.forall_mem_cons.mpr ⟨lw_p18, List.forall_mem_cons.mpr ⟨lw_p19, List.forall_mem_cons.mpr ⟨lw_p20, List.forall_mem_cons.mpr ⟨lw_p21, List.forall_mem_cons.mpr ⟨lw_p22, List.forall_mem_cons.mpr ⟨lw_p23, List.forall_mem_cons.mpr ⟨lw_p24, List.forall_mem_cons.mpr ⟨lw_p25, List.forall_mem_cons.mpr ⟨lw_p26, List.forall_mem_cons.mpr ⟨lw_p27, List.forall_mem_cons.mpr ⟨lw_p28, List.forall_mem_cons.mpr ⟨lw_p29, List.forall_mem_cons.mpr ⟨lw_p30, List.forall_mem_cons.mpr ⟨lw_p31, fun _ h => absurd h List.not_mem_nil⟩⟩⟩⟩⟩⟩⟩⟩⟩⟩⟩⟩⟩⟩⟩⟩
theorem lw_p32 : lw_okq (⟨"BatteryCachesModel", "nearest", "(I)I"⟩, 14) := ⟨⟨by decide +kernel, by decide +kernel⟩, List.mem_of_getElem? (i := 598) (by decide +kernel), List.mem_of_getElem? (i := 862) (by decide +kernel), List.mem_of_getElem? (i := 863) (by decide +kernel)⟩
theorem lw_p33 : lw_okq (⟨"BatteryCachesModel", "apart", "(II)I"⟩, 14) := ⟨⟨by decide +kernel, by decide +kernel⟩, List.mem_of_getElem? (i := 598) (by decide +kernel), List.mem_of_getElem? (i := 866) (by decide +kernel), List.mem_of_getElem? (i := 867) (by decide +kernel)⟩
theorem lw_p34 : lw_okq (⟨"BatteryCachesModel", "doesAll", "()Z"⟩, 14) := ⟨⟨by decide +kernel, by decide +kernel⟩, List.mem_of_getElem? (i := 598) (by decide +kernel), List.mem_of_getElem? (i := 896) (by decide +kernel), List.mem_of_getElem? (i := 897) (by decide +kernel)⟩
theorem lw_p35 : lw_okq (⟨"BatteryCachesModel", "readsOrder", "()Z"⟩, 14) := ⟨⟨by decide +kernel, by decide +kernel⟩, List.mem_of_getElem? (i := 598) (by decide +kernel), List.mem_of_getElem? (i := 900) (by decide +kernel), List.mem_of_getElem? (i := 901) (by decide +kernel)⟩
theorem lw_p36 : lw_okq (⟨"BatteryCachesModel", "takesNumber", "()Z"⟩, 14) := ⟨⟨by decide +kernel, by decide +kernel⟩, List.mem_of_getElem? (i := 598) (by decide +kernel), List.mem_of_getElem? (i := 907) (by decide +kernel), List.mem_of_getElem? (i := 908) (by decide +kernel)⟩
theorem lw_p37 : lw_okq (⟨"BatteryCachesModel", "isHere", "(II)Z"⟩, 14) := ⟨⟨by decide +kernel, by decide +kernel⟩, List.mem_of_getElem? (i := 598) (by decide +kernel), List.mem_of_getElem? (i := 911) (by decide +kernel), List.mem_of_getElem? (i := 912) (by decide +kernel)⟩
theorem lw_p38 : lw_okq (⟨"BatteryCachesModel", "takes", "(I)Z"⟩, 14) := ⟨⟨by decide +kernel, by decide +kernel⟩, List.mem_of_getElem? (i := 598) (by decide +kernel), List.mem_of_getElem? (i := 915) (by decide +kernel), List.mem_of_getElem? (i := 916) (by decide +kernel)⟩
theorem lw_p39 : lw_okq (⟨"BatteryCachesModel", "notes", "(II)Z"⟩, 14) := ⟨⟨by decide +kernel, by decide +kernel⟩, List.mem_of_getElem? (i := 598) (by decide +kernel), List.mem_of_getElem? (i := 919) (by decide +kernel), List.mem_of_getElem? (i := 920) (by decide +kernel)⟩
theorem lw_p40 : lw_okq (⟨"BatteryCachesModel", "isInRange", "()Z"⟩, 14) := ⟨⟨by decide +kernel, by decide +kernel⟩, List.mem_of_getElem? (i := 598) (by decide +kernel), List.mem_of_getElem? (i := 923) (by decide +kernel), List.mem_of_getElem? (i := 924) (by decide +kernel)⟩
theorem lw_p41 : lw_okq (⟨"BatteryCachesModel", "doOrder", "()I"⟩, 14) := ⟨⟨by decide +kernel, by decide +kernel⟩, List.mem_of_getElem? (i := 598) (by decide +kernel), List.mem_of_getElem? (i := 927) (by decide +kernel), List.mem_of_getElem? (i := 928) (by decide +kernel)⟩
def lw_privs_3 : List (MethodName × Nat) := [(⟨"BatteryCachesModel", "nearest", "(I)I"⟩, 14), (⟨"BatteryCachesModel", "apart", "(II)I"⟩, 14), (⟨"BatteryCachesModel", "doesAll", "()Z"⟩, 14), (⟨"BatteryCachesModel", "readsOrder", "()Z"⟩, 14), (⟨"BatteryCachesModel", "takesNumber", "()Z"⟩, 14), (⟨"BatteryCachesModel", "isHere", "(II)Z"⟩, 14), (⟨"BatteryCachesModel", "takes", "(I)Z"⟩, 14), (⟨"BatteryCachesModel", "notes", "(II)Z"⟩, 14), (⟨"BatteryCachesModel", "isInRange", "()Z"⟩, 14), (⟨"BatteryCachesModel", "doOrder", "()I"⟩, 14)]
theorem lw_r3 : ∀ q ∈ lw_privs_3, lw_okq q := List.forall_mem_cons.mpr ⟨lw_p32, List.forall_mem_cons.mpr ⟨lw_p33, List.forall_mem_cons.mpr ⟨lw_p34, List.forall_mem_cons.mpr ⟨lw_p35, List.forall_mem_cons.mpr ⟨lw_p36, List.forall_mem_cons.mpr ⟨lw_p37, List.forall_mem_cons.mpr ⟨lw_p38, List.forall_mem_cons.mpr ⟨lw_p39, List.forall_mem_cons.mpr ⟨lw_p40, List.forall_mem_cons.mpr ⟨lw_p41, fun _ h => absurd h List.not_mem_nil⟩⟩⟩⟩⟩⟩⟩⟩⟩⟩
def lw_privs : List (MethodName × Nat) := lw_privs_1 ++ (lw_privs_2 ++ (lw_privs_3))
def lw_tbl : List Cond := k2_sels lw_privs ++ tables_1
theorem lw_privs_ok : ∀ q ∈ lw_privs, lw_okq q := by
  show ∀ q ∈ lw_privs_1 ++ (lw_privs_2 ++ (lw_privs_3)), lw_okq q
  exact List.forall_mem_append.mpr ⟨lw_r1, List.forall_mem_append.mpr ⟨lw_r2, lw_r3⟩⟩
-- ===== end of PART A; then your names; then what follows =====
/-! ===== BEGIN words of one list among another's, by their places ===== -/
theorem goodIn_r {big : List Cond} (ws : List Cond) (ps : List Nat) (hp : ws = ps.filterMap (fun i => big[i]?)) (h : ws.all goodWord = true) : GoodIn big ws := by
  intro w hw
  have h1 := List.all_eq_true.mp h w hw
  rw [hp] at hw
  obtain ⟨i, -, hi⟩ := List.mem_filterMap.mp hw
  have hm : w ∈ big := by first | exact List.mem_of_getElem? hi | exact List.getElem?_mem hi
  exact ⟨hm, good_of_word h1⟩
theorem goodIn_app {big a b : List Cond} (ha : GoodIn big a) (hb : GoodIn big b) : GoodIn big (a ++ b) := fun w h => (List.mem_append.mp h).elim (ha w) (hb w)
theorem goodIn_ca {big a b : List Cond} {c : Cond} (ha : GoodIn big (c :: a)) (hb : GoodIn big b) : GoodIn big (c :: (a ++ b)) := fun w h => (List.mem_cons.mp h).elim (fun e => ha w (List.mem_cons.mpr (Or.inl e))) (fun h => (List.mem_append.mp h).elim (fun h => ha w (List.mem_cons.mpr (Or.inr h))) (hb w))
theorem goodIn_sub {big ws : List Cond} (hm : ∀ w ∈ ws, w ∈ big) (h : ws.all goodWord = true) : GoodIn big ws := fun w hw => ⟨hm w hw, good_of_word (List.all_eq_true.mp h w hw)⟩
/-! ===== END ===== -/

/-! ===== BEGIN printed: names, fields, word lists, decode rows ===== -/
def RX0 : String := "BatteryCaches$Battery"
def TX0 : u_T := fun k => match k with
  | 0 => ("BatteryCaches$Battery", "charge", "I", false)
  | 1 => ("BatteryCaches$Battery", "wear", "I", false)
  | 2 => ("BatteryCaches$Battery", "cycle", "I", false)
  | 3 => ("BatteryCaches$Battery", "lineCost", "I", false)
  | 4 => ("BatteryCaches$Battery", "cutCost", "I", false)
  | 5 => ("BatteryCaches$Battery", "rise", "I", false)
  | _ => ("BatteryCaches$Battery", "fall", "I", false)
def tyX0 : Nat → FieldType := fun k => match k with
  | 0 => .int
  | 1 => .int
  | 2 => .int
  | 3 => .int
  | 4 => .int
  | 5 => .int
  | _ => .int
abbrev wsX00 : List Cond := u_ws RX0 TX0 7
theorem nmX0 : ∀ a, a < 7 → ∀ b, b < 7 → a ≠ b → (TX0 a).2.1 ≠ (TX0 b).2.1 := by decide +kernel
theorem tyX0_ok : ∀ k, k < 7 → parseFieldDescriptor (TX0 k).2.2.1 = some (tyX0 k) := by decide +kernel
abbrev cX0_init : ByteArray := prog_2_method_1_code
def yX0_init : MethodName := ⟨RX0, "<init>", "()V"⟩
abbrev cX0_copyFrom : ByteArray := prog_2_method_2_code
def yX0_copyFrom : MethodName := ⟨RX0, "copyFrom", "(LBatteryCaches$Battery;)V"⟩
abbrev cX0_setting : ByteArray := prog_2_method_3_code
def yX0_setting : MethodName := ⟨RX0, "setting", "(I)I"⟩
abbrev cX0_changeSetting : ByteArray := prog_2_method_4_code
def yX0_changeSetting : MethodName := ⟨RX0, "changeSetting", "(II)V"⟩
abbrev cX0_capacity : ByteArray := prog_2_method_5_code
def yX0_capacity : MethodName := ⟨RX0, "capacity", "()I"⟩
abbrev cX0_allowance : ByteArray := prog_2_method_6_code
def yX0_allowance : MethodName := ⟨RX0, "allowance", "()I"⟩
abbrev cX0_savable : ByteArray := prog_2_method_7_code
def yX0_savable : MethodName := ⟨RX0, "savable", "()I"⟩
abbrev cX0_costToSave : ByteArray := prog_2_method_8_code
def yX0_costToSave : MethodName := ⟨RX0, "costToSave", "(I)I"⟩
abbrev cX0_useUp : ByteArray := prog_2_method_9_code
def yX0_useUp : MethodName := ⟨RX0, "useUp", "(I)V"⟩
abbrev cX0_saveAtCut : ByteArray := prog_2_method_10_code
def yX0_saveAtCut : MethodName := ⟨RX0, "saveAtCut", "(I)V"⟩
abbrev cX0_passTick : ByteArray := prog_2_method_11_code
def yX0_passTick : MethodName := ⟨RX0, "passTick", "()Z"⟩
abbrev cX0_fallInCycle : ByteArray := prog_2_method_12_code
def yX0_fallInCycle : MethodName := ⟨RX0, "fallInCycle", "()V"⟩
def RX1 : String := "BatteryCaches$History"
def TX1 : u_T := fun k => match k with
  | 0 => ("BatteryCaches$History", "states", "[LBatteryCaches$State;", true)
  | _ => ("BatteryCaches$History", "size", "I", false)
def tyX1 : Nat → FieldType := fun k => match k with
  | 0 => .array (.object "BatteryCaches$State")
  | _ => .int
abbrev wsX10 : List Cond := u_ws RX1 TX1 2
theorem nmX1 : ∀ a, a < 2 → ∀ b, b < 2 → a ≠ b → (TX1 a).2.1 ≠ (TX1 b).2.1 := by decide +kernel
theorem tyX1_ok : ∀ k, k < 2 → parseFieldDescriptor (TX1 k).2.2.1 = some (tyX1 k) := by decide +kernel
abbrev cX1_init : ByteArray := prog_3_method_1_code
def yX1_init : MethodName := ⟨RX1, "<init>", "()V"⟩
abbrev cX1_keep : ByteArray := prog_3_method_2_code
def yX1_keep : MethodName := ⟨RX1, "keep", "(LBatteryCaches$State;)V"⟩
abbrev cX1_restore : ByteArray := prog_3_method_3_code
def yX1_restore : MethodName := ⟨RX1, "restore", "(LBatteryCaches$State;)V"⟩
abbrev cX1_dropOldest : ByteArray := prog_3_method_4_code
def yX1_dropOldest : MethodName := ⟨RX1, "dropOldest", "()V"⟩
def RX2 : String := "BatteryCaches$Order"
def TX2 : u_T := fun k => match k with
  | 0 => ("BatteryCaches$Order", "start", "I", false)
  | 1 => ("BatteryCaches$Order", "next", "I", false)
  | 2 => ("BatteryCaches$Order", "letter", "I", false)
  | 3 => ("BatteryCaches$Order", "number", "I", false)
  | 4 => ("BatteryCaches$Order", "newValue", "I", false)
  | 5 => ("BatteryCaches$Order", "reason", "I", false)
  | _ => ("BatteryCaches$Order", "cause", "I", false)
def tyX2 : Nat → FieldType := fun k => match k with
  | 0 => .int
  | 1 => .int
  | 2 => .int
  | 3 => .int
  | 4 => .int
  | 5 => .int
  | _ => .int
abbrev wsX20 : List Cond := u_ws RX2 TX2 7
theorem nmX2 : ∀ a, a < 7 → ∀ b, b < 7 → a ≠ b → (TX2 a).2.1 ≠ (TX2 b).2.1 := by decide +kernel
theorem tyX2_ok : ∀ k, k < 7 → parseFieldDescriptor (TX2 k).2.2.1 = some (tyX2 k) := by decide +kernel
abbrev cX2_init : ByteArray := prog_4_method_1_code
def yX2_init : MethodName := ⟨RX2, "<init>", "()V"⟩
abbrev cX2_beginText : ByteArray := prog_4_method_2_code
def yX2_beginText : MethodName := ⟨RX2, "beginText", "()V"⟩
abbrev cX2_readNext : ByteArray := prog_4_method_3_code
def yX2_readNext : MethodName := ⟨RX2, "readNext", "(LBatteryCaches$Text;)V"⟩
abbrev cX2_hasForm : ByteArray := prog_4_method_4_code
def yX2_hasForm : MethodName := ⟨RX2, "hasForm", "(LBatteryCaches$Text;)Z"⟩
abbrev cX2_hasFormOfWrite : ByteArray := prog_4_method_5_code
def yX2_hasFormOfWrite : MethodName := ⟨RX2, "hasFormOfWrite", "(LBatteryCaches$Text;)Z"⟩
abbrev cX2_readNumber : ByteArray := prog_4_method_6_code
def yX2_readNumber : MethodName := ⟨RX2, "readNumber", "(LBatteryCaches$Text;)I"⟩
abbrev cX2_readSign : ByteArray := prog_4_method_7_code
def yX2_readSign : MethodName := ⟨RX2, "readSign", "(LBatteryCaches$Text;I)Z"⟩
abbrev cX2_isInRange : ByteArray := prog_4_method_8_code
def yX2_isInRange : MethodName := ⟨RX2, "isInRange", "()Z"⟩
def RX3 : String := "BatteryCaches$Rehearsal"
def TX3 : u_T := fun k => match k with
  | 0 => ("BatteryCaches$Rehearsal", "trial", "LBatteryCaches$State;", true)
  | 1 => ("BatteryCaches$Rehearsal", "order", "LBatteryCaches$Order;", true)
  | _ => ("BatteryCaches$Rehearsal", "done", "I", false)
def tyX3 : Nat → FieldType := fun k => match k with
  | 0 => .object "BatteryCaches$State"
  | 1 => .object "BatteryCaches$Order"
  | _ => .int
abbrev wsX30 : List Cond := u_ws RX3 TX3 3
theorem nmX3 : ∀ a, a < 3 → ∀ b, b < 3 → a ≠ b → (TX3 a).2.1 ≠ (TX3 b).2.1 := by decide +kernel
theorem tyX3_ok : ∀ k, k < 3 → parseFieldDescriptor (TX3 k).2.2.1 = some (tyX3 k) := by decide +kernel
abbrev cX3_init : ByteArray := prog_5_method_1_code
def yX3_init : MethodName := ⟨RX3, "<init>", "()V"⟩
abbrev cX3_run : ByteArray := prog_5_method_2_code
def yX3_run : MethodName := ⟨RX3, "run", "(LBatteryCaches$Text;LBatteryCaches$State;)V"⟩
abbrev cX3_isPossible : ByteArray := prog_5_method_3_code
def yX3_isPossible : MethodName := ⟨RX3, "isPossible", "()Z"⟩
abbrev cX3_perform : ByteArray := prog_5_method_4_code
def yX3_perform : MethodName := ⟨RX3, "perform", "()V"⟩
def RX4 : String := "BatteryCaches$State"
def TX4 : u_T := fun k => match k with
  | 0 => ("BatteryCaches$State", "battery", "LBatteryCaches$Battery;", true)
  | 1 => ("BatteryCaches$State", "disk", "[I", true)
  | 2 => ("BatteryCaches$State", "laid", "[I", true)
  | 3 => ("BatteryCaches$State", "kind", "[I", true)
  | 4 => ("BatteryCaches$State", "place", "[I", true)
  | 5 => ("BatteryCaches$State", "value", "[I", true)
  | 6 => ("BatteryCaches$State", "turn", "[I", true)
  | 7 => ("BatteryCaches$State", "lastTurn", "I", false)
  | 8 => ("BatteryCaches$State", "ticks", "I", false)
  | 9 => ("BatteryCaches$State", "hits", "I", false)
  | 10 => ("BatteryCaches$State", "misses", "I", false)
  | 11 => ("BatteryCaches$State", "flushed", "I", false)
  | 12 => ("BatteryCaches$State", "wentThrough", "I", false)
  | 13 => ("BatteryCaches$State", "lost", "I", false)
  | 14 => ("BatteryCaches$State", "cuts", "I", false)
  | 15 => ("BatteryCaches$State", "cyclesEnded", "I", false)
  | _ => ("BatteryCaches$State", "laidInAll", "I", false)
def tyX4 : Nat → FieldType := fun k => match k with
  | 0 => .object "BatteryCaches$Battery"
  | 1 => .array .int
  | 2 => .array .int
  | 3 => .array .int
  | 4 => .array .int
  | 5 => .array .int
  | 6 => .array .int
  | 7 => .int
  | 8 => .int
  | 9 => .int
  | 10 => .int
  | 11 => .int
  | 12 => .int
  | 13 => .int
  | 14 => .int
  | 15 => .int
  | _ => .int
abbrev wsX40 : List Cond := u_ws RX4 TX4 17
theorem nmX4 : ∀ a, a < 17 → ∀ b, b < 17 → a ≠ b → (TX4 a).2.1 ≠ (TX4 b).2.1 := by decide +kernel
theorem tyX4_ok : ∀ k, k < 17 → parseFieldDescriptor (TX4 k).2.2.1 = some (tyX4 k) := by decide +kernel
abbrev cX4_init : ByteArray := prog_6_method_1_code
def yX4_init : MethodName := ⟨RX4, "<init>", "()V"⟩
abbrev cX4_copy : ByteArray := prog_6_method_2_code
def yX4_copy : MethodName := ⟨RX4, "copy", "(LBatteryCaches$State;LBatteryCaches$State;)V"⟩
abbrev cX4_readPlace : ByteArray := prog_6_method_3_code
def yX4_readPlace : MethodName := ⟨RX4, "readPlace", "(I)I"⟩
abbrev cX4_writePlace : ByteArray := prog_6_method_4_code
def yX4_writePlace : MethodName := ⟨RX4, "writePlace", "(II)I"⟩
abbrev cX4_lineFor : ByteArray := prog_6_method_5_code
def yX4_lineFor : MethodName := ⟨RX4, "lineFor", "(I)I"⟩
abbrev cX4_lineToTake : ByteArray := prog_6_method_6_code
def yX4_lineToTake : MethodName := ⟨RX4, "lineToTake", "()I"⟩
abbrev cX4_layIntoLine : ByteArray := prog_6_method_7_code
def yX4_layIntoLine : MethodName := ⟨RX4, "layIntoLine", "(II)V"⟩
abbrev cX4_flushLine : ByteArray := prog_6_method_8_code
def yX4_flushLine : MethodName := ⟨RX4, "flushLine", "(I)V"⟩
abbrev cX4_layOnDisk : ByteArray := prog_6_method_9_code
def yX4_layOnDisk : MethodName := ⟨RX4, "layOnDisk", "(II)V"⟩
abbrev cX4_passTicks : ByteArray := prog_6_method_10_code
def yX4_passTicks : MethodName := ⟨RX4, "passTicks", "(I)I"⟩
abbrev cX4_putLoad : ByteArray := prog_6_method_11_code
def yX4_putLoad : MethodName := ⟨RX4, "putLoad", "(I)I"⟩
abbrev cX4_beginCycle : ByteArray := prog_6_method_12_code
def yX4_beginCycle : MethodName := ⟨RX4, "beginCycle", "()I"⟩
abbrev cX4_cutPower : ByteArray := prog_6_method_13_code
def yX4_cutPower : MethodName := ⟨RX4, "cutPower", "()I"⟩
abbrev cX4_tooMany : ByteArray := prog_6_method_14_code
def yX4_tooMany : MethodName := ⟨RX4, "tooMany", "()I"⟩
abbrev cX4_flushLowest : ByteArray := prog_6_method_15_code
def yX4_flushLowest : MethodName := ⟨RX4, "flushLowest", "(I)I"⟩
abbrev cX4_savedByCut : ByteArray := prog_6_method_16_code
def yX4_savedByCut : MethodName := ⟨RX4, "savedByCut", "()I"⟩
abbrev cX4_lostByCut : ByteArray := prog_6_method_17_code
def yX4_lostByCut : MethodName := ⟨RX4, "lostByCut", "()I"⟩
abbrev cX4_holderOf : ByteArray := prog_6_method_18_code
def yX4_holderOf : MethodName := ⟨RX4, "holderOf", "(I)I"⟩
abbrev cX4_lowestEmpty : ByteArray := prog_6_method_19_code
def yX4_lowestEmpty : MethodName := ⟨RX4, "lowestEmpty", "()I"⟩
abbrev cX4_lowestTurn : ByteArray := prog_6_method_20_code
def yX4_lowestTurn : MethodName := ⟨RX4, "lowestTurn", "(I)I"⟩
abbrev cX4_linesAhead : ByteArray := prog_6_method_21_code
def yX4_linesAhead : MethodName := ⟨RX4, "linesAhead", "(II)I"⟩
abbrev cX4_numberOf : ByteArray := prog_6_method_22_code
def yX4_numberOf : MethodName := ⟨RX4, "numberOf", "(I)I"⟩
abbrev cX4_setOf : ByteArray := prog_6_method_23_code
def yX4_setOf : MethodName := ⟨RX4, "setOf", "(I)I"⟩
abbrev cX4_nearestPair : ByteArray := prog_6_method_24_code
def yX4_nearestPair : MethodName := ⟨RX4, "nearestPair", "()I"⟩
abbrev cX4_distanceToDirty : ByteArray := prog_6_method_25_code
def yX4_distanceToDirty : MethodName := ⟨RX4, "distanceToDirty", "(I)I"⟩
def RX5 : String := "BatteryCaches$Text"
def TX5 : u_T := fun k => match k with
  | 0 => ("BatteryCaches$Text", "characters", "[I", true)
  | _ => ("BatteryCaches$Text", "length", "I", false)
def tyX5 : Nat → FieldType := fun k => match k with
  | 0 => .array .int
  | _ => .int
abbrev wsX50 : List Cond := u_ws RX5 TX5 2
theorem nmX5 : ∀ a, a < 2 → ∀ b, b < 2 → a ≠ b → (TX5 a).2.1 ≠ (TX5 b).2.1 := by decide +kernel
theorem tyX5_ok : ∀ k, k < 2 → parseFieldDescriptor (TX5 k).2.2.1 = some (tyX5 k) := by decide +kernel
abbrev cX5_init : ByteArray := prog_7_method_1_code
def yX5_init : MethodName := ⟨RX5, "<init>", "()V"⟩
abbrev cX5_append : ByteArray := prog_7_method_2_code
def yX5_append : MethodName := ⟨RX5, "append", "(I)V"⟩
abbrev cX5_at : ByteArray := prog_7_method_3_code
def yX5_at : MethodName := ⟨RX5, "at", "(I)I"⟩
def RX6 : String := "BatteryCaches"
def TX6 : u_T := fun k => match k with
  | 0 => ("BatteryCaches", "now", "LBatteryCaches$State;", true)
  | 1 => ("BatteryCaches", "history", "LBatteryCaches$History;", true)
  | 2 => ("BatteryCaches", "text", "LBatteryCaches$Text;", true)
  | 3 => ("BatteryCaches", "rehearsal", "LBatteryCaches$Rehearsal;", true)
  | _ => ("BatteryCaches", "trialBattery", "LBatteryCaches$Battery;", true)
def tyX6 : Nat → FieldType := fun k => match k with
  | 0 => .object "BatteryCaches$State"
  | 1 => .object "BatteryCaches$History"
  | 2 => .object "BatteryCaches$Text"
  | 3 => .object "BatteryCaches$Rehearsal"
  | _ => .object "BatteryCaches$Battery"
abbrev wsX60 : List Cond := u_ws RX6 TX6 5
theorem nmX6 : ∀ a, a < 5 → ∀ b, b < 5 → a ≠ b → (TX6 a).2.1 ≠ (TX6 b).2.1 := by decide +kernel
theorem tyX6_ok : ∀ k, k < 5 → parseFieldDescriptor (TX6 k).2.2.1 = some (tyX6 k) := by decide +kernel
abbrev cX6_init : ByteArray := prog_1_method_1_code
def yX6_init : MethodName := ⟨RX6, "<init>", "()V"⟩
abbrev cX6_read : ByteArray := prog_1_method_2_code
def yX6_read : MethodName := ⟨RX6, "read", "(I)I"⟩
abbrev cX6_write : ByteArray := prog_1_method_3_code
def yX6_write : MethodName := ⟨RX6, "write", "(II)I"⟩
abbrev cX6_flush : ByteArray := prog_1_method_4_code
def yX6_flush : MethodName := ⟨RX6, "flush", "(I)I"⟩
abbrev cX6_tick : ByteArray := prog_1_method_5_code
def yX6_tick : MethodName := ⟨RX6, "tick", "(I)I"⟩
abbrev cX6_load : ByteArray := prog_1_method_6_code
def yX6_load : MethodName := ⟨RX6, "load", "(I)I"⟩
abbrev cX6_learn : ByteArray := prog_1_method_7_code
def yX6_learn : MethodName := ⟨RX6, "learn", "()I"⟩
abbrev cX6_cut : ByteArray := prog_1_method_8_code
def yX6_cut : MethodName := ⟨RX6, "cut", "()I"⟩
abbrev cX6_set : ByteArray := prog_1_method_9_code
def yX6_set : MethodName := ⟨RX6, "set", "(II)I"⟩
abbrev cX6_lineOf : ByteArray := prog_1_method_10_code
def yX6_lineOf : MethodName := ⟨RX6, "lineOf", "(II)I"⟩
abbrev cX6_placeOf : ByteArray := prog_1_method_11_code
def yX6_placeOf : MethodName := ⟨RX6, "placeOf", "(II)I"⟩
abbrev cX6_battery : ByteArray := prog_1_method_12_code
def yX6_battery : MethodName := ⟨RX6, "battery", "(I)I"⟩
abbrev cX6_lines : ByteArray := prog_1_method_13_code
def yX6_lines : MethodName := ⟨RX6, "lines", "(I)I"⟩
abbrev cX6_wouldFlush : ByteArray := prog_1_method_14_code
def yX6_wouldFlush : MethodName := ⟨RX6, "wouldFlush", "(I)I"⟩
abbrev cX6_critical : ByteArray := prog_1_method_15_code
def yX6_critical : MethodName := ⟨RX6, "critical", "()I"⟩
abbrev cX6_ticksUntil : ByteArray := prog_1_method_16_code
def yX6_ticksUntil : MethodName := ⟨RX6, "ticksUntil", "(I)I"⟩
abbrev cX6_pair : ByteArray := prog_1_method_17_code
def yX6_pair : MethodName := ⟨RX6, "pair", "(I)I"⟩
abbrev cX6_count : ByteArray := prog_1_method_18_code
def yX6_count : MethodName := ⟨RX6, "count", "(I)I"⟩
abbrev cX6_undo : ByteArray := prog_1_method_19_code
def yX6_undo : MethodName := ⟨RX6, "undo", "()I"⟩
abbrev cX6_type : ByteArray := prog_1_method_20_code
def yX6_type : MethodName := ⟨RX6, "type", "(I)I"⟩
abbrev cX6_clearText : ByteArray := prog_1_method_21_code
def yX6_clearText : MethodName := ⟨RX6, "clearText", "()I"⟩
abbrev cX6_fault : ByteArray := prog_1_method_22_code
def yX6_fault : MethodName := ⟨RX6, "fault", "(I)I"⟩
abbrev cX6_play : ByteArray := prog_1_method_23_code
def yX6_play : MethodName := ⟨RX6, "play", "()I"⟩
abbrev cX6_isWithin : ByteArray := prog_1_method_24_code
def yX6_isWithin : MethodName := ⟨RX6, "isWithin", "(III)Z"⟩
abbrev cX6_isPlace : ByteArray := prog_1_method_25_code
def yX6_isPlace : MethodName := ⟨RX6, "isPlace", "(I)Z"⟩
abbrev cX6_isLine : ByteArray := prog_1_method_26_code
def yX6_isLine : MethodName := ⟨RX6, "isLine", "(I)Z"⟩
abbrev cX6_isSetting : ByteArray := prog_1_method_27_code
def yX6_isSetting : MethodName := ⟨RX6, "isSetting", "(I)Z"⟩
abbrev cX6_copyRow : ByteArray := prog_1_method_28_code
def yX6_copyRow : MethodName := ⟨RX6, "copyRow", "([I[I)V"⟩
def RX7 : String := "BatteryCachesModel"
def TX7 : u_T := fun k => match k with
  | 0 => ("BatteryCachesModel", "all", "[I", true)
  | 1 => ("BatteryCachesModel", "kept", "[I", true)
  | 2 => ("BatteryCachesModel", "history", "[I", true)
  | 3 => ("BatteryCachesModel", "historyLong", "I", false)
  | 4 => ("BatteryCachesModel", "text", "[I", true)
  | 5 => ("BatteryCachesModel", "textLong", "I", false)
  | 6 => ("BatteryCachesModel", "from", "I", false)
  | 7 => ("BatteryCachesModel", "at", "I", false)
  | 8 => ("BatteryCachesModel", "first", "I", false)
  | 9 => ("BatteryCachesModel", "second", "I", false)
  | 10 => ("BatteryCachesModel", "number", "I", false)
  | 11 => ("BatteryCachesModel", "why", "I", false)
  | 12 => ("BatteryCachesModel", "cause", "I", false)
  | _ => ("BatteryCachesModel", "done", "I", false)
def tyX7 : Nat → FieldType := fun k => match k with
  | 0 => .array .int
  | 1 => .array .int
  | 2 => .array .int
  | 3 => .int
  | 4 => .array .int
  | 5 => .int
  | 6 => .int
  | 7 => .int
  | 8 => .int
  | 9 => .int
  | 10 => .int
  | 11 => .int
  | 12 => .int
  | _ => .int
abbrev wsX70 : List Cond := u_ws RX7 TX7 14
theorem nmX7 : ∀ a, a < 14 → ∀ b, b < 14 → a ≠ b → (TX7 a).2.1 ≠ (TX7 b).2.1 := by decide +kernel
theorem tyX7_ok : ∀ k, k < 14 → parseFieldDescriptor (TX7 k).2.2.1 = some (tyX7 k) := by decide +kernel
abbrev cX7_init : ByteArray := prog_9_method_1_code
def yX7_init : MethodName := ⟨RX7, "<init>", "()V"⟩
abbrev cX7_in : ByteArray := prog_9_method_3_code
def yX7_in : MethodName := ⟨RX7, "in", "(JJJ)Z"⟩
abbrev cX7_keep : ByteArray := prog_9_method_4_code
def yX7_keep : MethodName := ⟨RX7, "keep", "()V"⟩
abbrev cX7_giveBack : ByteArray := prog_9_method_5_code
def yX7_giveBack : MethodName := ⟨RX7, "giveBack", "()V"⟩
abbrev cX7_changed : ByteArray := prog_9_method_6_code
def yX7_changed : MethodName := ⟨RX7, "changed", "(I)I"⟩
abbrev cX7_counts : ByteArray := prog_9_method_7_code
def yX7_counts : MethodName := ⟨RX7, "counts", "(I)V"⟩
abbrev cX7_setting : ByteArray := prog_9_method_8_code
def yX7_setting : MethodName := ⟨RX7, "setting", "(I)I"⟩
abbrev cX7_isPlace : ByteArray := prog_9_method_9_code
def yX7_isPlace : MethodName := ⟨RX7, "isPlace", "(I)Z"⟩
abbrev cX7_isLine : ByteArray := prog_9_method_10_code
def yX7_isLine : MethodName := ⟨RX7, "isLine", "(I)Z"⟩
abbrev cX7_many : ByteArray := prog_9_method_11_code
def yX7_many : MethodName := ⟨RX7, "many", "(I)I"⟩
abbrev cX7_oldest : ByteArray := prog_9_method_12_code
def yX7_oldest : MethodName := ⟨RX7, "oldest", "(I)I"⟩
abbrev cX7_holder : ByteArray := prog_9_method_13_code
def yX7_holder : MethodName := ⟨RX7, "holder", "(I)I"⟩
abbrev cX7_lays : ByteArray := prog_9_method_14_code
def yX7_lays : MethodName := ⟨RX7, "lays", "(II)V"⟩
abbrev cX7_flushes : ByteArray := prog_9_method_15_code
def yX7_flushes : MethodName := ⟨RX7, "flushes", "(I)V"⟩
abbrev cX7_allowance : ByteArray := prog_9_method_16_code
def yX7_allowance : MethodName := ⟨RX7, "allowance", "()I"⟩
abbrev cX7_flushesToo : ByteArray := prog_9_method_17_code
def yX7_flushesToo : MethodName := ⟨RX7, "flushesToo", "()I"⟩
abbrev cX7_turns : ByteArray := prog_9_method_18_code
def yX7_turns : MethodName := ⟨RX7, "turns", "(I)V"⟩
abbrev cX7_touches : ByteArray := prog_9_method_19_code
def yX7_touches : MethodName := ⟨RX7, "touches", "(I)I"⟩
abbrev cX7_doRead : ByteArray := prog_9_method_20_code
def yX7_doRead : MethodName := ⟨RX7, "doRead", "(I)I"⟩
abbrev cX7_doWrite : ByteArray := prog_9_method_21_code
def yX7_doWrite : MethodName := ⟨RX7, "doWrite", "(II)I"⟩
abbrev cX7_capacity : ByteArray := prog_9_method_22_code
def yX7_capacity : MethodName := ⟨RX7, "capacity", "()I"⟩
abbrev cX7_charges : ByteArray := prog_9_method_23_code
def yX7_charges : MethodName := ⟨RX7, "charges", "()V"⟩
abbrev cX7_drains : ByteArray := prog_9_method_24_code
def yX7_drains : MethodName := ⟨RX7, "drains", "(I)V"⟩
abbrev cX7_learnsOn : ByteArray := prog_9_method_25_code
def yX7_learnsOn : MethodName := ⟨RX7, "learnsOn", "()V"⟩
abbrev cX7_ticksOn : ByteArray := prog_9_method_26_code
def yX7_ticksOn : MethodName := ⟨RX7, "ticksOn", "()I"⟩
abbrev cX7_doTick : ByteArray := prog_9_method_27_code
def yX7_doTick : MethodName := ⟨RX7, "doTick", "(I)I"⟩
abbrev cX7_doLoad : ByteArray := prog_9_method_28_code
def yX7_doLoad : MethodName := ⟨RX7, "doLoad", "(I)I"⟩
abbrev cX7_doLearn : ByteArray := prog_9_method_29_code
def yX7_doLearn : MethodName := ⟨RX7, "doLearn", "()I"⟩
abbrev cX7_doCut : ByteArray := prog_9_method_30_code
def yX7_doCut : MethodName := ⟨RX7, "doCut", "()I"⟩
abbrev cX7_doFlush : ByteArray := prog_9_method_31_code
def yX7_doFlush : MethodName := ⟨RX7, "doFlush", "(I)I"⟩
abbrev cX7_doSet : ByteArray := prog_9_method_32_code
def yX7_doSet : MethodName := ⟨RX7, "doSet", "(II)I"⟩
abbrev cX7_read : ByteArray := prog_9_method_33_code
def yX7_read : MethodName := ⟨RX7, "read", "(I)I"⟩
abbrev cX7_write : ByteArray := prog_9_method_34_code
def yX7_write : MethodName := ⟨RX7, "write", "(II)I"⟩
abbrev cX7_flush : ByteArray := prog_9_method_35_code
def yX7_flush : MethodName := ⟨RX7, "flush", "(I)I"⟩
abbrev cX7_tick : ByteArray := prog_9_method_36_code
def yX7_tick : MethodName := ⟨RX7, "tick", "(I)I"⟩
abbrev cX7_load : ByteArray := prog_9_method_37_code
def yX7_load : MethodName := ⟨RX7, "load", "(I)I"⟩
abbrev cX7_learn : ByteArray := prog_9_method_38_code
def yX7_learn : MethodName := ⟨RX7, "learn", "()I"⟩
abbrev cX7_cut : ByteArray := prog_9_method_39_code
def yX7_cut : MethodName := ⟨RX7, "cut", "()I"⟩
abbrev cX7_set : ByteArray := prog_9_method_40_code
def yX7_set : MethodName := ⟨RX7, "set", "(II)I"⟩
abbrev cX7_lowerTurns : ByteArray := prog_9_method_41_code
def yX7_lowerTurns : MethodName := ⟨RX7, "lowerTurns", "(I)I"⟩
abbrev cX7_lineOf : ByteArray := prog_9_method_42_code
def yX7_lineOf : MethodName := ⟨RX7, "lineOf", "(II)I"⟩
abbrev cX7_placeOf : ByteArray := prog_9_method_43_code
def yX7_placeOf : MethodName := ⟨RX7, "placeOf", "(II)I"⟩
abbrev cX7_saved : ByteArray := prog_9_method_44_code
def yX7_saved : MethodName := ⟨RX7, "saved", "()I"⟩
abbrev cX7_battery : ByteArray := prog_9_method_45_code
def yX7_battery : MethodName := ⟨RX7, "battery", "(I)I"⟩
abbrev cX7_setOf : ByteArray := prog_9_method_46_code
def yX7_setOf : MethodName := ⟨RX7, "setOf", "(I)I"⟩
abbrev cX7_dirtyBefore : ByteArray := prog_9_method_47_code
def yX7_dirtyBefore : MethodName := ⟨RX7, "dirtyBefore", "(I)I"⟩
abbrev cX7_losable : ByteArray := prog_9_method_48_code
def yX7_losable : MethodName := ⟨RX7, "losable", "()I"⟩
abbrev cX7_lines : ByteArray := prog_9_method_49_code
def yX7_lines : MethodName := ⟨RX7, "lines", "(I)I"⟩
abbrev cX7_wouldFlush : ByteArray := prog_9_method_50_code
def yX7_wouldFlush : MethodName := ⟨RX7, "wouldFlush", "(I)I"⟩
abbrev cX7_critical : ByteArray := prog_9_method_51_code
def yX7_critical : MethodName := ⟨RX7, "critical", "()I"⟩
abbrev cX7_ticksUntil : ByteArray := prog_9_method_52_code
def yX7_ticksUntil : MethodName := ⟨RX7, "ticksUntil", "(I)I"⟩
abbrev cX7_apart : ByteArray := prog_9_method_53_code
def yX7_apart : MethodName := ⟨RX7, "apart", "(II)I"⟩
abbrev cX7_nearest : ByteArray := prog_9_method_54_code
def yX7_nearest : MethodName := ⟨RX7, "nearest", "(I)I"⟩
abbrev cX7_pair : ByteArray := prog_9_method_55_code
def yX7_pair : MethodName := ⟨RX7, "pair", "(I)I"⟩
abbrev cX7_count : ByteArray := prog_9_method_56_code
def yX7_count : MethodName := ⟨RX7, "count", "(I)I"⟩
abbrev cX7_undo : ByteArray := prog_9_method_57_code
def yX7_undo : MethodName := ⟨RX7, "undo", "()I"⟩
abbrev cX7_type : ByteArray := prog_9_method_58_code
def yX7_type : MethodName := ⟨RX7, "type", "(I)I"⟩
abbrev cX7_clearText : ByteArray := prog_9_method_59_code
def yX7_clearText : MethodName := ⟨RX7, "clearText", "()I"⟩
abbrev cX7_isHere : ByteArray := prog_9_method_60_code
def yX7_isHere : MethodName := ⟨RX7, "isHere", "(II)Z"⟩
abbrev cX7_takes : ByteArray := prog_9_method_61_code
def yX7_takes : MethodName := ⟨RX7, "takes", "(I)Z"⟩
abbrev cX7_takesNumber : ByteArray := prog_9_method_62_code
def yX7_takesNumber : MethodName := ⟨RX7, "takesNumber", "()Z"⟩
abbrev cX7_isOrder : ByteArray := prog_9_method_63_code
def yX7_isOrder : MethodName := ⟨RX7, "isOrder", "(I)Z"⟩
abbrev cX7_readsOrder : ByteArray := prog_9_method_64_code
def yX7_readsOrder : MethodName := ⟨RX7, "readsOrder", "()Z"⟩
abbrev cX7_isInRange : ByteArray := prog_9_method_65_code
def yX7_isInRange : MethodName := ⟨RX7, "isInRange", "()Z"⟩
abbrev cX7_doOrder : ByteArray := prog_9_method_66_code
def yX7_doOrder : MethodName := ⟨RX7, "doOrder", "()I"⟩
abbrev cX7_notes : ByteArray := prog_9_method_67_code
def yX7_notes : MethodName := ⟨RX7, "notes", "(II)Z"⟩
abbrev cX7_doesAll : ByteArray := prog_9_method_68_code
def yX7_doesAll : MethodName := ⟨RX7, "doesAll", "()Z"⟩
abbrev cX7_fault : ByteArray := prog_9_method_69_code
def yX7_fault : MethodName := ⟨RX7, "fault", "(I)I"⟩
abbrev cX7_play : ByteArray := prog_9_method_70_code
def yX7_play : MethodName := ⟨RX7, "play", "()I"⟩
def RJ6 : String := "java/lang/Integer"
def TJ6 : u_T := fun k => match k with
  | _ => ("", "", "", false)
def tyJ6 : Nat → FieldType := fun k => match k with
  | _ => .int
abbrev wsJ60 : List Cond := u_ws RJ6 TJ6 0
theorem nmJ6 : ∀ a, a < 0 → ∀ b, b < 0 → a ≠ b → (TJ6 a).2.1 ≠ (TJ6 b).2.1 := by decide +kernel
theorem tyJ6_ok : ∀ k, k < 0 → parseFieldDescriptor (TJ6 k).2.2.1 = some (tyJ6 k) := by decide +kernel
abbrev cJ6_bitCount_0f7a4 : ByteArray := prog_10_method_49_code
def yJ6_bitCount_0f7a4 : MethodName := ⟨RJ6, "bitCount", "(I)I"⟩
def RJ9 : String := "java/lang/Math"
def TJ9 : u_T := fun k => match k with
  | _ => ("", "", "", false)
def tyJ9 : Nat → FieldType := fun k => match k with
  | _ => .int
abbrev wsJ90 : List Cond := u_ws RJ9 TJ9 0
theorem nmJ9 : ∀ a, a < 0 → ∀ b, b < 0 → a ≠ b → (TJ9 a).2.1 ≠ (TJ9 b).2.1 := by decide +kernel
theorem tyJ9_ok : ∀ k, k < 0 → parseFieldDescriptor (TJ9 k).2.2.1 = some (tyJ9 k) := by decide +kernel
abbrev cJ9_abs_0f7a4 : ByteArray := prog_11_method_59_code
def yJ9_abs_0f7a4 : MethodName := ⟨RJ9, "abs", "(I)I"⟩
abbrev cJ9_max_7cf53 : ByteArray := prog_11_method_65_code
def yJ9_max_7cf53 : MethodName := ⟨RJ9, "max", "(II)I"⟩
abbrev cJ9_min_7cf53 : ByteArray := prog_11_method_69_code
def yJ9_min_7cf53 : MethodName := ⟨RJ9, "min", "(II)I"⟩
def RJ10 : String := "java/lang/System"
def TJ10 : u_T := fun k => match k with
  | _ => ("", "", "", false)
def tyJ10 : Nat → FieldType := fun k => match k with
  | _ => .int
abbrev wsJ100 : List Cond := u_ws RJ10 TJ10 0
theorem nmJ10 : ∀ a, a < 0 → ∀ b, b < 0 → a ≠ b → (TJ10 a).2.1 ≠ (TJ10 b).2.1 := by decide +kernel
theorem tyJ10_ok : ∀ k, k < 0 → parseFieldDescriptor (TJ10 k).2.2.1 = some (tyJ10 k) := by decide +kernel
def RL : String := "BatteryCachesLaw"
abbrev cL_law : ByteArray := code
def yL_law : MethodName := ⟨RL, "law", "([I)Z"⟩
def wsX0_init : List Cond := .code yX0_init cX0_init 1 none :: ([.methodLink RX0 3 objectInit, .instanceMethod objectInit, .code objectInit ⟨#[0xb1]⟩ 1 none, .fieldLink RX0 9 "BatteryCaches$Battery" "charge" "I", .fieldLink RX0 15 "BatteryCaches$Battery" "wear" "I", .fieldLink RX0 18 "BatteryCaches$Battery" "cycle" "I", .fieldLink RX0 21 "BatteryCaches$Battery" "lineCost" "I", .fieldLink RX0 24 "BatteryCaches$Battery" "cutCost" "I", .fieldLink RX0 27 "BatteryCaches$Battery" "rise" "I", .fieldLink RX0 30 "BatteryCaches$Battery" "fall" "I"] ++ wsX00)
def wsX0_copyFrom : List Cond := .code yX0_copyFrom cX0_copyFrom 2 none :: ([.fieldLink RX0 9 "BatteryCaches$Battery" "charge" "I", .fieldLink RX0 15 "BatteryCaches$Battery" "wear" "I", .fieldLink RX0 18 "BatteryCaches$Battery" "cycle" "I", .fieldLink RX0 21 "BatteryCaches$Battery" "lineCost" "I", .fieldLink RX0 24 "BatteryCaches$Battery" "cutCost" "I", .fieldLink RX0 27 "BatteryCaches$Battery" "rise" "I", .fieldLink RX0 30 "BatteryCaches$Battery" "fall" "I"] ++ wsX00)
def wsX0_setting : List Cond := .code yX0_setting cX0_setting 2 (some .int) :: ([.fieldLink RX0 21 "BatteryCaches$Battery" "lineCost" "I", .fieldLink RX0 24 "BatteryCaches$Battery" "cutCost" "I", .fieldLink RX0 27 "BatteryCaches$Battery" "rise" "I", .fieldLink RX0 30 "BatteryCaches$Battery" "fall" "I"] ++ wsX00)
def wsX0_changeSetting : List Cond := .code yX0_changeSetting cX0_changeSetting 3 none :: ([.fieldLink RX0 21 "BatteryCaches$Battery" "lineCost" "I", .fieldLink RX0 24 "BatteryCaches$Battery" "cutCost" "I", .fieldLink RX0 27 "BatteryCaches$Battery" "rise" "I", .fieldLink RX0 30 "BatteryCaches$Battery" "fall" "I"] ++ wsX00)
def wsX0_capacity : List Cond := .code yX0_capacity cX0_capacity 1 (some .int) :: ([.fieldLink RX0 15 "BatteryCaches$Battery" "wear" "I"] ++ wsX00)
def wsX0_savable : List Cond := .code yX0_savable cX0_savable 1 (some .int) :: ([.fieldLink RX0 9 "BatteryCaches$Battery" "charge" "I", .fieldLink RX0 24 "BatteryCaches$Battery" "cutCost" "I", .fieldLink RX0 21 "BatteryCaches$Battery" "lineCost" "I", .methodLink RX0 37 Lib.Math.min.name, .static Lib.Math.min.name, .initialized "java/lang/Math", .code Lib.Math.min.name Lib.Math.min.code 2 (some .int)] ++ wsX00)
def wsX0_allowance : List Cond := .code yX0_allowance cX0_allowance 1 (some .int) :: ([.fieldLink RX0 18 "BatteryCaches$Battery" "cycle" "I", .methodLink RX0 33 yX0_savable, .instanceMethod yX0_savable, .selects RX0 yX0_savable yX0_savable, .initialized RX0, .code yX0_savable cX0_savable 1 (some .int), .fieldLink RX0 9 "BatteryCaches$Battery" "charge" "I", .fieldLink RX0 24 "BatteryCaches$Battery" "cutCost" "I", .fieldLink RX0 21 "BatteryCaches$Battery" "lineCost" "I", .methodLink RX0 37 Lib.Math.min.name, .static Lib.Math.min.name, .initialized "java/lang/Math", .code Lib.Math.min.name Lib.Math.min.code 2 (some .int)] ++ wsX00)
def wsX0_costToSave : List Cond := .code yX0_costToSave cX0_costToSave 2 (some .int) :: ([.fieldLink RX0 24 "BatteryCaches$Battery" "cutCost" "I", .fieldLink RX0 21 "BatteryCaches$Battery" "lineCost" "I"] ++ wsX00)
def wsX0_useUp : List Cond := .code yX0_useUp cX0_useUp 2 none :: ([.fieldLink RX0 9 "BatteryCaches$Battery" "charge" "I", .methodLink RX0 43 Lib.Math.max.name, .static Lib.Math.max.name, .initialized "java/lang/Math", .code Lib.Math.max.name Lib.Math.max.code 2 (some .int)] ++ wsX00)
def wsX0_saveAtCut : List Cond := .code yX0_saveAtCut cX0_saveAtCut 2 none :: ([.fieldLink RX0 18 "BatteryCaches$Battery" "cycle" "I", .methodLink RX0 46 yX0_costToSave, .instanceMethod yX0_costToSave, .selects RX0 yX0_costToSave yX0_costToSave, .initialized RX0, .code yX0_costToSave cX0_costToSave 2 (some .int), .fieldLink RX0 24 "BatteryCaches$Battery" "cutCost" "I", .fieldLink RX0 21 "BatteryCaches$Battery" "lineCost" "I", .methodLink RX0 50 yX0_useUp, .instanceMethod yX0_useUp, .selects RX0 yX0_useUp yX0_useUp, .code yX0_useUp cX0_useUp 2 none, .fieldLink RX0 9 "BatteryCaches$Battery" "charge" "I", .methodLink RX0 43 Lib.Math.max.name, .static Lib.Math.max.name, .initialized "java/lang/Math", .code Lib.Math.max.name Lib.Math.max.code 2 (some .int)] ++ wsX00)
def wsX0_fallInCycle : List Cond := .code yX0_fallInCycle cX0_fallInCycle 1 none :: ([.fieldLink RX0 30 "BatteryCaches$Battery" "fall" "I", .fieldLink RX0 9 "BatteryCaches$Battery" "charge" "I", .fieldLink RX0 15 "BatteryCaches$Battery" "wear" "I", .methodLink RX0 37 Lib.Math.min.name, .static Lib.Math.min.name, .initialized "java/lang/Math", .code Lib.Math.min.name Lib.Math.min.code 2 (some .int), .fieldLink RX0 18 "BatteryCaches$Battery" "cycle" "I", .methodLink RX0 50 yX0_useUp, .instanceMethod yX0_useUp, .selects RX0 yX0_useUp yX0_useUp, .initialized RX0, .code yX0_useUp cX0_useUp 2 none, .methodLink RX0 43 Lib.Math.max.name, .static Lib.Math.max.name, .code Lib.Math.max.name Lib.Math.max.code 2 (some .int)] ++ wsX00)
def wsX0_passTick_r1 : List Cond := [Cond.fieldLink RX0 18 "BatteryCaches$Battery" "cycle" "I", Cond.fieldLink RX0 9 "BatteryCaches$Battery" "charge" "I", Cond.fieldLink RX0 27 "BatteryCaches$Battery" "rise" "I", Cond.methodLink RX0 37 Lib.Math.min.name, Cond.static Lib.Math.min.name, Cond.initialized "java/lang/Math", Cond.code Lib.Math.min.name Lib.Math.min.code 2 (some .int), Cond.methodLink RX0 54 yX0_fallInCycle, Cond.instanceMethod yX0_fallInCycle, Cond.selects RX0 yX0_fallInCycle yX0_fallInCycle, Cond.initialized RX0, Cond.code yX0_fallInCycle cX0_fallInCycle 1 none, Cond.fieldLink RX0 30 "BatteryCaches$Battery" "fall" "I", Cond.fieldLink RX0 15 "BatteryCaches$Battery" "wear" "I", Cond.methodLink RX0 50 yX0_useUp, Cond.instanceMethod yX0_useUp, Cond.selects RX0 yX0_useUp yX0_useUp, Cond.code yX0_useUp cX0_useUp 2 none, Cond.methodLink RX0 43 Lib.Math.max.name, Cond.static Lib.Math.max.name, Cond.code Lib.Math.max.name Lib.Math.max.code 2 (some .int), Cond.methodLink RX0 57 yX0_capacity, Cond.instanceMethod yX0_capacity, Cond.selects RX0 yX0_capacity yX0_capacity]
def wsX0_passTick_r2 : List Cond := [Cond.code yX0_capacity cX0_capacity 1 (some .int)]
def wsX0_passTick : List Cond := .code yX0_passTick cX0_passTick 1 (some .boolean) :: ((wsX0_passTick_r1 ++ wsX0_passTick_r2) ++ wsX00)
def wsX4_init_r1 : List Cond := [Cond.methodLink RX4 3 objectInit, Cond.instanceMethod objectInit, Cond.code objectInit ⟨#[0xb1]⟩ 1 none, Cond.classLink RX4 9 RX0, Cond.instantiable RX0 7, Cond.initialized RX0, Cond.fieldLink RX4 12 "BatteryCaches$State" "battery" "LBatteryCaches$Battery;", Cond.arrayClass .int, Cond.fieldLink RX4 18 "BatteryCaches$State" "disk" "[I", Cond.fieldLink RX4 22 "BatteryCaches$State" "laid" "[I", Cond.fieldLink RX4 25 "BatteryCaches$State" "kind" "[I", Cond.fieldLink RX4 28 "BatteryCaches$State" "place" "[I", Cond.fieldLink RX4 31 "BatteryCaches$State" "value" "[I", Cond.fieldLink RX4 34 "BatteryCaches$State" "turn" "[I", Cond.fieldLink RX4 37 "BatteryCaches$State" "lastTurn" "I", Cond.fieldLink RX4 41 "BatteryCaches$State" "ticks" "I", Cond.fieldLink RX4 44 "BatteryCaches$State" "hits" "I", Cond.fieldLink RX4 47 "BatteryCaches$State" "misses" "I", Cond.fieldLink RX4 50 "BatteryCaches$State" "flushed" "I", Cond.fieldLink RX4 53 "BatteryCaches$State" "wentThrough" "I", Cond.fieldLink RX4 56 "BatteryCaches$State" "lost" "I", Cond.fieldLink RX4 59 "BatteryCaches$State" "cuts" "I", Cond.fieldLink RX4 62 "BatteryCaches$State" "cyclesEnded" "I", Cond.fieldLink RX4 65 "BatteryCaches$State" "laidInAll" "I"]
def wsX4_init_r2 : List Cond := [Cond.instanceMethod yX0_init, Cond.code yX0_init cX0_init 1 none, Cond.methodLink RX0 3 objectInit, Cond.fieldLink RX0 9 "BatteryCaches$Battery" "charge" "I", Cond.fieldLink RX0 15 "BatteryCaches$Battery" "wear" "I", Cond.fieldLink RX0 18 "BatteryCaches$Battery" "cycle" "I", Cond.fieldLink RX0 21 "BatteryCaches$Battery" "lineCost" "I", Cond.fieldLink RX0 24 "BatteryCaches$Battery" "cutCost" "I", Cond.fieldLink RX0 27 "BatteryCaches$Battery" "rise" "I", Cond.fieldLink RX0 30 "BatteryCaches$Battery" "fall" "I"]
def wsX4_init : List Cond := .code yX4_init cX4_init 1 none :: ((wsX4_init_r1 ++ wsX4_init_r2) ++ wsX00 ++ wsX40)
def wsX1_init_r1 : List Cond := [Cond.methodLink RX1 3 objectInit, Cond.instanceMethod objectInit, Cond.code objectInit ⟨#[0xb1]⟩ 1 none, Cond.classLink RX1 9 RX4, Cond.fieldLink RX1 11 "BatteryCaches$History" "states" "[LBatteryCaches$State;", Cond.fieldLink RX1 17 "BatteryCaches$History" "size" "I", Cond.instantiable RX4 17, Cond.initialized RX4, Cond.instanceMethod yX4_init, Cond.code yX4_init cX4_init 1 none, Cond.methodLink RX4 3 objectInit, Cond.classLink RX4 9 RX0, Cond.instantiable RX0 7, Cond.initialized RX0, Cond.fieldLink RX4 12 "BatteryCaches$State" "battery" "LBatteryCaches$Battery;", Cond.arrayClass .int, Cond.fieldLink RX4 18 "BatteryCaches$State" "disk" "[I", Cond.fieldLink RX4 22 "BatteryCaches$State" "laid" "[I", Cond.fieldLink RX4 25 "BatteryCaches$State" "kind" "[I", Cond.fieldLink RX4 28 "BatteryCaches$State" "place" "[I", Cond.fieldLink RX4 31 "BatteryCaches$State" "value" "[I", Cond.fieldLink RX4 34 "BatteryCaches$State" "turn" "[I", Cond.fieldLink RX4 37 "BatteryCaches$State" "lastTurn" "I", Cond.fieldLink RX4 41 "BatteryCaches$State" "ticks" "I"]
def wsX1_init_r2 : List Cond := [Cond.fieldLink RX4 44 "BatteryCaches$State" "hits" "I", Cond.fieldLink RX4 47 "BatteryCaches$State" "misses" "I", Cond.fieldLink RX4 50 "BatteryCaches$State" "flushed" "I", Cond.fieldLink RX4 53 "BatteryCaches$State" "wentThrough" "I", Cond.fieldLink RX4 56 "BatteryCaches$State" "lost" "I", Cond.fieldLink RX4 59 "BatteryCaches$State" "cuts" "I", Cond.fieldLink RX4 62 "BatteryCaches$State" "cyclesEnded" "I", Cond.fieldLink RX4 65 "BatteryCaches$State" "laidInAll" "I", Cond.instanceMethod yX0_init, Cond.code yX0_init cX0_init 1 none, Cond.methodLink RX0 3 objectInit, Cond.fieldLink RX0 9 "BatteryCaches$Battery" "charge" "I", Cond.fieldLink RX0 15 "BatteryCaches$Battery" "wear" "I", Cond.fieldLink RX0 18 "BatteryCaches$Battery" "cycle" "I", Cond.fieldLink RX0 21 "BatteryCaches$Battery" "lineCost" "I", Cond.fieldLink RX0 24 "BatteryCaches$Battery" "cutCost" "I", Cond.fieldLink RX0 27 "BatteryCaches$Battery" "rise" "I", Cond.fieldLink RX0 30 "BatteryCaches$Battery" "fall" "I"]
def wsX1_init : List Cond := .code yX1_init cX1_init 2 none :: ((wsX1_init_r1 ++ wsX1_init_r2) ++ wsX10 ++ wsX40 ++ wsX00)
def wsX1_dropOldest : List Cond := .code yX1_dropOldest cX1_dropOldest 3 none :: ([.fieldLink RX1 11 "BatteryCaches$History" "states" "[LBatteryCaches$State;", .fieldLink RX1 17 "BatteryCaches$History" "size" "I"] ++ wsX10)
def wsX6_isWithin : List Cond := .code yX6_isWithin cX6_isWithin 3 (some .boolean) :: ([])
def wsX6_copyRow : List Cond := .code yX6_copyRow cX6_copyRow 2 none :: ([.methodLink RX6 253 Lib.Math.min.name, .static Lib.Math.min.name, .initialized "java/lang/Math", .code Lib.Math.min.name Lib.Math.min.code 2 (some .int), .methodLink RX6 256 arraycopyName, .native arraycopyName, .static arraycopyName, .initialized "java/lang/System"])
def wsX4_copy_r1 : List Cond := [Cond.fieldLink RX4 12 "BatteryCaches$State" "battery" "LBatteryCaches$Battery;", Cond.fieldLink RX4 18 "BatteryCaches$State" "disk" "[I", Cond.fieldLink RX4 22 "BatteryCaches$State" "laid" "[I", Cond.fieldLink RX4 25 "BatteryCaches$State" "kind" "[I", Cond.fieldLink RX4 28 "BatteryCaches$State" "place" "[I", Cond.fieldLink RX4 31 "BatteryCaches$State" "value" "[I", Cond.fieldLink RX4 34 "BatteryCaches$State" "turn" "[I", Cond.fieldLink RX4 37 "BatteryCaches$State" "lastTurn" "I", Cond.fieldLink RX4 41 "BatteryCaches$State" "ticks" "I", Cond.fieldLink RX4 44 "BatteryCaches$State" "hits" "I", Cond.fieldLink RX4 47 "BatteryCaches$State" "misses" "I", Cond.fieldLink RX4 50 "BatteryCaches$State" "flushed" "I", Cond.fieldLink RX4 53 "BatteryCaches$State" "wentThrough" "I", Cond.fieldLink RX4 56 "BatteryCaches$State" "lost" "I", Cond.fieldLink RX4 59 "BatteryCaches$State" "cuts" "I", Cond.fieldLink RX4 62 "BatteryCaches$State" "cyclesEnded" "I", Cond.fieldLink RX4 65 "BatteryCaches$State" "laidInAll" "I", Cond.methodLink RX4 68 yX0_copyFrom, Cond.instanceMethod yX0_copyFrom, Cond.selects RX0 yX0_copyFrom yX0_copyFrom, Cond.initialized RX0, Cond.code yX0_copyFrom cX0_copyFrom 2 none, Cond.fieldLink RX0 9 "BatteryCaches$Battery" "charge" "I", Cond.fieldLink RX0 15 "BatteryCaches$Battery" "wear" "I"]
def wsX4_copy_r2 : List Cond := [Cond.fieldLink RX0 18 "BatteryCaches$Battery" "cycle" "I", Cond.fieldLink RX0 21 "BatteryCaches$Battery" "lineCost" "I", Cond.fieldLink RX0 24 "BatteryCaches$Battery" "cutCost" "I", Cond.fieldLink RX0 27 "BatteryCaches$Battery" "rise" "I", Cond.fieldLink RX0 30 "BatteryCaches$Battery" "fall" "I", Cond.static yX6_copyRow, Cond.initialized RX6, Cond.code yX6_copyRow cX6_copyRow 2 none, Cond.methodLink RX6 253 Lib.Math.min.name, Cond.static Lib.Math.min.name, Cond.initialized "java/lang/Math", Cond.code Lib.Math.min.name Lib.Math.min.code 2 (some .int), Cond.methodLink RX6 256 arraycopyName, Cond.native arraycopyName, Cond.static arraycopyName, Cond.initialized "java/lang/System"]
def wsX4_copy : List Cond := .code yX4_copy cX4_copy 2 none :: ((wsX4_copy_r1 ++ wsX4_copy_r2) ++ wsX40 ++ wsX00)
def wsX1_keep_r1 : List Cond := [Cond.fieldLink RX1 17 "BatteryCaches$History" "size" "I", Cond.fieldLink RX1 11 "BatteryCaches$History" "states" "[LBatteryCaches$State;", Cond.methodLink RX1 22 yX1_dropOldest, Cond.instanceMethod yX1_dropOldest, Cond.selects RX1 yX1_dropOldest yX1_dropOldest, Cond.initialized RX1, Cond.code yX1_dropOldest cX1_dropOldest 3 none, Cond.static yX6_isWithin, Cond.initialized RX6, Cond.code yX6_isWithin cX6_isWithin 3 (some .boolean), Cond.methodLink RX1 29 yX4_copy, Cond.static yX4_copy, Cond.initialized RX4, Cond.code yX4_copy cX4_copy 2 none, Cond.fieldLink RX4 12 "BatteryCaches$State" "battery" "LBatteryCaches$Battery;", Cond.fieldLink RX4 18 "BatteryCaches$State" "disk" "[I", Cond.fieldLink RX4 22 "BatteryCaches$State" "laid" "[I", Cond.fieldLink RX4 25 "BatteryCaches$State" "kind" "[I", Cond.fieldLink RX4 28 "BatteryCaches$State" "place" "[I", Cond.fieldLink RX4 31 "BatteryCaches$State" "value" "[I", Cond.fieldLink RX4 34 "BatteryCaches$State" "turn" "[I", Cond.fieldLink RX4 37 "BatteryCaches$State" "lastTurn" "I", Cond.fieldLink RX4 41 "BatteryCaches$State" "ticks" "I", Cond.fieldLink RX4 44 "BatteryCaches$State" "hits" "I"]
def wsX1_keep_r2 : List Cond := [Cond.fieldLink RX4 47 "BatteryCaches$State" "misses" "I", Cond.fieldLink RX4 50 "BatteryCaches$State" "flushed" "I", Cond.fieldLink RX4 53 "BatteryCaches$State" "wentThrough" "I", Cond.fieldLink RX4 56 "BatteryCaches$State" "lost" "I", Cond.fieldLink RX4 59 "BatteryCaches$State" "cuts" "I", Cond.fieldLink RX4 62 "BatteryCaches$State" "cyclesEnded" "I", Cond.fieldLink RX4 65 "BatteryCaches$State" "laidInAll" "I", Cond.methodLink RX4 68 yX0_copyFrom, Cond.instanceMethod yX0_copyFrom, Cond.selects RX0 yX0_copyFrom yX0_copyFrom, Cond.initialized RX0, Cond.code yX0_copyFrom cX0_copyFrom 2 none, Cond.fieldLink RX0 9 "BatteryCaches$Battery" "charge" "I", Cond.fieldLink RX0 15 "BatteryCaches$Battery" "wear" "I", Cond.fieldLink RX0 18 "BatteryCaches$Battery" "cycle" "I", Cond.fieldLink RX0 21 "BatteryCaches$Battery" "lineCost" "I", Cond.fieldLink RX0 24 "BatteryCaches$Battery" "cutCost" "I", Cond.fieldLink RX0 27 "BatteryCaches$Battery" "rise" "I", Cond.fieldLink RX0 30 "BatteryCaches$Battery" "fall" "I", Cond.static yX6_copyRow, Cond.code yX6_copyRow cX6_copyRow 2 none, Cond.methodLink RX6 253 Lib.Math.min.name, Cond.static Lib.Math.min.name, Cond.initialized "java/lang/Math"]
def wsX1_keep_r3 : List Cond := [Cond.code Lib.Math.min.name Lib.Math.min.code 2 (some .int), Cond.methodLink RX6 256 arraycopyName, Cond.native arraycopyName, Cond.static arraycopyName, Cond.initialized "java/lang/System"]
def wsX1_keep : List Cond := .code yX1_keep cX1_keep 2 none :: ((wsX1_keep_r1 ++ (wsX1_keep_r2 ++ wsX1_keep_r3)) ++ wsX10 ++ wsX40 ++ wsX00)
def wsX1_restore_r1 : List Cond := [Cond.fieldLink RX1 17 "BatteryCaches$History" "size" "I", Cond.fieldLink RX1 11 "BatteryCaches$History" "states" "[LBatteryCaches$State;", Cond.static yX6_isWithin, Cond.initialized RX6, Cond.code yX6_isWithin cX6_isWithin 3 (some .boolean), Cond.methodLink RX1 29 yX4_copy, Cond.static yX4_copy, Cond.initialized RX4, Cond.code yX4_copy cX4_copy 2 none, Cond.fieldLink RX4 12 "BatteryCaches$State" "battery" "LBatteryCaches$Battery;", Cond.fieldLink RX4 18 "BatteryCaches$State" "disk" "[I", Cond.fieldLink RX4 22 "BatteryCaches$State" "laid" "[I", Cond.fieldLink RX4 25 "BatteryCaches$State" "kind" "[I", Cond.fieldLink RX4 28 "BatteryCaches$State" "place" "[I", Cond.fieldLink RX4 31 "BatteryCaches$State" "value" "[I", Cond.fieldLink RX4 34 "BatteryCaches$State" "turn" "[I", Cond.fieldLink RX4 37 "BatteryCaches$State" "lastTurn" "I", Cond.fieldLink RX4 41 "BatteryCaches$State" "ticks" "I", Cond.fieldLink RX4 44 "BatteryCaches$State" "hits" "I", Cond.fieldLink RX4 47 "BatteryCaches$State" "misses" "I", Cond.fieldLink RX4 50 "BatteryCaches$State" "flushed" "I", Cond.fieldLink RX4 53 "BatteryCaches$State" "wentThrough" "I", Cond.fieldLink RX4 56 "BatteryCaches$State" "lost" "I", Cond.fieldLink RX4 59 "BatteryCaches$State" "cuts" "I"]
def wsX1_restore_r2 : List Cond := [Cond.fieldLink RX4 62 "BatteryCaches$State" "cyclesEnded" "I", Cond.fieldLink RX4 65 "BatteryCaches$State" "laidInAll" "I", Cond.methodLink RX4 68 yX0_copyFrom, Cond.instanceMethod yX0_copyFrom, Cond.selects RX0 yX0_copyFrom yX0_copyFrom, Cond.initialized RX0, Cond.code yX0_copyFrom cX0_copyFrom 2 none, Cond.fieldLink RX0 9 "BatteryCaches$Battery" "charge" "I", Cond.fieldLink RX0 15 "BatteryCaches$Battery" "wear" "I", Cond.fieldLink RX0 18 "BatteryCaches$Battery" "cycle" "I", Cond.fieldLink RX0 21 "BatteryCaches$Battery" "lineCost" "I", Cond.fieldLink RX0 24 "BatteryCaches$Battery" "cutCost" "I", Cond.fieldLink RX0 27 "BatteryCaches$Battery" "rise" "I", Cond.fieldLink RX0 30 "BatteryCaches$Battery" "fall" "I", Cond.static yX6_copyRow, Cond.code yX6_copyRow cX6_copyRow 2 none, Cond.methodLink RX6 253 Lib.Math.min.name, Cond.static Lib.Math.min.name, Cond.initialized "java/lang/Math", Cond.code Lib.Math.min.name Lib.Math.min.code 2 (some .int), Cond.methodLink RX6 256 arraycopyName, Cond.native arraycopyName, Cond.static arraycopyName, Cond.initialized "java/lang/System"]
def wsX1_restore : List Cond := .code yX1_restore cX1_restore 2 none :: ((wsX1_restore_r1 ++ wsX1_restore_r2) ++ wsX10 ++ wsX40 ++ wsX00)
def wsX2_init : List Cond := .code yX2_init cX2_init 1 none :: ([.methodLink RX2 3 objectInit, .instanceMethod objectInit, .code objectInit ⟨#[0xb1]⟩ 1 none, .fieldLink RX2 9 "BatteryCaches$Order" "start" "I", .fieldLink RX2 15 "BatteryCaches$Order" "next" "I", .fieldLink RX2 18 "BatteryCaches$Order" "letter" "I", .fieldLink RX2 21 "BatteryCaches$Order" "number" "I", .fieldLink RX2 24 "BatteryCaches$Order" "newValue" "I", .fieldLink RX2 27 "BatteryCaches$Order" "reason" "I", .fieldLink RX2 30 "BatteryCaches$Order" "cause" "I"] ++ wsX20)
def wsX2_beginText : List Cond := .code yX2_beginText cX2_beginText 1 none :: ([.fieldLink RX2 15 "BatteryCaches$Order" "next" "I", .fieldLink RX2 27 "BatteryCaches$Order" "reason" "I"] ++ wsX20)
def wsX5_at : List Cond := .code yX5_at cX5_at 3 (some .int) :: ([.fieldLink RX5 15 "BatteryCaches$Text" "length" "I", .fieldLink RX5 9 "BatteryCaches$Text" "characters" "[I"] ++ wsX50)
def wsX2_readNumber : List Cond := .code yX2_readNumber cX2_readNumber 4 (some .int) :: ([.fieldLink RX2 15 "BatteryCaches$Order" "next" "I", .methodLink RX2 41 yX5_at, .instanceMethod yX5_at, .selects RX5 yX5_at yX5_at, .initialized RX5, .code yX5_at cX5_at 3 (some .int), .fieldLink RX5 15 "BatteryCaches$Text" "length" "I", .fieldLink RX5 9 "BatteryCaches$Text" "characters" "[I", .static yX6_isWithin, .initialized RX6, .code yX6_isWithin cX6_isWithin 3 (some .boolean)] ++ wsX20 ++ wsX50)
def wsX2_readSign : List Cond := .code yX2_readSign cX2_readSign 3 (some .boolean) :: ([.fieldLink RX2 15 "BatteryCaches$Order" "next" "I", .methodLink RX2 41 yX5_at, .instanceMethod yX5_at, .selects RX5 yX5_at yX5_at, .initialized RX5, .code yX5_at cX5_at 3 (some .int), .fieldLink RX5 15 "BatteryCaches$Text" "length" "I", .fieldLink RX5 9 "BatteryCaches$Text" "characters" "[I"] ++ wsX20 ++ wsX50)
def wsX2_hasFormOfWrite : List Cond := .code yX2_hasFormOfWrite cX2_hasFormOfWrite 2 (some .boolean) :: ([.fieldLink RX2 21 "BatteryCaches$Order" "number" "I", .fieldLink RX2 24 "BatteryCaches$Order" "newValue" "I", .methodLink RX2 47 yX2_readNumber, .instanceMethod yX2_readNumber, .selects RX2 yX2_readNumber yX2_readNumber, .initialized RX2, .code yX2_readNumber cX2_readNumber 4 (some .int), .fieldLink RX2 15 "BatteryCaches$Order" "next" "I", .methodLink RX2 41 yX5_at, .instanceMethod yX5_at, .selects RX5 yX5_at yX5_at, .initialized RX5, .code yX5_at cX5_at 3 (some .int), .fieldLink RX5 15 "BatteryCaches$Text" "length" "I", .fieldLink RX5 9 "BatteryCaches$Text" "characters" "[I", .static yX6_isWithin, .initialized RX6, .code yX6_isWithin cX6_isWithin 3 (some .boolean), .methodLink RX2 51 yX2_readSign, .instanceMethod yX2_readSign, .selects RX2 yX2_readSign yX2_readSign, .code yX2_readSign cX2_readSign 3 (some .boolean)] ++ wsX20 ++ wsX50)
def wsX2_hasForm_r1 : List Cond := [Cond.fieldLink RX2 15 "BatteryCaches$Order" "next" "I", Cond.fieldLink RX2 18 "BatteryCaches$Order" "letter" "I", Cond.fieldLink RX2 21 "BatteryCaches$Order" "number" "I", Cond.methodLink RX2 41 yX5_at, Cond.instanceMethod yX5_at, Cond.selects RX5 yX5_at yX5_at, Cond.initialized RX5, Cond.code yX5_at cX5_at 3 (some .int), Cond.fieldLink RX5 15 "BatteryCaches$Text" "length" "I", Cond.fieldLink RX5 9 "BatteryCaches$Text" "characters" "[I", Cond.methodLink RX2 47 yX2_readNumber, Cond.instanceMethod yX2_readNumber, Cond.selects RX2 yX2_readNumber yX2_readNumber, Cond.initialized RX2, Cond.code yX2_readNumber cX2_readNumber 4 (some .int), Cond.static yX6_isWithin, Cond.initialized RX6, Cond.code yX6_isWithin cX6_isWithin 3 (some .boolean), Cond.methodLink RX2 51 yX2_readSign, Cond.instanceMethod yX2_readSign, Cond.selects RX2 yX2_readSign yX2_readSign, Cond.code yX2_readSign cX2_readSign 3 (some .boolean), Cond.methodLink RX2 55 yX2_hasFormOfWrite, Cond.instanceMethod yX2_hasFormOfWrite]
def wsX2_hasForm_r2 : List Cond := [Cond.selects RX2 yX2_hasFormOfWrite yX2_hasFormOfWrite, Cond.code yX2_hasFormOfWrite cX2_hasFormOfWrite 2 (some .boolean), Cond.fieldLink RX2 24 "BatteryCaches$Order" "newValue" "I"]
def wsX2_hasForm : List Cond := .code yX2_hasForm cX2_hasForm 2 (some .boolean) :: ((wsX2_hasForm_r1 ++ wsX2_hasForm_r2) ++ wsX20 ++ wsX50)
def wsX6_isPlace : List Cond := .code yX6_isPlace cX6_isPlace 1 (some .boolean) :: ([])
def wsX2_isInRange : List Cond := .code yX2_isInRange cX2_isInRange 1 (some .boolean) :: ([.fieldLink RX2 18 "BatteryCaches$Order" "letter" "I", .fieldLink RX2 21 "BatteryCaches$Order" "number" "I", .static yX6_isPlace, .initialized RX6, .code yX6_isPlace cX6_isPlace 1 (some .boolean), .static yX6_isWithin, .code yX6_isWithin cX6_isWithin 3 (some .boolean)] ++ wsX20)
def wsX2_readNext_r1 : List Cond := [Cond.fieldLink RX2 15 "BatteryCaches$Order" "next" "I", Cond.fieldLink RX2 9 "BatteryCaches$Order" "start" "I", Cond.fieldLink RX2 27 "BatteryCaches$Order" "reason" "I", Cond.fieldLink RX2 30 "BatteryCaches$Order" "cause" "I", Cond.fieldLink RX2 21 "BatteryCaches$Order" "number" "I", Cond.methodLink RX2 33 yX2_hasForm, Cond.instanceMethod yX2_hasForm, Cond.selects RX2 yX2_hasForm yX2_hasForm, Cond.initialized RX2, Cond.code yX2_hasForm cX2_hasForm 2 (some .boolean), Cond.fieldLink RX2 18 "BatteryCaches$Order" "letter" "I", Cond.methodLink RX2 41 yX5_at, Cond.instanceMethod yX5_at, Cond.selects RX5 yX5_at yX5_at, Cond.initialized RX5, Cond.code yX5_at cX5_at 3 (some .int), Cond.fieldLink RX5 15 "BatteryCaches$Text" "length" "I", Cond.fieldLink RX5 9 "BatteryCaches$Text" "characters" "[I", Cond.methodLink RX2 47 yX2_readNumber, Cond.instanceMethod yX2_readNumber, Cond.selects RX2 yX2_readNumber yX2_readNumber, Cond.code yX2_readNumber cX2_readNumber 4 (some .int), Cond.static yX6_isWithin, Cond.initialized RX6]
def wsX2_readNext_r2 : List Cond := [Cond.code yX6_isWithin cX6_isWithin 3 (some .boolean), Cond.methodLink RX2 51 yX2_readSign, Cond.instanceMethod yX2_readSign, Cond.selects RX2 yX2_readSign yX2_readSign, Cond.code yX2_readSign cX2_readSign 3 (some .boolean), Cond.methodLink RX2 55 yX2_hasFormOfWrite, Cond.instanceMethod yX2_hasFormOfWrite, Cond.selects RX2 yX2_hasFormOfWrite yX2_hasFormOfWrite, Cond.code yX2_hasFormOfWrite cX2_hasFormOfWrite 2 (some .boolean), Cond.fieldLink RX2 24 "BatteryCaches$Order" "newValue" "I", Cond.methodLink RX2 37 yX2_isInRange, Cond.instanceMethod yX2_isInRange, Cond.selects RX2 yX2_isInRange yX2_isInRange, Cond.code yX2_isInRange cX2_isInRange 1 (some .boolean), Cond.static yX6_isPlace, Cond.code yX6_isPlace cX6_isPlace 1 (some .boolean)]
def wsX2_readNext : List Cond := .code yX2_readNext cX2_readNext 2 none :: ((wsX2_readNext_r1 ++ wsX2_readNext_r2) ++ wsX20 ++ wsX50)
def wsX3_init_r1 : List Cond := [Cond.methodLink RX3 3 objectInit, Cond.instanceMethod objectInit, Cond.code objectInit ⟨#[0xb1]⟩ 1 none, Cond.classLink RX3 9 RX4, Cond.instantiable RX4 17, Cond.initialized RX4, Cond.fieldLink RX3 12 "BatteryCaches$Rehearsal" "trial" "LBatteryCaches$State;", Cond.classLink RX3 18 RX2, Cond.instantiable RX2 7, Cond.initialized RX2, Cond.fieldLink RX3 21 "BatteryCaches$Rehearsal" "order" "LBatteryCaches$Order;", Cond.fieldLink RX3 25 "BatteryCaches$Rehearsal" "done" "I", Cond.instanceMethod yX4_init, Cond.code yX4_init cX4_init 1 none, Cond.methodLink RX4 3 objectInit, Cond.classLink RX4 9 RX0, Cond.instantiable RX0 7, Cond.initialized RX0, Cond.fieldLink RX4 12 "BatteryCaches$State" "battery" "LBatteryCaches$Battery;", Cond.arrayClass .int, Cond.fieldLink RX4 18 "BatteryCaches$State" "disk" "[I", Cond.fieldLink RX4 22 "BatteryCaches$State" "laid" "[I", Cond.fieldLink RX4 25 "BatteryCaches$State" "kind" "[I", Cond.fieldLink RX4 28 "BatteryCaches$State" "place" "[I"]
def wsX3_init_r2 : List Cond := [Cond.fieldLink RX4 31 "BatteryCaches$State" "value" "[I", Cond.fieldLink RX4 34 "BatteryCaches$State" "turn" "[I", Cond.fieldLink RX4 37 "BatteryCaches$State" "lastTurn" "I", Cond.fieldLink RX4 41 "BatteryCaches$State" "ticks" "I", Cond.fieldLink RX4 44 "BatteryCaches$State" "hits" "I", Cond.fieldLink RX4 47 "BatteryCaches$State" "misses" "I", Cond.fieldLink RX4 50 "BatteryCaches$State" "flushed" "I", Cond.fieldLink RX4 53 "BatteryCaches$State" "wentThrough" "I", Cond.fieldLink RX4 56 "BatteryCaches$State" "lost" "I", Cond.fieldLink RX4 59 "BatteryCaches$State" "cuts" "I", Cond.fieldLink RX4 62 "BatteryCaches$State" "cyclesEnded" "I", Cond.fieldLink RX4 65 "BatteryCaches$State" "laidInAll" "I", Cond.instanceMethod yX0_init, Cond.code yX0_init cX0_init 1 none, Cond.methodLink RX0 3 objectInit, Cond.fieldLink RX0 9 "BatteryCaches$Battery" "charge" "I", Cond.fieldLink RX0 15 "BatteryCaches$Battery" "wear" "I", Cond.fieldLink RX0 18 "BatteryCaches$Battery" "cycle" "I", Cond.fieldLink RX0 21 "BatteryCaches$Battery" "lineCost" "I", Cond.fieldLink RX0 24 "BatteryCaches$Battery" "cutCost" "I", Cond.fieldLink RX0 27 "BatteryCaches$Battery" "rise" "I", Cond.fieldLink RX0 30 "BatteryCaches$Battery" "fall" "I", Cond.instanceMethod yX2_init, Cond.code yX2_init cX2_init 1 none]
def wsX3_init_r3 : List Cond := [Cond.methodLink RX2 3 objectInit, Cond.fieldLink RX2 9 "BatteryCaches$Order" "start" "I", Cond.fieldLink RX2 15 "BatteryCaches$Order" "next" "I", Cond.fieldLink RX2 18 "BatteryCaches$Order" "letter" "I", Cond.fieldLink RX2 21 "BatteryCaches$Order" "number" "I", Cond.fieldLink RX2 24 "BatteryCaches$Order" "newValue" "I", Cond.fieldLink RX2 27 "BatteryCaches$Order" "reason" "I", Cond.fieldLink RX2 30 "BatteryCaches$Order" "cause" "I"]
def wsX3_init : List Cond := .code yX3_init cX3_init 1 none :: ((wsX3_init_r1 ++ (wsX3_init_r2 ++ wsX3_init_r3)) ++ wsX40 ++ wsX30 ++ wsX20 ++ wsX00)
def wsX3_isPossible : List Cond := .code yX3_isPossible cX3_isPossible 1 (some .boolean) :: ([.fieldLink RX3 21 "BatteryCaches$Rehearsal" "order" "LBatteryCaches$Order;", .fieldLink RX3 58 "BatteryCaches$Order" "letter" "I", .fieldLink RX3 12 "BatteryCaches$Rehearsal" "trial" "LBatteryCaches$State;", .fieldLink RX3 61 "BatteryCaches$State" "battery" "LBatteryCaches$Battery;", .fieldLink RX3 65 "BatteryCaches$Battery" "cycle" "I"] ++ wsX30 ++ wsX20 ++ wsX40 ++ wsX00)
def wsX4_holderOf : List Cond := .code yX4_holderOf cX4_holderOf 3 (some .int) :: ([.fieldLink RX4 25 "BatteryCaches$State" "kind" "[I", .fieldLink RX4 28 "BatteryCaches$State" "place" "[I"] ++ wsX40)
def wsX6_isLine : List Cond := .code yX6_isLine cX6_isLine 1 (some .boolean) :: ([])
def wsX4_lowestEmpty : List Cond := .code yX4_lowestEmpty cX4_lowestEmpty 2 (some .int) :: ([.fieldLink RX4 25 "BatteryCaches$State" "kind" "[I"] ++ wsX40)
def wsX4_lowestTurn : List Cond := .code yX4_lowestTurn cX4_lowestTurn 5 (some .int) :: ([.fieldLink RX4 25 "BatteryCaches$State" "kind" "[I", .fieldLink RX4 34 "BatteryCaches$State" "turn" "[I"] ++ wsX40)
def wsX4_lineToTake : List Cond := .code yX4_lineToTake cX4_lineToTake 2 (some .int) :: ([.methodLink RX4 108 yX4_lowestEmpty, .instanceMethod yX4_lowestEmpty, .selects RX4 yX4_lowestEmpty yX4_lowestEmpty, .initialized RX4, .code yX4_lowestEmpty cX4_lowestEmpty 2 (some .int), .fieldLink RX4 25 "BatteryCaches$State" "kind" "[I", .methodLink RX4 111 yX4_lowestTurn, .instanceMethod yX4_lowestTurn, .selects RX4 yX4_lowestTurn yX4_lowestTurn, .code yX4_lowestTurn cX4_lowestTurn 5 (some .int), .fieldLink RX4 34 "BatteryCaches$State" "turn" "[I"] ++ wsX40)
def wsX4_layOnDisk : List Cond := .code yX4_layOnDisk cX4_layOnDisk 3 none :: ([.fieldLink RX4 18 "BatteryCaches$State" "disk" "[I", .fieldLink RX4 22 "BatteryCaches$State" "laid" "[I", .fieldLink RX4 65 "BatteryCaches$State" "laidInAll" "I", .static yX6_isPlace, .initialized RX6, .code yX6_isPlace cX6_isPlace 1 (some .boolean)] ++ wsX40)
def wsX4_flushLine : List Cond := .code yX4_flushLine cX4_flushLine 2 none :: ([.fieldLink RX4 25 "BatteryCaches$State" "kind" "[I", .fieldLink RX4 28 "BatteryCaches$State" "place" "[I", .fieldLink RX4 31 "BatteryCaches$State" "value" "[I", .fieldLink RX4 50 "BatteryCaches$State" "flushed" "I", .static yX6_isLine, .initialized RX6, .code yX6_isLine cX6_isLine 1 (some .boolean), .methodLink RX4 91 yX4_layOnDisk, .instanceMethod yX4_layOnDisk, .selects RX4 yX4_layOnDisk yX4_layOnDisk, .initialized RX4, .code yX4_layOnDisk cX4_layOnDisk 3 none, .fieldLink RX4 18 "BatteryCaches$State" "disk" "[I", .fieldLink RX4 22 "BatteryCaches$State" "laid" "[I", .fieldLink RX4 65 "BatteryCaches$State" "laidInAll" "I", .static yX6_isPlace, .code yX6_isPlace cX6_isPlace 1 (some .boolean)] ++ wsX40)
def wsX4_layIntoLine : List Cond := .code yX4_layIntoLine cX4_layIntoLine 3 none :: ([.fieldLink RX4 25 "BatteryCaches$State" "kind" "[I", .fieldLink RX4 28 "BatteryCaches$State" "place" "[I", .fieldLink RX4 31 "BatteryCaches$State" "value" "[I", .fieldLink RX4 18 "BatteryCaches$State" "disk" "[I", .static yX6_isLine, .initialized RX6, .code yX6_isLine cX6_isLine 1 (some .boolean), .static yX6_isPlace, .code yX6_isPlace cX6_isPlace 1 (some .boolean)] ++ wsX40)
def wsX4_lineFor_r1 : List Cond := [Cond.fieldLink RX4 44 "BatteryCaches$State" "hits" "I", Cond.fieldLink RX4 47 "BatteryCaches$State" "misses" "I", Cond.fieldLink RX4 37 "BatteryCaches$State" "lastTurn" "I", Cond.fieldLink RX4 34 "BatteryCaches$State" "turn" "[I", Cond.methodLink RX4 95 yX4_holderOf, Cond.instanceMethod yX4_holderOf, Cond.selects RX4 yX4_holderOf yX4_holderOf, Cond.initialized RX4, Cond.code yX4_holderOf cX4_holderOf 3 (some .int), Cond.fieldLink RX4 25 "BatteryCaches$State" "kind" "[I", Cond.fieldLink RX4 28 "BatteryCaches$State" "place" "[I", Cond.static yX6_isLine, Cond.initialized RX6, Cond.code yX6_isLine cX6_isLine 1 (some .boolean), Cond.methodLink RX4 98 yX4_lineToTake, Cond.instanceMethod yX4_lineToTake, Cond.selects RX4 yX4_lineToTake yX4_lineToTake, Cond.code yX4_lineToTake cX4_lineToTake 2 (some .int), Cond.methodLink RX4 108 yX4_lowestEmpty, Cond.instanceMethod yX4_lowestEmpty, Cond.selects RX4 yX4_lowestEmpty yX4_lowestEmpty, Cond.code yX4_lowestEmpty cX4_lowestEmpty 2 (some .int), Cond.methodLink RX4 111 yX4_lowestTurn, Cond.instanceMethod yX4_lowestTurn]
def wsX4_lineFor_r2 : List Cond := [Cond.selects RX4 yX4_lowestTurn yX4_lowestTurn, Cond.code yX4_lowestTurn cX4_lowestTurn 5 (some .int), Cond.methodLink RX4 101 yX4_flushLine, Cond.instanceMethod yX4_flushLine, Cond.selects RX4 yX4_flushLine yX4_flushLine, Cond.code yX4_flushLine cX4_flushLine 2 none, Cond.fieldLink RX4 31 "BatteryCaches$State" "value" "[I", Cond.fieldLink RX4 50 "BatteryCaches$State" "flushed" "I", Cond.methodLink RX4 91 yX4_layOnDisk, Cond.instanceMethod yX4_layOnDisk, Cond.selects RX4 yX4_layOnDisk yX4_layOnDisk, Cond.code yX4_layOnDisk cX4_layOnDisk 3 none, Cond.fieldLink RX4 18 "BatteryCaches$State" "disk" "[I", Cond.fieldLink RX4 22 "BatteryCaches$State" "laid" "[I", Cond.fieldLink RX4 65 "BatteryCaches$State" "laidInAll" "I", Cond.static yX6_isPlace, Cond.code yX6_isPlace cX6_isPlace 1 (some .boolean), Cond.methodLink RX4 105 yX4_layIntoLine, Cond.instanceMethod yX4_layIntoLine, Cond.selects RX4 yX4_layIntoLine yX4_layIntoLine, Cond.code yX4_layIntoLine cX4_layIntoLine 3 none]
def wsX4_lineFor : List Cond := .code yX4_lineFor cX4_lineFor 3 (some .int) :: ((wsX4_lineFor_r1 ++ wsX4_lineFor_r2) ++ wsX40)
def wsX4_readPlace_r1 : List Cond := [Cond.fieldLink RX4 31 "BatteryCaches$State" "value" "[I", Cond.methodLink RX4 76 yX4_lineFor, Cond.instanceMethod yX4_lineFor, Cond.selects RX4 yX4_lineFor yX4_lineFor, Cond.initialized RX4, Cond.code yX4_lineFor cX4_lineFor 3 (some .int), Cond.fieldLink RX4 44 "BatteryCaches$State" "hits" "I", Cond.fieldLink RX4 47 "BatteryCaches$State" "misses" "I", Cond.fieldLink RX4 37 "BatteryCaches$State" "lastTurn" "I", Cond.fieldLink RX4 34 "BatteryCaches$State" "turn" "[I", Cond.methodLink RX4 95 yX4_holderOf, Cond.instanceMethod yX4_holderOf, Cond.selects RX4 yX4_holderOf yX4_holderOf, Cond.code yX4_holderOf cX4_holderOf 3 (some .int), Cond.fieldLink RX4 25 "BatteryCaches$State" "kind" "[I", Cond.fieldLink RX4 28 "BatteryCaches$State" "place" "[I", Cond.static yX6_isLine, Cond.initialized RX6, Cond.code yX6_isLine cX6_isLine 1 (some .boolean), Cond.methodLink RX4 98 yX4_lineToTake, Cond.instanceMethod yX4_lineToTake, Cond.selects RX4 yX4_lineToTake yX4_lineToTake, Cond.code yX4_lineToTake cX4_lineToTake 2 (some .int), Cond.methodLink RX4 108 yX4_lowestEmpty]
def wsX4_readPlace_r2 : List Cond := [Cond.instanceMethod yX4_lowestEmpty, Cond.selects RX4 yX4_lowestEmpty yX4_lowestEmpty, Cond.code yX4_lowestEmpty cX4_lowestEmpty 2 (some .int), Cond.methodLink RX4 111 yX4_lowestTurn, Cond.instanceMethod yX4_lowestTurn, Cond.selects RX4 yX4_lowestTurn yX4_lowestTurn, Cond.code yX4_lowestTurn cX4_lowestTurn 5 (some .int), Cond.methodLink RX4 101 yX4_flushLine, Cond.instanceMethod yX4_flushLine, Cond.selects RX4 yX4_flushLine yX4_flushLine, Cond.code yX4_flushLine cX4_flushLine 2 none, Cond.fieldLink RX4 50 "BatteryCaches$State" "flushed" "I", Cond.methodLink RX4 91 yX4_layOnDisk, Cond.instanceMethod yX4_layOnDisk, Cond.selects RX4 yX4_layOnDisk yX4_layOnDisk, Cond.code yX4_layOnDisk cX4_layOnDisk 3 none, Cond.fieldLink RX4 18 "BatteryCaches$State" "disk" "[I", Cond.fieldLink RX4 22 "BatteryCaches$State" "laid" "[I", Cond.fieldLink RX4 65 "BatteryCaches$State" "laidInAll" "I", Cond.static yX6_isPlace, Cond.code yX6_isPlace cX6_isPlace 1 (some .boolean), Cond.methodLink RX4 105 yX4_layIntoLine, Cond.instanceMethod yX4_layIntoLine, Cond.selects RX4 yX4_layIntoLine yX4_layIntoLine]
def wsX4_readPlace_r3 : List Cond := [Cond.code yX4_layIntoLine cX4_layIntoLine 3 none]
def wsX4_readPlace : List Cond := .code yX4_readPlace cX4_readPlace 3 (some .int) :: ((wsX4_readPlace_r1 ++ (wsX4_readPlace_r2 ++ wsX4_readPlace_r3)) ++ wsX40)
def wsX4_setOf : List Cond := .code yX4_setOf cX4_setOf 4 (some .int) :: ([.fieldLink RX4 25 "BatteryCaches$State" "kind" "[I"] ++ wsX40)
def wsJ6_bitCount_0f7a4 : List Cond := .code yJ6_bitCount_0f7a4 cJ6_bitCount_0f7a4 1 (some .int) :: ([.constant RJ6 265 (1431655765), .constant RJ6 266 (858993459), .constant RJ6 267 (252645135)])
def wsX4_numberOf : List Cond := .code yX4_numberOf cX4_numberOf 2 (some .int) :: ([.methodLink RX4 154 yX4_setOf, .instanceMethod yX4_setOf, .selects RX4 yX4_setOf yX4_setOf, .initialized RX4, .code yX4_setOf cX4_setOf 4 (some .int), .fieldLink RX4 25 "BatteryCaches$State" "kind" "[I", .methodLink RX4 157 yJ6_bitCount_0f7a4, .static yJ6_bitCount_0f7a4, .initialized RJ6, .code yJ6_bitCount_0f7a4 cJ6_bitCount_0f7a4 1 (some .int), .constant RJ6 265 (1431655765), .constant RJ6 266 (858993459), .constant RJ6 267 (252645135)] ++ wsX40)
def wsX4_writePlace_r1 : List Cond := [Cond.fieldLink RX4 31 "BatteryCaches$State" "value" "[I", Cond.fieldLink RX4 25 "BatteryCaches$State" "kind" "[I", Cond.fieldLink RX4 12 "BatteryCaches$State" "battery" "LBatteryCaches$Battery;", Cond.fieldLink RX4 53 "BatteryCaches$State" "wentThrough" "I", Cond.methodLink RX4 76 yX4_lineFor, Cond.instanceMethod yX4_lineFor, Cond.selects RX4 yX4_lineFor yX4_lineFor, Cond.initialized RX4, Cond.code yX4_lineFor cX4_lineFor 3 (some .int), Cond.fieldLink RX4 44 "BatteryCaches$State" "hits" "I", Cond.fieldLink RX4 47 "BatteryCaches$State" "misses" "I", Cond.fieldLink RX4 37 "BatteryCaches$State" "lastTurn" "I", Cond.fieldLink RX4 34 "BatteryCaches$State" "turn" "[I", Cond.methodLink RX4 95 yX4_holderOf, Cond.instanceMethod yX4_holderOf, Cond.selects RX4 yX4_holderOf yX4_holderOf, Cond.code yX4_holderOf cX4_holderOf 3 (some .int), Cond.fieldLink RX4 28 "BatteryCaches$State" "place" "[I", Cond.static yX6_isLine, Cond.initialized RX6, Cond.code yX6_isLine cX6_isLine 1 (some .boolean), Cond.methodLink RX4 98 yX4_lineToTake, Cond.instanceMethod yX4_lineToTake, Cond.selects RX4 yX4_lineToTake yX4_lineToTake]
def wsX4_writePlace_r2 : List Cond := [Cond.code yX4_lineToTake cX4_lineToTake 2 (some .int), Cond.methodLink RX4 108 yX4_lowestEmpty, Cond.instanceMethod yX4_lowestEmpty, Cond.selects RX4 yX4_lowestEmpty yX4_lowestEmpty, Cond.code yX4_lowestEmpty cX4_lowestEmpty 2 (some .int), Cond.methodLink RX4 111 yX4_lowestTurn, Cond.instanceMethod yX4_lowestTurn, Cond.selects RX4 yX4_lowestTurn yX4_lowestTurn, Cond.code yX4_lowestTurn cX4_lowestTurn 5 (some .int), Cond.methodLink RX4 101 yX4_flushLine, Cond.instanceMethod yX4_flushLine, Cond.selects RX4 yX4_flushLine yX4_flushLine, Cond.code yX4_flushLine cX4_flushLine 2 none, Cond.fieldLink RX4 50 "BatteryCaches$State" "flushed" "I", Cond.methodLink RX4 91 yX4_layOnDisk, Cond.instanceMethod yX4_layOnDisk, Cond.selects RX4 yX4_layOnDisk yX4_layOnDisk, Cond.code yX4_layOnDisk cX4_layOnDisk 3 none, Cond.fieldLink RX4 18 "BatteryCaches$State" "disk" "[I", Cond.fieldLink RX4 22 "BatteryCaches$State" "laid" "[I", Cond.fieldLink RX4 65 "BatteryCaches$State" "laidInAll" "I", Cond.static yX6_isPlace, Cond.code yX6_isPlace cX6_isPlace 1 (some .boolean), Cond.methodLink RX4 105 yX4_layIntoLine]
def wsX4_writePlace_r3 : List Cond := [Cond.instanceMethod yX4_layIntoLine, Cond.selects RX4 yX4_layIntoLine yX4_layIntoLine, Cond.code yX4_layIntoLine cX4_layIntoLine 3 none, Cond.methodLink RX4 84 yX4_numberOf, Cond.instanceMethod yX4_numberOf, Cond.selects RX4 yX4_numberOf yX4_numberOf, Cond.code yX4_numberOf cX4_numberOf 2 (some .int), Cond.methodLink RX4 154 yX4_setOf, Cond.instanceMethod yX4_setOf, Cond.selects RX4 yX4_setOf yX4_setOf, Cond.code yX4_setOf cX4_setOf 4 (some .int), Cond.methodLink RX4 157 yJ6_bitCount_0f7a4, Cond.static yJ6_bitCount_0f7a4, Cond.initialized RJ6, Cond.code yJ6_bitCount_0f7a4 cJ6_bitCount_0f7a4 1 (some .int), Cond.constant RJ6 265 (1431655765), Cond.constant RJ6 266 (858993459), Cond.constant RJ6 267 (252645135), Cond.methodLink RX4 87 yX0_allowance, Cond.instanceMethod yX0_allowance, Cond.selects RX0 yX0_allowance yX0_allowance, Cond.initialized RX0, Cond.code yX0_allowance cX0_allowance 1 (some .int), Cond.fieldLink RX0 18 "BatteryCaches$Battery" "cycle" "I"]
def wsX4_writePlace_r4 : List Cond := [Cond.methodLink RX0 33 yX0_savable, Cond.instanceMethod yX0_savable, Cond.selects RX0 yX0_savable yX0_savable, Cond.code yX0_savable cX0_savable 1 (some .int), Cond.fieldLink RX0 9 "BatteryCaches$Battery" "charge" "I", Cond.fieldLink RX0 24 "BatteryCaches$Battery" "cutCost" "I", Cond.fieldLink RX0 21 "BatteryCaches$Battery" "lineCost" "I", Cond.methodLink RX0 37 Lib.Math.min.name, Cond.static Lib.Math.min.name, Cond.initialized "java/lang/Math", Cond.code Lib.Math.min.name Lib.Math.min.code 2 (some .int)]
def wsX4_writePlace : List Cond := .code yX4_writePlace cX4_writePlace 4 (some .int) :: ((wsX4_writePlace_r1 ++ (wsX4_writePlace_r2 ++ (wsX4_writePlace_r3 ++ wsX4_writePlace_r4))) ++ wsX40 ++ wsX00)
def wsX4_tooMany_r1 : List Cond := [Cond.fieldLink RX4 12 "BatteryCaches$State" "battery" "LBatteryCaches$Battery;", Cond.methodLink RX4 139 Lib.Math.max.name, Cond.static Lib.Math.max.name, Cond.initialized "java/lang/Math", Cond.code Lib.Math.max.name Lib.Math.max.code 2 (some .int), Cond.methodLink RX4 84 yX4_numberOf, Cond.instanceMethod yX4_numberOf, Cond.selects RX4 yX4_numberOf yX4_numberOf, Cond.initialized RX4, Cond.code yX4_numberOf cX4_numberOf 2 (some .int), Cond.methodLink RX4 154 yX4_setOf, Cond.instanceMethod yX4_setOf, Cond.selects RX4 yX4_setOf yX4_setOf, Cond.code yX4_setOf cX4_setOf 4 (some .int), Cond.fieldLink RX4 25 "BatteryCaches$State" "kind" "[I", Cond.methodLink RX4 157 yJ6_bitCount_0f7a4, Cond.static yJ6_bitCount_0f7a4, Cond.initialized RJ6, Cond.code yJ6_bitCount_0f7a4 cJ6_bitCount_0f7a4 1 (some .int), Cond.constant RJ6 265 (1431655765), Cond.constant RJ6 266 (858993459), Cond.constant RJ6 267 (252645135), Cond.methodLink RX4 87 yX0_allowance, Cond.instanceMethod yX0_allowance]
def wsX4_tooMany_r2 : List Cond := [Cond.selects RX0 yX0_allowance yX0_allowance, Cond.initialized RX0, Cond.code yX0_allowance cX0_allowance 1 (some .int), Cond.fieldLink RX0 18 "BatteryCaches$Battery" "cycle" "I", Cond.methodLink RX0 33 yX0_savable, Cond.instanceMethod yX0_savable, Cond.selects RX0 yX0_savable yX0_savable, Cond.code yX0_savable cX0_savable 1 (some .int), Cond.fieldLink RX0 9 "BatteryCaches$Battery" "charge" "I", Cond.fieldLink RX0 24 "BatteryCaches$Battery" "cutCost" "I", Cond.fieldLink RX0 21 "BatteryCaches$Battery" "lineCost" "I", Cond.methodLink RX0 37 Lib.Math.min.name, Cond.static Lib.Math.min.name, Cond.code Lib.Math.min.name Lib.Math.min.code 2 (some .int)]
def wsX4_tooMany : List Cond := .code yX4_tooMany cX4_tooMany 1 (some .int) :: ((wsX4_tooMany_r1 ++ wsX4_tooMany_r2) ++ wsX40 ++ wsX00)
def wsX4_flushLowest_r1 : List Cond := [Cond.methodLink RX4 111 yX4_lowestTurn, Cond.instanceMethod yX4_lowestTurn, Cond.selects RX4 yX4_lowestTurn yX4_lowestTurn, Cond.initialized RX4, Cond.code yX4_lowestTurn cX4_lowestTurn 5 (some .int), Cond.fieldLink RX4 25 "BatteryCaches$State" "kind" "[I", Cond.fieldLink RX4 34 "BatteryCaches$State" "turn" "[I", Cond.methodLink RX4 101 yX4_flushLine, Cond.instanceMethod yX4_flushLine, Cond.selects RX4 yX4_flushLine yX4_flushLine, Cond.code yX4_flushLine cX4_flushLine 2 none, Cond.fieldLink RX4 28 "BatteryCaches$State" "place" "[I", Cond.fieldLink RX4 31 "BatteryCaches$State" "value" "[I", Cond.fieldLink RX4 50 "BatteryCaches$State" "flushed" "I", Cond.static yX6_isLine, Cond.initialized RX6, Cond.code yX6_isLine cX6_isLine 1 (some .boolean), Cond.methodLink RX4 91 yX4_layOnDisk, Cond.instanceMethod yX4_layOnDisk, Cond.selects RX4 yX4_layOnDisk yX4_layOnDisk, Cond.code yX4_layOnDisk cX4_layOnDisk 3 none, Cond.fieldLink RX4 18 "BatteryCaches$State" "disk" "[I", Cond.fieldLink RX4 22 "BatteryCaches$State" "laid" "[I", Cond.fieldLink RX4 65 "BatteryCaches$State" "laidInAll" "I"]
def wsX4_flushLowest_r2 : List Cond := [Cond.static yX6_isPlace, Cond.code yX6_isPlace cX6_isPlace 1 (some .boolean)]
def wsX4_flushLowest : List Cond := .code yX4_flushLowest cX4_flushLowest 3 (some .int) :: ((wsX4_flushLowest_r1 ++ wsX4_flushLowest_r2) ++ wsX40)
def wsX4_passTicks_r1 : List Cond := [Cond.fieldLink RX4 50 "BatteryCaches$State" "flushed" "I", Cond.fieldLink RX4 41 "BatteryCaches$State" "ticks" "I", Cond.fieldLink RX4 12 "BatteryCaches$State" "battery" "LBatteryCaches$Battery;", Cond.fieldLink RX4 62 "BatteryCaches$State" "cyclesEnded" "I", Cond.methodLink RX4 117 yX0_passTick, Cond.instanceMethod yX0_passTick, Cond.selects RX0 yX0_passTick yX0_passTick, Cond.initialized RX0, Cond.code yX0_passTick cX0_passTick 1 (some .boolean), Cond.fieldLink RX0 18 "BatteryCaches$Battery" "cycle" "I", Cond.fieldLink RX0 9 "BatteryCaches$Battery" "charge" "I", Cond.fieldLink RX0 27 "BatteryCaches$Battery" "rise" "I", Cond.methodLink RX0 37 Lib.Math.min.name, Cond.static Lib.Math.min.name, Cond.initialized "java/lang/Math", Cond.code Lib.Math.min.name Lib.Math.min.code 2 (some .int), Cond.methodLink RX0 54 yX0_fallInCycle, Cond.instanceMethod yX0_fallInCycle, Cond.selects RX0 yX0_fallInCycle yX0_fallInCycle, Cond.code yX0_fallInCycle cX0_fallInCycle 1 none, Cond.fieldLink RX0 30 "BatteryCaches$Battery" "fall" "I", Cond.fieldLink RX0 15 "BatteryCaches$Battery" "wear" "I", Cond.methodLink RX0 50 yX0_useUp, Cond.instanceMethod yX0_useUp]
def wsX4_passTicks_r2 : List Cond := [Cond.selects RX0 yX0_useUp yX0_useUp, Cond.code yX0_useUp cX0_useUp 2 none, Cond.methodLink RX0 43 Lib.Math.max.name, Cond.static Lib.Math.max.name, Cond.code Lib.Math.max.name Lib.Math.max.code 2 (some .int), Cond.methodLink RX0 57 yX0_capacity, Cond.instanceMethod yX0_capacity, Cond.selects RX0 yX0_capacity yX0_capacity, Cond.code yX0_capacity cX0_capacity 1 (some .int), Cond.methodLink RX4 121 yX4_tooMany, Cond.instanceMethod yX4_tooMany, Cond.selects RX4 yX4_tooMany yX4_tooMany, Cond.initialized RX4, Cond.code yX4_tooMany cX4_tooMany 1 (some .int), Cond.methodLink RX4 139 Lib.Math.max.name, Cond.methodLink RX4 84 yX4_numberOf, Cond.instanceMethod yX4_numberOf, Cond.selects RX4 yX4_numberOf yX4_numberOf, Cond.code yX4_numberOf cX4_numberOf 2 (some .int), Cond.methodLink RX4 154 yX4_setOf, Cond.instanceMethod yX4_setOf, Cond.selects RX4 yX4_setOf yX4_setOf, Cond.code yX4_setOf cX4_setOf 4 (some .int), Cond.fieldLink RX4 25 "BatteryCaches$State" "kind" "[I"]
def wsX4_passTicks_r3 : List Cond := [Cond.methodLink RX4 157 yJ6_bitCount_0f7a4, Cond.static yJ6_bitCount_0f7a4, Cond.initialized RJ6, Cond.code yJ6_bitCount_0f7a4 cJ6_bitCount_0f7a4 1 (some .int), Cond.constant RJ6 265 (1431655765), Cond.constant RJ6 266 (858993459), Cond.constant RJ6 267 (252645135), Cond.methodLink RX4 87 yX0_allowance, Cond.instanceMethod yX0_allowance, Cond.selects RX0 yX0_allowance yX0_allowance, Cond.code yX0_allowance cX0_allowance 1 (some .int), Cond.methodLink RX0 33 yX0_savable, Cond.instanceMethod yX0_savable, Cond.selects RX0 yX0_savable yX0_savable, Cond.code yX0_savable cX0_savable 1 (some .int), Cond.fieldLink RX0 24 "BatteryCaches$Battery" "cutCost" "I", Cond.fieldLink RX0 21 "BatteryCaches$Battery" "lineCost" "I", Cond.methodLink RX4 124 yX4_flushLowest, Cond.instanceMethod yX4_flushLowest, Cond.selects RX4 yX4_flushLowest yX4_flushLowest, Cond.code yX4_flushLowest cX4_flushLowest 3 (some .int), Cond.methodLink RX4 111 yX4_lowestTurn, Cond.instanceMethod yX4_lowestTurn, Cond.selects RX4 yX4_lowestTurn yX4_lowestTurn]
def wsX4_passTicks_r4 : List Cond := [Cond.code yX4_lowestTurn cX4_lowestTurn 5 (some .int), Cond.fieldLink RX4 34 "BatteryCaches$State" "turn" "[I", Cond.methodLink RX4 101 yX4_flushLine, Cond.instanceMethod yX4_flushLine, Cond.selects RX4 yX4_flushLine yX4_flushLine, Cond.code yX4_flushLine cX4_flushLine 2 none, Cond.fieldLink RX4 28 "BatteryCaches$State" "place" "[I", Cond.fieldLink RX4 31 "BatteryCaches$State" "value" "[I", Cond.static yX6_isLine, Cond.initialized RX6, Cond.code yX6_isLine cX6_isLine 1 (some .boolean), Cond.methodLink RX4 91 yX4_layOnDisk, Cond.instanceMethod yX4_layOnDisk, Cond.selects RX4 yX4_layOnDisk yX4_layOnDisk, Cond.code yX4_layOnDisk cX4_layOnDisk 3 none, Cond.fieldLink RX4 18 "BatteryCaches$State" "disk" "[I", Cond.fieldLink RX4 22 "BatteryCaches$State" "laid" "[I", Cond.fieldLink RX4 65 "BatteryCaches$State" "laidInAll" "I", Cond.static yX6_isPlace, Cond.code yX6_isPlace cX6_isPlace 1 (some .boolean)]
def wsX4_passTicks : List Cond := .code yX4_passTicks cX4_passTicks 4 (some .int) :: ((wsX4_passTicks_r1 ++ (wsX4_passTicks_r2 ++ (wsX4_passTicks_r3 ++ wsX4_passTicks_r4))) ++ wsX40 ++ wsX00)
def wsX4_putLoad_r1 : List Cond := [Cond.fieldLink RX4 12 "BatteryCaches$State" "battery" "LBatteryCaches$Battery;", Cond.methodLink RX4 127 yX0_useUp, Cond.instanceMethod yX0_useUp, Cond.selects RX0 yX0_useUp yX0_useUp, Cond.initialized RX0, Cond.code yX0_useUp cX0_useUp 2 none, Cond.fieldLink RX0 9 "BatteryCaches$Battery" "charge" "I", Cond.methodLink RX0 43 Lib.Math.max.name, Cond.static Lib.Math.max.name, Cond.initialized "java/lang/Math", Cond.code Lib.Math.max.name Lib.Math.max.code 2 (some .int), Cond.methodLink RX4 121 yX4_tooMany, Cond.instanceMethod yX4_tooMany, Cond.selects RX4 yX4_tooMany yX4_tooMany, Cond.initialized RX4, Cond.code yX4_tooMany cX4_tooMany 1 (some .int), Cond.methodLink RX4 139 Lib.Math.max.name, Cond.methodLink RX4 84 yX4_numberOf, Cond.instanceMethod yX4_numberOf, Cond.selects RX4 yX4_numberOf yX4_numberOf, Cond.code yX4_numberOf cX4_numberOf 2 (some .int), Cond.methodLink RX4 154 yX4_setOf, Cond.instanceMethod yX4_setOf, Cond.selects RX4 yX4_setOf yX4_setOf]
def wsX4_putLoad_r2 : List Cond := [Cond.code yX4_setOf cX4_setOf 4 (some .int), Cond.fieldLink RX4 25 "BatteryCaches$State" "kind" "[I", Cond.methodLink RX4 157 yJ6_bitCount_0f7a4, Cond.static yJ6_bitCount_0f7a4, Cond.initialized RJ6, Cond.code yJ6_bitCount_0f7a4 cJ6_bitCount_0f7a4 1 (some .int), Cond.constant RJ6 265 (1431655765), Cond.constant RJ6 266 (858993459), Cond.constant RJ6 267 (252645135), Cond.methodLink RX4 87 yX0_allowance, Cond.instanceMethod yX0_allowance, Cond.selects RX0 yX0_allowance yX0_allowance, Cond.code yX0_allowance cX0_allowance 1 (some .int), Cond.fieldLink RX0 18 "BatteryCaches$Battery" "cycle" "I", Cond.methodLink RX0 33 yX0_savable, Cond.instanceMethod yX0_savable, Cond.selects RX0 yX0_savable yX0_savable, Cond.code yX0_savable cX0_savable 1 (some .int), Cond.fieldLink RX0 24 "BatteryCaches$Battery" "cutCost" "I", Cond.fieldLink RX0 21 "BatteryCaches$Battery" "lineCost" "I", Cond.methodLink RX0 37 Lib.Math.min.name, Cond.static Lib.Math.min.name, Cond.code Lib.Math.min.name Lib.Math.min.code 2 (some .int), Cond.methodLink RX4 124 yX4_flushLowest]
def wsX4_putLoad_r3 : List Cond := [Cond.instanceMethod yX4_flushLowest, Cond.selects RX4 yX4_flushLowest yX4_flushLowest, Cond.code yX4_flushLowest cX4_flushLowest 3 (some .int), Cond.methodLink RX4 111 yX4_lowestTurn, Cond.instanceMethod yX4_lowestTurn, Cond.selects RX4 yX4_lowestTurn yX4_lowestTurn, Cond.code yX4_lowestTurn cX4_lowestTurn 5 (some .int), Cond.fieldLink RX4 34 "BatteryCaches$State" "turn" "[I", Cond.methodLink RX4 101 yX4_flushLine, Cond.instanceMethod yX4_flushLine, Cond.selects RX4 yX4_flushLine yX4_flushLine, Cond.code yX4_flushLine cX4_flushLine 2 none, Cond.fieldLink RX4 28 "BatteryCaches$State" "place" "[I", Cond.fieldLink RX4 31 "BatteryCaches$State" "value" "[I", Cond.fieldLink RX4 50 "BatteryCaches$State" "flushed" "I", Cond.static yX6_isLine, Cond.initialized RX6, Cond.code yX6_isLine cX6_isLine 1 (some .boolean), Cond.methodLink RX4 91 yX4_layOnDisk, Cond.instanceMethod yX4_layOnDisk, Cond.selects RX4 yX4_layOnDisk yX4_layOnDisk, Cond.code yX4_layOnDisk cX4_layOnDisk 3 none, Cond.fieldLink RX4 18 "BatteryCaches$State" "disk" "[I", Cond.fieldLink RX4 22 "BatteryCaches$State" "laid" "[I"]
def wsX4_putLoad_r4 : List Cond := [Cond.fieldLink RX4 65 "BatteryCaches$State" "laidInAll" "I", Cond.static yX6_isPlace, Cond.code yX6_isPlace cX6_isPlace 1 (some .boolean)]
def wsX4_putLoad : List Cond := .code yX4_putLoad cX4_putLoad 2 (some .int) :: ((wsX4_putLoad_r1 ++ (wsX4_putLoad_r2 ++ (wsX4_putLoad_r3 ++ wsX4_putLoad_r4))) ++ wsX40 ++ wsX00)
def wsX4_savedByCut_r1 : List Cond := [Cond.fieldLink RX4 12 "BatteryCaches$State" "battery" "LBatteryCaches$Battery;", Cond.methodLink RX4 148 Lib.Math.min.name, Cond.static Lib.Math.min.name, Cond.initialized "java/lang/Math", Cond.code Lib.Math.min.name Lib.Math.min.code 2 (some .int), Cond.methodLink RX4 84 yX4_numberOf, Cond.instanceMethod yX4_numberOf, Cond.selects RX4 yX4_numberOf yX4_numberOf, Cond.initialized RX4, Cond.code yX4_numberOf cX4_numberOf 2 (some .int), Cond.methodLink RX4 154 yX4_setOf, Cond.instanceMethod yX4_setOf, Cond.selects RX4 yX4_setOf yX4_setOf, Cond.code yX4_setOf cX4_setOf 4 (some .int), Cond.fieldLink RX4 25 "BatteryCaches$State" "kind" "[I", Cond.methodLink RX4 157 yJ6_bitCount_0f7a4, Cond.static yJ6_bitCount_0f7a4, Cond.initialized RJ6, Cond.code yJ6_bitCount_0f7a4 cJ6_bitCount_0f7a4 1 (some .int), Cond.constant RJ6 265 (1431655765), Cond.constant RJ6 266 (858993459), Cond.constant RJ6 267 (252645135), Cond.methodLink RX4 145 yX0_savable, Cond.instanceMethod yX0_savable]
def wsX4_savedByCut_r2 : List Cond := [Cond.selects RX0 yX0_savable yX0_savable, Cond.initialized RX0, Cond.code yX0_savable cX0_savable 1 (some .int), Cond.fieldLink RX0 9 "BatteryCaches$Battery" "charge" "I", Cond.fieldLink RX0 24 "BatteryCaches$Battery" "cutCost" "I", Cond.fieldLink RX0 21 "BatteryCaches$Battery" "lineCost" "I", Cond.methodLink RX0 37 Lib.Math.min.name]
def wsX4_savedByCut : List Cond := .code yX4_savedByCut cX4_savedByCut 1 (some .int) :: ((wsX4_savedByCut_r1 ++ wsX4_savedByCut_r2) ++ wsX40 ++ wsX00)
def wsX4_cutPower_r1 : List Cond := [Cond.fieldLink RX4 12 "BatteryCaches$State" "battery" "LBatteryCaches$Battery;", Cond.fieldLink RX4 25 "BatteryCaches$State" "kind" "[I", Cond.fieldLink RX4 56 "BatteryCaches$State" "lost" "I", Cond.fieldLink RX4 59 "BatteryCaches$State" "cuts" "I", Cond.methodLink RX4 133 yX4_savedByCut, Cond.instanceMethod yX4_savedByCut, Cond.selects RX4 yX4_savedByCut yX4_savedByCut, Cond.initialized RX4, Cond.code yX4_savedByCut cX4_savedByCut 1 (some .int), Cond.methodLink RX4 148 Lib.Math.min.name, Cond.static Lib.Math.min.name, Cond.initialized "java/lang/Math", Cond.code Lib.Math.min.name Lib.Math.min.code 2 (some .int), Cond.methodLink RX4 84 yX4_numberOf, Cond.instanceMethod yX4_numberOf, Cond.selects RX4 yX4_numberOf yX4_numberOf, Cond.code yX4_numberOf cX4_numberOf 2 (some .int), Cond.methodLink RX4 154 yX4_setOf, Cond.instanceMethod yX4_setOf, Cond.selects RX4 yX4_setOf yX4_setOf, Cond.code yX4_setOf cX4_setOf 4 (some .int), Cond.methodLink RX4 157 yJ6_bitCount_0f7a4, Cond.static yJ6_bitCount_0f7a4, Cond.initialized RJ6]
def wsX4_cutPower_r2 : List Cond := [Cond.code yJ6_bitCount_0f7a4 cJ6_bitCount_0f7a4 1 (some .int), Cond.constant RJ6 265 (1431655765), Cond.constant RJ6 266 (858993459), Cond.constant RJ6 267 (252645135), Cond.methodLink RX4 145 yX0_savable, Cond.instanceMethod yX0_savable, Cond.selects RX0 yX0_savable yX0_savable, Cond.initialized RX0, Cond.code yX0_savable cX0_savable 1 (some .int), Cond.fieldLink RX0 9 "BatteryCaches$Battery" "charge" "I", Cond.fieldLink RX0 24 "BatteryCaches$Battery" "cutCost" "I", Cond.fieldLink RX0 21 "BatteryCaches$Battery" "lineCost" "I", Cond.methodLink RX0 37 Lib.Math.min.name, Cond.methodLink RX4 124 yX4_flushLowest, Cond.instanceMethod yX4_flushLowest, Cond.selects RX4 yX4_flushLowest yX4_flushLowest, Cond.code yX4_flushLowest cX4_flushLowest 3 (some .int), Cond.methodLink RX4 111 yX4_lowestTurn, Cond.instanceMethod yX4_lowestTurn, Cond.selects RX4 yX4_lowestTurn yX4_lowestTurn, Cond.code yX4_lowestTurn cX4_lowestTurn 5 (some .int), Cond.fieldLink RX4 34 "BatteryCaches$State" "turn" "[I", Cond.methodLink RX4 101 yX4_flushLine, Cond.instanceMethod yX4_flushLine]
def wsX4_cutPower_r3 : List Cond := [Cond.selects RX4 yX4_flushLine yX4_flushLine, Cond.code yX4_flushLine cX4_flushLine 2 none, Cond.fieldLink RX4 28 "BatteryCaches$State" "place" "[I", Cond.fieldLink RX4 31 "BatteryCaches$State" "value" "[I", Cond.fieldLink RX4 50 "BatteryCaches$State" "flushed" "I", Cond.static yX6_isLine, Cond.initialized RX6, Cond.code yX6_isLine cX6_isLine 1 (some .boolean), Cond.methodLink RX4 91 yX4_layOnDisk, Cond.instanceMethod yX4_layOnDisk, Cond.selects RX4 yX4_layOnDisk yX4_layOnDisk, Cond.code yX4_layOnDisk cX4_layOnDisk 3 none, Cond.fieldLink RX4 18 "BatteryCaches$State" "disk" "[I", Cond.fieldLink RX4 22 "BatteryCaches$State" "laid" "[I", Cond.fieldLink RX4 65 "BatteryCaches$State" "laidInAll" "I", Cond.static yX6_isPlace, Cond.code yX6_isPlace cX6_isPlace 1 (some .boolean), Cond.methodLink RX4 136 yX0_saveAtCut, Cond.instanceMethod yX0_saveAtCut, Cond.selects RX0 yX0_saveAtCut yX0_saveAtCut, Cond.code yX0_saveAtCut cX0_saveAtCut 2 none, Cond.fieldLink RX0 18 "BatteryCaches$Battery" "cycle" "I", Cond.methodLink RX0 46 yX0_costToSave, Cond.instanceMethod yX0_costToSave]
def wsX4_cutPower_r4 : List Cond := [Cond.selects RX0 yX0_costToSave yX0_costToSave, Cond.code yX0_costToSave cX0_costToSave 2 (some .int), Cond.methodLink RX0 50 yX0_useUp, Cond.instanceMethod yX0_useUp, Cond.selects RX0 yX0_useUp yX0_useUp, Cond.code yX0_useUp cX0_useUp 2 none, Cond.methodLink RX0 43 Lib.Math.max.name, Cond.static Lib.Math.max.name, Cond.code Lib.Math.max.name Lib.Math.max.code 2 (some .int)]
def wsX4_cutPower : List Cond := .code yX4_cutPower cX4_cutPower 4 (some .int) :: ((wsX4_cutPower_r1 ++ (wsX4_cutPower_r2 ++ (wsX4_cutPower_r3 ++ wsX4_cutPower_r4))) ++ wsX40 ++ wsX00)
def wsX4_beginCycle_r1 : List Cond := [Cond.fieldLink RX4 12 "BatteryCaches$State" "battery" "LBatteryCaches$Battery;", Cond.fieldLink RX4 130 "BatteryCaches$Battery" "cycle" "I", Cond.methodLink RX4 121 yX4_tooMany, Cond.instanceMethod yX4_tooMany, Cond.selects RX4 yX4_tooMany yX4_tooMany, Cond.initialized RX4, Cond.code yX4_tooMany cX4_tooMany 1 (some .int), Cond.methodLink RX4 139 Lib.Math.max.name, Cond.static Lib.Math.max.name, Cond.initialized "java/lang/Math", Cond.code Lib.Math.max.name Lib.Math.max.code 2 (some .int), Cond.methodLink RX4 84 yX4_numberOf, Cond.instanceMethod yX4_numberOf, Cond.selects RX4 yX4_numberOf yX4_numberOf, Cond.code yX4_numberOf cX4_numberOf 2 (some .int), Cond.methodLink RX4 154 yX4_setOf, Cond.instanceMethod yX4_setOf, Cond.selects RX4 yX4_setOf yX4_setOf, Cond.code yX4_setOf cX4_setOf 4 (some .int), Cond.fieldLink RX4 25 "BatteryCaches$State" "kind" "[I", Cond.methodLink RX4 157 yJ6_bitCount_0f7a4, Cond.static yJ6_bitCount_0f7a4, Cond.initialized RJ6, Cond.code yJ6_bitCount_0f7a4 cJ6_bitCount_0f7a4 1 (some .int)]
def wsX4_beginCycle_r2 : List Cond := [Cond.constant RJ6 265 (1431655765), Cond.constant RJ6 266 (858993459), Cond.constant RJ6 267 (252645135), Cond.methodLink RX4 87 yX0_allowance, Cond.instanceMethod yX0_allowance, Cond.selects RX0 yX0_allowance yX0_allowance, Cond.initialized RX0, Cond.code yX0_allowance cX0_allowance 1 (some .int), Cond.fieldLink RX0 18 "BatteryCaches$Battery" "cycle" "I", Cond.methodLink RX0 33 yX0_savable, Cond.instanceMethod yX0_savable, Cond.selects RX0 yX0_savable yX0_savable, Cond.code yX0_savable cX0_savable 1 (some .int), Cond.fieldLink RX0 9 "BatteryCaches$Battery" "charge" "I", Cond.fieldLink RX0 24 "BatteryCaches$Battery" "cutCost" "I", Cond.fieldLink RX0 21 "BatteryCaches$Battery" "lineCost" "I", Cond.methodLink RX0 37 Lib.Math.min.name, Cond.static Lib.Math.min.name, Cond.code Lib.Math.min.name Lib.Math.min.code 2 (some .int), Cond.methodLink RX4 124 yX4_flushLowest, Cond.instanceMethod yX4_flushLowest, Cond.selects RX4 yX4_flushLowest yX4_flushLowest, Cond.code yX4_flushLowest cX4_flushLowest 3 (some .int), Cond.methodLink RX4 111 yX4_lowestTurn]
def wsX4_beginCycle_r3 : List Cond := [Cond.instanceMethod yX4_lowestTurn, Cond.selects RX4 yX4_lowestTurn yX4_lowestTurn, Cond.code yX4_lowestTurn cX4_lowestTurn 5 (some .int), Cond.fieldLink RX4 34 "BatteryCaches$State" "turn" "[I", Cond.methodLink RX4 101 yX4_flushLine, Cond.instanceMethod yX4_flushLine, Cond.selects RX4 yX4_flushLine yX4_flushLine, Cond.code yX4_flushLine cX4_flushLine 2 none, Cond.fieldLink RX4 28 "BatteryCaches$State" "place" "[I", Cond.fieldLink RX4 31 "BatteryCaches$State" "value" "[I", Cond.fieldLink RX4 50 "BatteryCaches$State" "flushed" "I", Cond.static yX6_isLine, Cond.initialized RX6, Cond.code yX6_isLine cX6_isLine 1 (some .boolean), Cond.methodLink RX4 91 yX4_layOnDisk, Cond.instanceMethod yX4_layOnDisk, Cond.selects RX4 yX4_layOnDisk yX4_layOnDisk, Cond.code yX4_layOnDisk cX4_layOnDisk 3 none, Cond.fieldLink RX4 18 "BatteryCaches$State" "disk" "[I", Cond.fieldLink RX4 22 "BatteryCaches$State" "laid" "[I", Cond.fieldLink RX4 65 "BatteryCaches$State" "laidInAll" "I", Cond.static yX6_isPlace, Cond.code yX6_isPlace cX6_isPlace 1 (some .boolean)]
def wsX4_beginCycle : List Cond := .code yX4_beginCycle cX4_beginCycle 1 (some .int) :: ((wsX4_beginCycle_r1 ++ (wsX4_beginCycle_r2 ++ wsX4_beginCycle_r3)) ++ wsX40 ++ wsX00)
def wsX3_perform_r1 : List Cond := [Cond.fieldLink RX3 21 "BatteryCaches$Rehearsal" "order" "LBatteryCaches$Order;", Cond.fieldLink RX3 58 "BatteryCaches$Order" "letter" "I", Cond.fieldLink RX3 12 "BatteryCaches$Rehearsal" "trial" "LBatteryCaches$State;", Cond.fieldLink RX3 70 "BatteryCaches$Order" "number" "I", Cond.fieldLink RX3 77 "BatteryCaches$Order" "newValue" "I", Cond.methodLink RX3 73 yX4_readPlace, Cond.instanceMethod yX4_readPlace, Cond.selects RX4 yX4_readPlace yX4_readPlace, Cond.initialized RX4, Cond.code yX4_readPlace cX4_readPlace 3 (some .int), Cond.fieldLink RX4 31 "BatteryCaches$State" "value" "[I", Cond.methodLink RX4 76 yX4_lineFor, Cond.instanceMethod yX4_lineFor, Cond.selects RX4 yX4_lineFor yX4_lineFor, Cond.code yX4_lineFor cX4_lineFor 3 (some .int), Cond.fieldLink RX4 44 "BatteryCaches$State" "hits" "I", Cond.fieldLink RX4 47 "BatteryCaches$State" "misses" "I", Cond.fieldLink RX4 37 "BatteryCaches$State" "lastTurn" "I", Cond.fieldLink RX4 34 "BatteryCaches$State" "turn" "[I", Cond.methodLink RX4 95 yX4_holderOf, Cond.instanceMethod yX4_holderOf, Cond.selects RX4 yX4_holderOf yX4_holderOf, Cond.code yX4_holderOf cX4_holderOf 3 (some .int), Cond.fieldLink RX4 25 "BatteryCaches$State" "kind" "[I"]
def wsX3_perform_r2 : List Cond := [Cond.fieldLink RX4 28 "BatteryCaches$State" "place" "[I", Cond.static yX6_isLine, Cond.initialized RX6, Cond.code yX6_isLine cX6_isLine 1 (some .boolean), Cond.methodLink RX4 98 yX4_lineToTake, Cond.instanceMethod yX4_lineToTake, Cond.selects RX4 yX4_lineToTake yX4_lineToTake, Cond.code yX4_lineToTake cX4_lineToTake 2 (some .int), Cond.methodLink RX4 108 yX4_lowestEmpty, Cond.instanceMethod yX4_lowestEmpty, Cond.selects RX4 yX4_lowestEmpty yX4_lowestEmpty, Cond.code yX4_lowestEmpty cX4_lowestEmpty 2 (some .int), Cond.methodLink RX4 111 yX4_lowestTurn, Cond.instanceMethod yX4_lowestTurn, Cond.selects RX4 yX4_lowestTurn yX4_lowestTurn, Cond.code yX4_lowestTurn cX4_lowestTurn 5 (some .int), Cond.methodLink RX4 101 yX4_flushLine, Cond.instanceMethod yX4_flushLine, Cond.selects RX4 yX4_flushLine yX4_flushLine, Cond.code yX4_flushLine cX4_flushLine 2 none, Cond.fieldLink RX4 50 "BatteryCaches$State" "flushed" "I", Cond.methodLink RX4 91 yX4_layOnDisk, Cond.instanceMethod yX4_layOnDisk, Cond.selects RX4 yX4_layOnDisk yX4_layOnDisk]
def wsX3_perform_r3 : List Cond := [Cond.code yX4_layOnDisk cX4_layOnDisk 3 none, Cond.fieldLink RX4 18 "BatteryCaches$State" "disk" "[I", Cond.fieldLink RX4 22 "BatteryCaches$State" "laid" "[I", Cond.fieldLink RX4 65 "BatteryCaches$State" "laidInAll" "I", Cond.static yX6_isPlace, Cond.code yX6_isPlace cX6_isPlace 1 (some .boolean), Cond.methodLink RX4 105 yX4_layIntoLine, Cond.instanceMethod yX4_layIntoLine, Cond.selects RX4 yX4_layIntoLine yX4_layIntoLine, Cond.code yX4_layIntoLine cX4_layIntoLine 3 none, Cond.methodLink RX3 80 yX4_writePlace, Cond.instanceMethod yX4_writePlace, Cond.selects RX4 yX4_writePlace yX4_writePlace, Cond.code yX4_writePlace cX4_writePlace 4 (some .int), Cond.fieldLink RX4 12 "BatteryCaches$State" "battery" "LBatteryCaches$Battery;", Cond.fieldLink RX4 53 "BatteryCaches$State" "wentThrough" "I", Cond.methodLink RX4 84 yX4_numberOf, Cond.instanceMethod yX4_numberOf, Cond.selects RX4 yX4_numberOf yX4_numberOf, Cond.code yX4_numberOf cX4_numberOf 2 (some .int), Cond.methodLink RX4 154 yX4_setOf, Cond.instanceMethod yX4_setOf, Cond.selects RX4 yX4_setOf yX4_setOf, Cond.code yX4_setOf cX4_setOf 4 (some .int)]
def wsX3_perform_r4 : List Cond := [Cond.methodLink RX4 157 yJ6_bitCount_0f7a4, Cond.static yJ6_bitCount_0f7a4, Cond.initialized RJ6, Cond.code yJ6_bitCount_0f7a4 cJ6_bitCount_0f7a4 1 (some .int), Cond.constant RJ6 265 (1431655765), Cond.constant RJ6 266 (858993459), Cond.constant RJ6 267 (252645135), Cond.methodLink RX4 87 yX0_allowance, Cond.instanceMethod yX0_allowance, Cond.selects RX0 yX0_allowance yX0_allowance, Cond.initialized RX0, Cond.code yX0_allowance cX0_allowance 1 (some .int), Cond.fieldLink RX0 18 "BatteryCaches$Battery" "cycle" "I", Cond.methodLink RX0 33 yX0_savable, Cond.instanceMethod yX0_savable, Cond.selects RX0 yX0_savable yX0_savable, Cond.code yX0_savable cX0_savable 1 (some .int), Cond.fieldLink RX0 9 "BatteryCaches$Battery" "charge" "I", Cond.fieldLink RX0 24 "BatteryCaches$Battery" "cutCost" "I", Cond.fieldLink RX0 21 "BatteryCaches$Battery" "lineCost" "I", Cond.methodLink RX0 37 Lib.Math.min.name, Cond.static Lib.Math.min.name, Cond.initialized "java/lang/Math", Cond.code Lib.Math.min.name Lib.Math.min.code 2 (some .int)]
def wsX3_perform_r5 : List Cond := [Cond.methodLink RX3 84 yX4_passTicks, Cond.instanceMethod yX4_passTicks, Cond.selects RX4 yX4_passTicks yX4_passTicks, Cond.code yX4_passTicks cX4_passTicks 4 (some .int), Cond.fieldLink RX4 41 "BatteryCaches$State" "ticks" "I", Cond.fieldLink RX4 62 "BatteryCaches$State" "cyclesEnded" "I", Cond.methodLink RX4 117 yX0_passTick, Cond.instanceMethod yX0_passTick, Cond.selects RX0 yX0_passTick yX0_passTick, Cond.code yX0_passTick cX0_passTick 1 (some .boolean), Cond.fieldLink RX0 27 "BatteryCaches$Battery" "rise" "I", Cond.methodLink RX0 54 yX0_fallInCycle, Cond.instanceMethod yX0_fallInCycle, Cond.selects RX0 yX0_fallInCycle yX0_fallInCycle, Cond.code yX0_fallInCycle cX0_fallInCycle 1 none, Cond.fieldLink RX0 30 "BatteryCaches$Battery" "fall" "I", Cond.fieldLink RX0 15 "BatteryCaches$Battery" "wear" "I", Cond.methodLink RX0 50 yX0_useUp, Cond.instanceMethod yX0_useUp, Cond.selects RX0 yX0_useUp yX0_useUp, Cond.code yX0_useUp cX0_useUp 2 none, Cond.methodLink RX0 43 Lib.Math.max.name, Cond.static Lib.Math.max.name, Cond.code Lib.Math.max.name Lib.Math.max.code 2 (some .int)]
def wsX3_perform_r6 : List Cond := [Cond.methodLink RX0 57 yX0_capacity, Cond.instanceMethod yX0_capacity, Cond.selects RX0 yX0_capacity yX0_capacity, Cond.code yX0_capacity cX0_capacity 1 (some .int), Cond.methodLink RX4 121 yX4_tooMany, Cond.instanceMethod yX4_tooMany, Cond.selects RX4 yX4_tooMany yX4_tooMany, Cond.code yX4_tooMany cX4_tooMany 1 (some .int), Cond.methodLink RX4 139 Lib.Math.max.name, Cond.methodLink RX4 124 yX4_flushLowest, Cond.instanceMethod yX4_flushLowest, Cond.selects RX4 yX4_flushLowest yX4_flushLowest, Cond.code yX4_flushLowest cX4_flushLowest 3 (some .int), Cond.methodLink RX3 87 yX4_putLoad, Cond.instanceMethod yX4_putLoad, Cond.selects RX4 yX4_putLoad yX4_putLoad, Cond.code yX4_putLoad cX4_putLoad 2 (some .int), Cond.methodLink RX4 127 yX0_useUp, Cond.methodLink RX3 90 yX4_cutPower, Cond.instanceMethod yX4_cutPower, Cond.selects RX4 yX4_cutPower yX4_cutPower, Cond.code yX4_cutPower cX4_cutPower 4 (some .int), Cond.fieldLink RX4 56 "BatteryCaches$State" "lost" "I", Cond.fieldLink RX4 59 "BatteryCaches$State" "cuts" "I"]
def wsX3_perform_r7 : List Cond := [Cond.methodLink RX4 133 yX4_savedByCut, Cond.instanceMethod yX4_savedByCut, Cond.selects RX4 yX4_savedByCut yX4_savedByCut, Cond.code yX4_savedByCut cX4_savedByCut 1 (some .int), Cond.methodLink RX4 148 Lib.Math.min.name, Cond.methodLink RX4 145 yX0_savable, Cond.methodLink RX4 136 yX0_saveAtCut, Cond.instanceMethod yX0_saveAtCut, Cond.selects RX0 yX0_saveAtCut yX0_saveAtCut, Cond.code yX0_saveAtCut cX0_saveAtCut 2 none, Cond.methodLink RX0 46 yX0_costToSave, Cond.instanceMethod yX0_costToSave, Cond.selects RX0 yX0_costToSave yX0_costToSave, Cond.code yX0_costToSave cX0_costToSave 2 (some .int), Cond.methodLink RX3 94 yX4_beginCycle, Cond.instanceMethod yX4_beginCycle, Cond.selects RX4 yX4_beginCycle yX4_beginCycle, Cond.code yX4_beginCycle cX4_beginCycle 1 (some .int), Cond.fieldLink RX4 130 "BatteryCaches$Battery" "cycle" "I"]
def wsX3_perform : List Cond := .code yX3_perform cX3_perform 1 none :: ((wsX3_perform_r1 ++ (wsX3_perform_r2 ++ (wsX3_perform_r3 ++ (wsX3_perform_r4 ++ (wsX3_perform_r5 ++ (wsX3_perform_r6 ++ wsX3_perform_r7)))))) ++ wsX30 ++ wsX20 ++ wsX40 ++ wsX00)
def wsX3_run_r1 : List Cond := [Cond.fieldLink RX3 12 "BatteryCaches$Rehearsal" "trial" "LBatteryCaches$State;", Cond.fieldLink RX3 21 "BatteryCaches$Rehearsal" "order" "LBatteryCaches$Order;", Cond.fieldLink RX3 25 "BatteryCaches$Rehearsal" "done" "I", Cond.fieldLink RX3 36 "BatteryCaches$Order" "next" "I", Cond.fieldLink RX3 39 "BatteryCaches$Text" "length" "I", Cond.fieldLink RX3 48 "BatteryCaches$Order" "reason" "I", Cond.methodLink RX3 29 yX4_copy, Cond.static yX4_copy, Cond.initialized RX4, Cond.code yX4_copy cX4_copy 2 none, Cond.fieldLink RX4 12 "BatteryCaches$State" "battery" "LBatteryCaches$Battery;", Cond.fieldLink RX4 18 "BatteryCaches$State" "disk" "[I", Cond.fieldLink RX4 22 "BatteryCaches$State" "laid" "[I", Cond.fieldLink RX4 25 "BatteryCaches$State" "kind" "[I", Cond.fieldLink RX4 28 "BatteryCaches$State" "place" "[I", Cond.fieldLink RX4 31 "BatteryCaches$State" "value" "[I", Cond.fieldLink RX4 34 "BatteryCaches$State" "turn" "[I", Cond.fieldLink RX4 37 "BatteryCaches$State" "lastTurn" "I", Cond.fieldLink RX4 41 "BatteryCaches$State" "ticks" "I", Cond.fieldLink RX4 44 "BatteryCaches$State" "hits" "I", Cond.fieldLink RX4 47 "BatteryCaches$State" "misses" "I", Cond.fieldLink RX4 50 "BatteryCaches$State" "flushed" "I", Cond.fieldLink RX4 53 "BatteryCaches$State" "wentThrough" "I", Cond.fieldLink RX4 56 "BatteryCaches$State" "lost" "I"]
def wsX3_run_r2 : List Cond := [Cond.fieldLink RX4 59 "BatteryCaches$State" "cuts" "I", Cond.fieldLink RX4 62 "BatteryCaches$State" "cyclesEnded" "I", Cond.fieldLink RX4 65 "BatteryCaches$State" "laidInAll" "I", Cond.methodLink RX4 68 yX0_copyFrom, Cond.instanceMethod yX0_copyFrom, Cond.selects RX0 yX0_copyFrom yX0_copyFrom, Cond.initialized RX0, Cond.code yX0_copyFrom cX0_copyFrom 2 none, Cond.fieldLink RX0 9 "BatteryCaches$Battery" "charge" "I", Cond.fieldLink RX0 15 "BatteryCaches$Battery" "wear" "I", Cond.fieldLink RX0 18 "BatteryCaches$Battery" "cycle" "I", Cond.fieldLink RX0 21 "BatteryCaches$Battery" "lineCost" "I", Cond.fieldLink RX0 24 "BatteryCaches$Battery" "cutCost" "I", Cond.fieldLink RX0 27 "BatteryCaches$Battery" "rise" "I", Cond.fieldLink RX0 30 "BatteryCaches$Battery" "fall" "I", Cond.static yX6_copyRow, Cond.initialized RX6, Cond.code yX6_copyRow cX6_copyRow 2 none, Cond.methodLink RX6 253 Lib.Math.min.name, Cond.static Lib.Math.min.name, Cond.initialized "java/lang/Math", Cond.code Lib.Math.min.name Lib.Math.min.code 2 (some .int), Cond.methodLink RX6 256 arraycopyName, Cond.native arraycopyName]
def wsX3_run_r3 : List Cond := [Cond.static arraycopyName, Cond.initialized "java/lang/System", Cond.methodLink RX3 33 yX2_beginText, Cond.instanceMethod yX2_beginText, Cond.selects RX2 yX2_beginText yX2_beginText, Cond.initialized RX2, Cond.code yX2_beginText cX2_beginText 1 none, Cond.fieldLink RX2 15 "BatteryCaches$Order" "next" "I", Cond.fieldLink RX2 27 "BatteryCaches$Order" "reason" "I", Cond.methodLink RX3 44 yX2_readNext, Cond.instanceMethod yX2_readNext, Cond.selects RX2 yX2_readNext yX2_readNext, Cond.code yX2_readNext cX2_readNext 2 none, Cond.fieldLink RX2 9 "BatteryCaches$Order" "start" "I", Cond.fieldLink RX2 30 "BatteryCaches$Order" "cause" "I", Cond.fieldLink RX2 21 "BatteryCaches$Order" "number" "I", Cond.methodLink RX2 33 yX2_hasForm, Cond.instanceMethod yX2_hasForm, Cond.selects RX2 yX2_hasForm yX2_hasForm, Cond.code yX2_hasForm cX2_hasForm 2 (some .boolean), Cond.fieldLink RX2 18 "BatteryCaches$Order" "letter" "I", Cond.methodLink RX2 41 yX5_at, Cond.instanceMethod yX5_at, Cond.selects RX5 yX5_at yX5_at]
def wsX3_run_r4 : List Cond := [Cond.initialized RX5, Cond.code yX5_at cX5_at 3 (some .int), Cond.fieldLink RX5 15 "BatteryCaches$Text" "length" "I", Cond.fieldLink RX5 9 "BatteryCaches$Text" "characters" "[I", Cond.methodLink RX2 47 yX2_readNumber, Cond.instanceMethod yX2_readNumber, Cond.selects RX2 yX2_readNumber yX2_readNumber, Cond.code yX2_readNumber cX2_readNumber 4 (some .int), Cond.static yX6_isWithin, Cond.code yX6_isWithin cX6_isWithin 3 (some .boolean), Cond.methodLink RX2 51 yX2_readSign, Cond.instanceMethod yX2_readSign, Cond.selects RX2 yX2_readSign yX2_readSign, Cond.code yX2_readSign cX2_readSign 3 (some .boolean), Cond.methodLink RX2 55 yX2_hasFormOfWrite, Cond.instanceMethod yX2_hasFormOfWrite, Cond.selects RX2 yX2_hasFormOfWrite yX2_hasFormOfWrite, Cond.code yX2_hasFormOfWrite cX2_hasFormOfWrite 2 (some .boolean), Cond.fieldLink RX2 24 "BatteryCaches$Order" "newValue" "I", Cond.methodLink RX2 37 yX2_isInRange, Cond.instanceMethod yX2_isInRange, Cond.selects RX2 yX2_isInRange yX2_isInRange, Cond.code yX2_isInRange cX2_isInRange 1 (some .boolean), Cond.static yX6_isPlace]
def wsX3_run_r5 : List Cond := [Cond.code yX6_isPlace cX6_isPlace 1 (some .boolean), Cond.methodLink RX3 51 yX3_isPossible, Cond.instanceMethod yX3_isPossible, Cond.selects RX3 yX3_isPossible yX3_isPossible, Cond.initialized RX3, Cond.code yX3_isPossible cX3_isPossible 1 (some .boolean), Cond.fieldLink RX3 58 "BatteryCaches$Order" "letter" "I", Cond.fieldLink RX3 61 "BatteryCaches$State" "battery" "LBatteryCaches$Battery;", Cond.fieldLink RX3 65 "BatteryCaches$Battery" "cycle" "I", Cond.methodLink RX3 55 yX3_perform, Cond.instanceMethod yX3_perform, Cond.selects RX3 yX3_perform yX3_perform, Cond.code yX3_perform cX3_perform 1 none, Cond.fieldLink RX3 70 "BatteryCaches$Order" "number" "I", Cond.fieldLink RX3 77 "BatteryCaches$Order" "newValue" "I", Cond.methodLink RX3 73 yX4_readPlace, Cond.instanceMethod yX4_readPlace, Cond.selects RX4 yX4_readPlace yX4_readPlace, Cond.code yX4_readPlace cX4_readPlace 3 (some .int), Cond.methodLink RX4 76 yX4_lineFor, Cond.instanceMethod yX4_lineFor, Cond.selects RX4 yX4_lineFor yX4_lineFor, Cond.code yX4_lineFor cX4_lineFor 3 (some .int), Cond.methodLink RX4 95 yX4_holderOf]
def wsX3_run_r6 : List Cond := [Cond.instanceMethod yX4_holderOf, Cond.selects RX4 yX4_holderOf yX4_holderOf, Cond.code yX4_holderOf cX4_holderOf 3 (some .int), Cond.static yX6_isLine, Cond.code yX6_isLine cX6_isLine 1 (some .boolean), Cond.methodLink RX4 98 yX4_lineToTake, Cond.instanceMethod yX4_lineToTake, Cond.selects RX4 yX4_lineToTake yX4_lineToTake, Cond.code yX4_lineToTake cX4_lineToTake 2 (some .int), Cond.methodLink RX4 108 yX4_lowestEmpty, Cond.instanceMethod yX4_lowestEmpty, Cond.selects RX4 yX4_lowestEmpty yX4_lowestEmpty, Cond.code yX4_lowestEmpty cX4_lowestEmpty 2 (some .int), Cond.methodLink RX4 111 yX4_lowestTurn, Cond.instanceMethod yX4_lowestTurn, Cond.selects RX4 yX4_lowestTurn yX4_lowestTurn, Cond.code yX4_lowestTurn cX4_lowestTurn 5 (some .int), Cond.methodLink RX4 101 yX4_flushLine, Cond.instanceMethod yX4_flushLine, Cond.selects RX4 yX4_flushLine yX4_flushLine, Cond.code yX4_flushLine cX4_flushLine 2 none, Cond.methodLink RX4 91 yX4_layOnDisk, Cond.instanceMethod yX4_layOnDisk, Cond.selects RX4 yX4_layOnDisk yX4_layOnDisk]
def wsX3_run_r7 : List Cond := [Cond.code yX4_layOnDisk cX4_layOnDisk 3 none, Cond.methodLink RX4 105 yX4_layIntoLine, Cond.instanceMethod yX4_layIntoLine, Cond.selects RX4 yX4_layIntoLine yX4_layIntoLine, Cond.code yX4_layIntoLine cX4_layIntoLine 3 none, Cond.methodLink RX3 80 yX4_writePlace, Cond.instanceMethod yX4_writePlace, Cond.selects RX4 yX4_writePlace yX4_writePlace, Cond.code yX4_writePlace cX4_writePlace 4 (some .int), Cond.methodLink RX4 84 yX4_numberOf, Cond.instanceMethod yX4_numberOf, Cond.selects RX4 yX4_numberOf yX4_numberOf, Cond.code yX4_numberOf cX4_numberOf 2 (some .int), Cond.methodLink RX4 154 yX4_setOf, Cond.instanceMethod yX4_setOf, Cond.selects RX4 yX4_setOf yX4_setOf, Cond.code yX4_setOf cX4_setOf 4 (some .int), Cond.methodLink RX4 157 yJ6_bitCount_0f7a4, Cond.static yJ6_bitCount_0f7a4, Cond.initialized RJ6, Cond.code yJ6_bitCount_0f7a4 cJ6_bitCount_0f7a4 1 (some .int), Cond.constant RJ6 265 (1431655765), Cond.constant RJ6 266 (858993459), Cond.constant RJ6 267 (252645135)]
def wsX3_run_r8 : List Cond := [Cond.methodLink RX4 87 yX0_allowance, Cond.instanceMethod yX0_allowance, Cond.selects RX0 yX0_allowance yX0_allowance, Cond.code yX0_allowance cX0_allowance 1 (some .int), Cond.methodLink RX0 33 yX0_savable, Cond.instanceMethod yX0_savable, Cond.selects RX0 yX0_savable yX0_savable, Cond.code yX0_savable cX0_savable 1 (some .int), Cond.methodLink RX0 37 Lib.Math.min.name, Cond.methodLink RX3 84 yX4_passTicks, Cond.instanceMethod yX4_passTicks, Cond.selects RX4 yX4_passTicks yX4_passTicks, Cond.code yX4_passTicks cX4_passTicks 4 (some .int), Cond.methodLink RX4 117 yX0_passTick, Cond.instanceMethod yX0_passTick, Cond.selects RX0 yX0_passTick yX0_passTick, Cond.code yX0_passTick cX0_passTick 1 (some .boolean), Cond.methodLink RX0 54 yX0_fallInCycle, Cond.instanceMethod yX0_fallInCycle, Cond.selects RX0 yX0_fallInCycle yX0_fallInCycle, Cond.code yX0_fallInCycle cX0_fallInCycle 1 none, Cond.methodLink RX0 50 yX0_useUp, Cond.instanceMethod yX0_useUp, Cond.selects RX0 yX0_useUp yX0_useUp]
def wsX3_run_r9 : List Cond := [Cond.code yX0_useUp cX0_useUp 2 none, Cond.methodLink RX0 43 Lib.Math.max.name, Cond.static Lib.Math.max.name, Cond.code Lib.Math.max.name Lib.Math.max.code 2 (some .int), Cond.methodLink RX0 57 yX0_capacity, Cond.instanceMethod yX0_capacity, Cond.selects RX0 yX0_capacity yX0_capacity, Cond.code yX0_capacity cX0_capacity 1 (some .int), Cond.methodLink RX4 121 yX4_tooMany, Cond.instanceMethod yX4_tooMany, Cond.selects RX4 yX4_tooMany yX4_tooMany, Cond.code yX4_tooMany cX4_tooMany 1 (some .int), Cond.methodLink RX4 139 Lib.Math.max.name, Cond.methodLink RX4 124 yX4_flushLowest, Cond.instanceMethod yX4_flushLowest, Cond.selects RX4 yX4_flushLowest yX4_flushLowest, Cond.code yX4_flushLowest cX4_flushLowest 3 (some .int), Cond.methodLink RX3 87 yX4_putLoad, Cond.instanceMethod yX4_putLoad, Cond.selects RX4 yX4_putLoad yX4_putLoad, Cond.code yX4_putLoad cX4_putLoad 2 (some .int), Cond.methodLink RX4 127 yX0_useUp, Cond.methodLink RX3 90 yX4_cutPower, Cond.instanceMethod yX4_cutPower]
def wsX3_run_r10 : List Cond := [Cond.selects RX4 yX4_cutPower yX4_cutPower, Cond.code yX4_cutPower cX4_cutPower 4 (some .int), Cond.methodLink RX4 133 yX4_savedByCut, Cond.instanceMethod yX4_savedByCut, Cond.selects RX4 yX4_savedByCut yX4_savedByCut, Cond.code yX4_savedByCut cX4_savedByCut 1 (some .int), Cond.methodLink RX4 148 Lib.Math.min.name, Cond.methodLink RX4 145 yX0_savable, Cond.methodLink RX4 136 yX0_saveAtCut, Cond.instanceMethod yX0_saveAtCut, Cond.selects RX0 yX0_saveAtCut yX0_saveAtCut, Cond.code yX0_saveAtCut cX0_saveAtCut 2 none, Cond.methodLink RX0 46 yX0_costToSave, Cond.instanceMethod yX0_costToSave, Cond.selects RX0 yX0_costToSave yX0_costToSave, Cond.code yX0_costToSave cX0_costToSave 2 (some .int), Cond.methodLink RX3 94 yX4_beginCycle, Cond.instanceMethod yX4_beginCycle, Cond.selects RX4 yX4_beginCycle yX4_beginCycle, Cond.code yX4_beginCycle cX4_beginCycle 1 (some .int), Cond.fieldLink RX4 130 "BatteryCaches$Battery" "cycle" "I"]
def wsX3_run : List Cond := .code yX3_run cX3_run 4 none :: ((wsX3_run_r1 ++ (wsX3_run_r2 ++ (wsX3_run_r3 ++ (wsX3_run_r4 ++ (wsX3_run_r5 ++ (wsX3_run_r6 ++ (wsX3_run_r7 ++ (wsX3_run_r8 ++ (wsX3_run_r9 ++ wsX3_run_r10))))))))) ++ wsX30 ++ wsX20 ++ wsX50 ++ wsX40 ++ wsX00)
def wsX4_linesAhead : List Cond := .code yX4_linesAhead cX4_linesAhead 5 (some .int) :: ([.fieldLink RX4 25 "BatteryCaches$State" "kind" "[I", .fieldLink RX4 34 "BatteryCaches$State" "turn" "[I", .static yX6_isLine, .initialized RX6, .code yX6_isLine cX6_isLine 1 (some .boolean)] ++ wsX40)
def wsX4_lostByCut_r1 : List Cond := [Cond.fieldLink RX4 25 "BatteryCaches$State" "kind" "[I", Cond.methodLink RX4 133 yX4_savedByCut, Cond.instanceMethod yX4_savedByCut, Cond.selects RX4 yX4_savedByCut yX4_savedByCut, Cond.initialized RX4, Cond.code yX4_savedByCut cX4_savedByCut 1 (some .int), Cond.fieldLink RX4 12 "BatteryCaches$State" "battery" "LBatteryCaches$Battery;", Cond.methodLink RX4 148 Lib.Math.min.name, Cond.static Lib.Math.min.name, Cond.initialized "java/lang/Math", Cond.code Lib.Math.min.name Lib.Math.min.code 2 (some .int), Cond.methodLink RX4 84 yX4_numberOf, Cond.instanceMethod yX4_numberOf, Cond.selects RX4 yX4_numberOf yX4_numberOf, Cond.code yX4_numberOf cX4_numberOf 2 (some .int), Cond.methodLink RX4 154 yX4_setOf, Cond.instanceMethod yX4_setOf, Cond.selects RX4 yX4_setOf yX4_setOf, Cond.code yX4_setOf cX4_setOf 4 (some .int), Cond.methodLink RX4 157 yJ6_bitCount_0f7a4, Cond.static yJ6_bitCount_0f7a4, Cond.initialized RJ6, Cond.code yJ6_bitCount_0f7a4 cJ6_bitCount_0f7a4 1 (some .int), Cond.constant RJ6 265 (1431655765)]
def wsX4_lostByCut_r2 : List Cond := [Cond.constant RJ6 266 (858993459), Cond.constant RJ6 267 (252645135), Cond.methodLink RX4 145 yX0_savable, Cond.instanceMethod yX0_savable, Cond.selects RX0 yX0_savable yX0_savable, Cond.initialized RX0, Cond.code yX0_savable cX0_savable 1 (some .int), Cond.fieldLink RX0 9 "BatteryCaches$Battery" "charge" "I", Cond.fieldLink RX0 24 "BatteryCaches$Battery" "cutCost" "I", Cond.fieldLink RX0 21 "BatteryCaches$Battery" "lineCost" "I", Cond.methodLink RX0 37 Lib.Math.min.name, Cond.methodLink RX4 151 yX4_linesAhead, Cond.instanceMethod yX4_linesAhead, Cond.selects RX4 yX4_linesAhead yX4_linesAhead, Cond.code yX4_linesAhead cX4_linesAhead 5 (some .int), Cond.fieldLink RX4 34 "BatteryCaches$State" "turn" "[I", Cond.static yX6_isLine, Cond.initialized RX6, Cond.code yX6_isLine cX6_isLine 1 (some .boolean)]
def wsX4_lostByCut : List Cond := .code yX4_lostByCut cX4_lostByCut 4 (some .int) :: ((wsX4_lostByCut_r1 ++ wsX4_lostByCut_r2) ++ wsX40 ++ wsX00)
def wsX4_distanceToDirty : List Cond := .code yX4_distanceToDirty cX4_distanceToDirty 4 (some .int) :: ([.fieldLink RX4 25 "BatteryCaches$State" "kind" "[I", .fieldLink RX4 28 "BatteryCaches$State" "place" "[I", .methodLink RX4 165 Lib.Math.abs.name, .static Lib.Math.abs.name, .initialized "java/lang/Math", .code Lib.Math.abs.name Lib.Math.abs.code 1 (some .int), .methodLink RX4 148 Lib.Math.min.name, .static Lib.Math.min.name, .code Lib.Math.min.name Lib.Math.min.code 2 (some .int), .static yX6_isLine, .initialized RX6, .code yX6_isLine cX6_isLine 1 (some .boolean)] ++ wsX40)
def wsX4_nearestPair : List Cond := .code yX4_nearestPair cX4_nearestPair 6 (some .int) :: ([.fieldLink RX4 25 "BatteryCaches$State" "kind" "[I", .fieldLink RX4 34 "BatteryCaches$State" "turn" "[I", .methodLink RX4 162 yX4_distanceToDirty, .instanceMethod yX4_distanceToDirty, .selects RX4 yX4_distanceToDirty yX4_distanceToDirty, .initialized RX4, .code yX4_distanceToDirty cX4_distanceToDirty 4 (some .int), .fieldLink RX4 28 "BatteryCaches$State" "place" "[I", .methodLink RX4 165 Lib.Math.abs.name, .static Lib.Math.abs.name, .initialized "java/lang/Math", .code Lib.Math.abs.name Lib.Math.abs.code 1 (some .int), .methodLink RX4 148 Lib.Math.min.name, .static Lib.Math.min.name, .code Lib.Math.min.name Lib.Math.min.code 2 (some .int), .static yX6_isLine, .initialized RX6, .code yX6_isLine cX6_isLine 1 (some .boolean)] ++ wsX40)
def wsX5_init : List Cond := .code yX5_init cX5_init 1 none :: ([.methodLink RX5 3 objectInit, .instanceMethod objectInit, .code objectInit ⟨#[0xb1]⟩ 1 none, .arrayClass .int, .fieldLink RX5 9 "BatteryCaches$Text" "characters" "[I", .fieldLink RX5 15 "BatteryCaches$Text" "length" "I"] ++ wsX50)
def wsX5_append : List Cond := .code yX5_append cX5_append 2 none :: ([.fieldLink RX5 15 "BatteryCaches$Text" "length" "I", .fieldLink RX5 9 "BatteryCaches$Text" "characters" "[I", .static yX6_isWithin, .initialized RX6, .code yX6_isWithin cX6_isWithin 3 (some .boolean)] ++ wsX50)
def wsX6_init_r1 : List Cond := [Cond.methodLink RX6 1 objectInit, Cond.instanceMethod objectInit, Cond.code objectInit ⟨#[0xb1]⟩ 1 none, Cond.classLink RX6 7 RX4, Cond.instantiable RX4 17, Cond.initialized RX4, Cond.fieldLink RX6 10 "BatteryCaches" "now" "LBatteryCaches$State;", Cond.classLink RX6 16 RX1, Cond.instantiable RX1 2, Cond.initialized RX1, Cond.fieldLink RX6 19 "BatteryCaches" "history" "LBatteryCaches$History;", Cond.classLink RX6 23 RX5, Cond.instantiable RX5 2, Cond.initialized RX5, Cond.fieldLink RX6 26 "BatteryCaches" "text" "LBatteryCaches$Text;", Cond.classLink RX6 30 RX3, Cond.instantiable RX3 3, Cond.initialized RX3, Cond.fieldLink RX6 33 "BatteryCaches" "rehearsal" "LBatteryCaches$Rehearsal;", Cond.classLink RX6 37 RX0, Cond.instantiable RX0 7, Cond.initialized RX0, Cond.fieldLink RX6 40 "BatteryCaches" "trialBattery" "LBatteryCaches$Battery;", Cond.instanceMethod yX4_init]
def wsX6_init_r2 : List Cond := [Cond.code yX4_init cX4_init 1 none, Cond.methodLink RX4 3 objectInit, Cond.classLink RX4 9 RX0, Cond.fieldLink RX4 12 "BatteryCaches$State" "battery" "LBatteryCaches$Battery;", Cond.arrayClass .int, Cond.fieldLink RX4 18 "BatteryCaches$State" "disk" "[I", Cond.fieldLink RX4 22 "BatteryCaches$State" "laid" "[I", Cond.fieldLink RX4 25 "BatteryCaches$State" "kind" "[I", Cond.fieldLink RX4 28 "BatteryCaches$State" "place" "[I", Cond.fieldLink RX4 31 "BatteryCaches$State" "value" "[I", Cond.fieldLink RX4 34 "BatteryCaches$State" "turn" "[I", Cond.fieldLink RX4 37 "BatteryCaches$State" "lastTurn" "I", Cond.fieldLink RX4 41 "BatteryCaches$State" "ticks" "I", Cond.fieldLink RX4 44 "BatteryCaches$State" "hits" "I", Cond.fieldLink RX4 47 "BatteryCaches$State" "misses" "I", Cond.fieldLink RX4 50 "BatteryCaches$State" "flushed" "I", Cond.fieldLink RX4 53 "BatteryCaches$State" "wentThrough" "I", Cond.fieldLink RX4 56 "BatteryCaches$State" "lost" "I", Cond.fieldLink RX4 59 "BatteryCaches$State" "cuts" "I", Cond.fieldLink RX4 62 "BatteryCaches$State" "cyclesEnded" "I", Cond.fieldLink RX4 65 "BatteryCaches$State" "laidInAll" "I", Cond.instanceMethod yX0_init, Cond.code yX0_init cX0_init 1 none, Cond.methodLink RX0 3 objectInit]
def wsX6_init_r3 : List Cond := [Cond.fieldLink RX0 9 "BatteryCaches$Battery" "charge" "I", Cond.fieldLink RX0 15 "BatteryCaches$Battery" "wear" "I", Cond.fieldLink RX0 18 "BatteryCaches$Battery" "cycle" "I", Cond.fieldLink RX0 21 "BatteryCaches$Battery" "lineCost" "I", Cond.fieldLink RX0 24 "BatteryCaches$Battery" "cutCost" "I", Cond.fieldLink RX0 27 "BatteryCaches$Battery" "rise" "I", Cond.fieldLink RX0 30 "BatteryCaches$Battery" "fall" "I", Cond.methodLink RX6 18 yX1_init, Cond.instanceMethod yX1_init, Cond.code yX1_init cX1_init 2 none, Cond.methodLink RX1 3 objectInit, Cond.classLink RX1 9 RX4, Cond.fieldLink RX1 11 "BatteryCaches$History" "states" "[LBatteryCaches$State;", Cond.fieldLink RX1 17 "BatteryCaches$History" "size" "I", Cond.instanceMethod yX5_init, Cond.code yX5_init cX5_init 1 none, Cond.methodLink RX5 3 objectInit, Cond.fieldLink RX5 9 "BatteryCaches$Text" "characters" "[I", Cond.fieldLink RX5 15 "BatteryCaches$Text" "length" "I", Cond.instanceMethod yX3_init, Cond.code yX3_init cX3_init 1 none, Cond.methodLink RX3 3 objectInit, Cond.classLink RX3 9 RX4, Cond.fieldLink RX3 12 "BatteryCaches$Rehearsal" "trial" "LBatteryCaches$State;"]
def wsX6_init_r4 : List Cond := [Cond.classLink RX3 18 RX2, Cond.instantiable RX2 7, Cond.initialized RX2, Cond.fieldLink RX3 21 "BatteryCaches$Rehearsal" "order" "LBatteryCaches$Order;", Cond.fieldLink RX3 25 "BatteryCaches$Rehearsal" "done" "I", Cond.instanceMethod yX2_init, Cond.code yX2_init cX2_init 1 none, Cond.methodLink RX2 3 objectInit, Cond.fieldLink RX2 9 "BatteryCaches$Order" "start" "I", Cond.fieldLink RX2 15 "BatteryCaches$Order" "next" "I", Cond.fieldLink RX2 18 "BatteryCaches$Order" "letter" "I", Cond.fieldLink RX2 21 "BatteryCaches$Order" "number" "I", Cond.fieldLink RX2 24 "BatteryCaches$Order" "newValue" "I", Cond.fieldLink RX2 27 "BatteryCaches$Order" "reason" "I", Cond.fieldLink RX2 30 "BatteryCaches$Order" "cause" "I"]
def wsX6_init : List Cond := .code yX6_init cX6_init 1 none :: ((wsX6_init_r1 ++ (wsX6_init_r2 ++ (wsX6_init_r3 ++ wsX6_init_r4))) ++ wsX40 ++ wsX60 ++ wsX10 ++ wsX50 ++ wsX30 ++ wsX00 ++ wsX20)
def wsX6_read_r1 : List Cond := [Cond.constant RX6 48 (-1000001), Cond.fieldLink RX6 19 "BatteryCaches" "history" "LBatteryCaches$History;", Cond.fieldLink RX6 10 "BatteryCaches" "now" "LBatteryCaches$State;", Cond.methodLink RX6 44 yX6_isPlace, Cond.static yX6_isPlace, Cond.initialized RX6, Cond.code yX6_isPlace cX6_isPlace 1 (some .boolean), Cond.methodLink RX6 49 yX1_keep, Cond.instanceMethod yX1_keep, Cond.selects RX1 yX1_keep yX1_keep, Cond.initialized RX1, Cond.code yX1_keep cX1_keep 2 none, Cond.fieldLink RX1 17 "BatteryCaches$History" "size" "I", Cond.fieldLink RX1 11 "BatteryCaches$History" "states" "[LBatteryCaches$State;", Cond.methodLink RX1 22 yX1_dropOldest, Cond.instanceMethod yX1_dropOldest, Cond.selects RX1 yX1_dropOldest yX1_dropOldest, Cond.code yX1_dropOldest cX1_dropOldest 3 none, Cond.static yX6_isWithin, Cond.code yX6_isWithin cX6_isWithin 3 (some .boolean), Cond.methodLink RX1 29 yX4_copy, Cond.static yX4_copy, Cond.initialized RX4, Cond.code yX4_copy cX4_copy 2 none]
def wsX6_read_r2 : List Cond := [Cond.fieldLink RX4 12 "BatteryCaches$State" "battery" "LBatteryCaches$Battery;", Cond.fieldLink RX4 18 "BatteryCaches$State" "disk" "[I", Cond.fieldLink RX4 22 "BatteryCaches$State" "laid" "[I", Cond.fieldLink RX4 25 "BatteryCaches$State" "kind" "[I", Cond.fieldLink RX4 28 "BatteryCaches$State" "place" "[I", Cond.fieldLink RX4 31 "BatteryCaches$State" "value" "[I", Cond.fieldLink RX4 34 "BatteryCaches$State" "turn" "[I", Cond.fieldLink RX4 37 "BatteryCaches$State" "lastTurn" "I", Cond.fieldLink RX4 41 "BatteryCaches$State" "ticks" "I", Cond.fieldLink RX4 44 "BatteryCaches$State" "hits" "I", Cond.fieldLink RX4 47 "BatteryCaches$State" "misses" "I", Cond.fieldLink RX4 50 "BatteryCaches$State" "flushed" "I", Cond.fieldLink RX4 53 "BatteryCaches$State" "wentThrough" "I", Cond.fieldLink RX4 56 "BatteryCaches$State" "lost" "I", Cond.fieldLink RX4 59 "BatteryCaches$State" "cuts" "I", Cond.fieldLink RX4 62 "BatteryCaches$State" "cyclesEnded" "I", Cond.fieldLink RX4 65 "BatteryCaches$State" "laidInAll" "I", Cond.methodLink RX4 68 yX0_copyFrom, Cond.instanceMethod yX0_copyFrom, Cond.selects RX0 yX0_copyFrom yX0_copyFrom, Cond.initialized RX0, Cond.code yX0_copyFrom cX0_copyFrom 2 none, Cond.fieldLink RX0 9 "BatteryCaches$Battery" "charge" "I", Cond.fieldLink RX0 15 "BatteryCaches$Battery" "wear" "I"]
def wsX6_read_r3 : List Cond := [Cond.fieldLink RX0 18 "BatteryCaches$Battery" "cycle" "I", Cond.fieldLink RX0 21 "BatteryCaches$Battery" "lineCost" "I", Cond.fieldLink RX0 24 "BatteryCaches$Battery" "cutCost" "I", Cond.fieldLink RX0 27 "BatteryCaches$Battery" "rise" "I", Cond.fieldLink RX0 30 "BatteryCaches$Battery" "fall" "I", Cond.static yX6_copyRow, Cond.code yX6_copyRow cX6_copyRow 2 none, Cond.methodLink RX6 253 Lib.Math.min.name, Cond.static Lib.Math.min.name, Cond.initialized "java/lang/Math", Cond.code Lib.Math.min.name Lib.Math.min.code 2 (some .int), Cond.methodLink RX6 256 arraycopyName, Cond.native arraycopyName, Cond.static arraycopyName, Cond.initialized "java/lang/System", Cond.methodLink RX6 53 yX4_readPlace, Cond.instanceMethod yX4_readPlace, Cond.selects RX4 yX4_readPlace yX4_readPlace, Cond.code yX4_readPlace cX4_readPlace 3 (some .int), Cond.methodLink RX4 76 yX4_lineFor, Cond.instanceMethod yX4_lineFor, Cond.selects RX4 yX4_lineFor yX4_lineFor, Cond.code yX4_lineFor cX4_lineFor 3 (some .int), Cond.methodLink RX4 95 yX4_holderOf]
def wsX6_read_r4 : List Cond := [Cond.instanceMethod yX4_holderOf, Cond.selects RX4 yX4_holderOf yX4_holderOf, Cond.code yX4_holderOf cX4_holderOf 3 (some .int), Cond.static yX6_isLine, Cond.code yX6_isLine cX6_isLine 1 (some .boolean), Cond.methodLink RX4 98 yX4_lineToTake, Cond.instanceMethod yX4_lineToTake, Cond.selects RX4 yX4_lineToTake yX4_lineToTake, Cond.code yX4_lineToTake cX4_lineToTake 2 (some .int), Cond.methodLink RX4 108 yX4_lowestEmpty, Cond.instanceMethod yX4_lowestEmpty, Cond.selects RX4 yX4_lowestEmpty yX4_lowestEmpty, Cond.code yX4_lowestEmpty cX4_lowestEmpty 2 (some .int), Cond.methodLink RX4 111 yX4_lowestTurn, Cond.instanceMethod yX4_lowestTurn, Cond.selects RX4 yX4_lowestTurn yX4_lowestTurn, Cond.code yX4_lowestTurn cX4_lowestTurn 5 (some .int), Cond.methodLink RX4 101 yX4_flushLine, Cond.instanceMethod yX4_flushLine, Cond.selects RX4 yX4_flushLine yX4_flushLine, Cond.code yX4_flushLine cX4_flushLine 2 none, Cond.methodLink RX4 91 yX4_layOnDisk, Cond.instanceMethod yX4_layOnDisk, Cond.selects RX4 yX4_layOnDisk yX4_layOnDisk]
def wsX6_read_r5 : List Cond := [Cond.code yX4_layOnDisk cX4_layOnDisk 3 none, Cond.methodLink RX4 105 yX4_layIntoLine, Cond.instanceMethod yX4_layIntoLine, Cond.selects RX4 yX4_layIntoLine yX4_layIntoLine, Cond.code yX4_layIntoLine cX4_layIntoLine 3 none]
def wsX6_read : List Cond := .code yX6_read cX6_read 2 (some .int) :: ((wsX6_read_r1 ++ (wsX6_read_r2 ++ (wsX6_read_r3 ++ (wsX6_read_r4 ++ wsX6_read_r5)))) ++ wsX60 ++ wsX10 ++ wsX40 ++ wsX00)
def wsX6_write_r1 : List Cond := [Cond.constant RX6 48 (-1000001), Cond.fieldLink RX6 19 "BatteryCaches" "history" "LBatteryCaches$History;", Cond.fieldLink RX6 10 "BatteryCaches" "now" "LBatteryCaches$State;", Cond.methodLink RX6 44 yX6_isPlace, Cond.static yX6_isPlace, Cond.initialized RX6, Cond.code yX6_isPlace cX6_isPlace 1 (some .boolean), Cond.methodLink RX6 57 yX6_isWithin, Cond.static yX6_isWithin, Cond.code yX6_isWithin cX6_isWithin 3 (some .boolean), Cond.methodLink RX6 49 yX1_keep, Cond.instanceMethod yX1_keep, Cond.selects RX1 yX1_keep yX1_keep, Cond.initialized RX1, Cond.code yX1_keep cX1_keep 2 none, Cond.fieldLink RX1 17 "BatteryCaches$History" "size" "I", Cond.fieldLink RX1 11 "BatteryCaches$History" "states" "[LBatteryCaches$State;", Cond.methodLink RX1 22 yX1_dropOldest, Cond.instanceMethod yX1_dropOldest, Cond.selects RX1 yX1_dropOldest yX1_dropOldest, Cond.code yX1_dropOldest cX1_dropOldest 3 none, Cond.methodLink RX1 29 yX4_copy, Cond.static yX4_copy, Cond.initialized RX4]
def wsX6_write_r2 : List Cond := [Cond.code yX4_copy cX4_copy 2 none, Cond.fieldLink RX4 12 "BatteryCaches$State" "battery" "LBatteryCaches$Battery;", Cond.fieldLink RX4 18 "BatteryCaches$State" "disk" "[I", Cond.fieldLink RX4 22 "BatteryCaches$State" "laid" "[I", Cond.fieldLink RX4 25 "BatteryCaches$State" "kind" "[I", Cond.fieldLink RX4 28 "BatteryCaches$State" "place" "[I", Cond.fieldLink RX4 31 "BatteryCaches$State" "value" "[I", Cond.fieldLink RX4 34 "BatteryCaches$State" "turn" "[I", Cond.fieldLink RX4 37 "BatteryCaches$State" "lastTurn" "I", Cond.fieldLink RX4 41 "BatteryCaches$State" "ticks" "I", Cond.fieldLink RX4 44 "BatteryCaches$State" "hits" "I", Cond.fieldLink RX4 47 "BatteryCaches$State" "misses" "I", Cond.fieldLink RX4 50 "BatteryCaches$State" "flushed" "I", Cond.fieldLink RX4 53 "BatteryCaches$State" "wentThrough" "I", Cond.fieldLink RX4 56 "BatteryCaches$State" "lost" "I", Cond.fieldLink RX4 59 "BatteryCaches$State" "cuts" "I", Cond.fieldLink RX4 62 "BatteryCaches$State" "cyclesEnded" "I", Cond.fieldLink RX4 65 "BatteryCaches$State" "laidInAll" "I", Cond.methodLink RX4 68 yX0_copyFrom, Cond.instanceMethod yX0_copyFrom, Cond.selects RX0 yX0_copyFrom yX0_copyFrom, Cond.initialized RX0, Cond.code yX0_copyFrom cX0_copyFrom 2 none, Cond.fieldLink RX0 9 "BatteryCaches$Battery" "charge" "I"]
def wsX6_write_r3 : List Cond := [Cond.fieldLink RX0 15 "BatteryCaches$Battery" "wear" "I", Cond.fieldLink RX0 18 "BatteryCaches$Battery" "cycle" "I", Cond.fieldLink RX0 21 "BatteryCaches$Battery" "lineCost" "I", Cond.fieldLink RX0 24 "BatteryCaches$Battery" "cutCost" "I", Cond.fieldLink RX0 27 "BatteryCaches$Battery" "rise" "I", Cond.fieldLink RX0 30 "BatteryCaches$Battery" "fall" "I", Cond.static yX6_copyRow, Cond.code yX6_copyRow cX6_copyRow 2 none, Cond.methodLink RX6 253 Lib.Math.min.name, Cond.static Lib.Math.min.name, Cond.initialized "java/lang/Math", Cond.code Lib.Math.min.name Lib.Math.min.code 2 (some .int), Cond.methodLink RX6 256 arraycopyName, Cond.native arraycopyName, Cond.static arraycopyName, Cond.initialized "java/lang/System", Cond.methodLink RX6 61 yX4_writePlace, Cond.instanceMethod yX4_writePlace, Cond.selects RX4 yX4_writePlace yX4_writePlace, Cond.code yX4_writePlace cX4_writePlace 4 (some .int), Cond.methodLink RX4 76 yX4_lineFor, Cond.instanceMethod yX4_lineFor, Cond.selects RX4 yX4_lineFor yX4_lineFor, Cond.code yX4_lineFor cX4_lineFor 3 (some .int)]
def wsX6_write_r4 : List Cond := [Cond.methodLink RX4 95 yX4_holderOf, Cond.instanceMethod yX4_holderOf, Cond.selects RX4 yX4_holderOf yX4_holderOf, Cond.code yX4_holderOf cX4_holderOf 3 (some .int), Cond.static yX6_isLine, Cond.code yX6_isLine cX6_isLine 1 (some .boolean), Cond.methodLink RX4 98 yX4_lineToTake, Cond.instanceMethod yX4_lineToTake, Cond.selects RX4 yX4_lineToTake yX4_lineToTake, Cond.code yX4_lineToTake cX4_lineToTake 2 (some .int), Cond.methodLink RX4 108 yX4_lowestEmpty, Cond.instanceMethod yX4_lowestEmpty, Cond.selects RX4 yX4_lowestEmpty yX4_lowestEmpty, Cond.code yX4_lowestEmpty cX4_lowestEmpty 2 (some .int), Cond.methodLink RX4 111 yX4_lowestTurn, Cond.instanceMethod yX4_lowestTurn, Cond.selects RX4 yX4_lowestTurn yX4_lowestTurn, Cond.code yX4_lowestTurn cX4_lowestTurn 5 (some .int), Cond.methodLink RX4 101 yX4_flushLine, Cond.instanceMethod yX4_flushLine, Cond.selects RX4 yX4_flushLine yX4_flushLine, Cond.code yX4_flushLine cX4_flushLine 2 none, Cond.methodLink RX4 91 yX4_layOnDisk, Cond.instanceMethod yX4_layOnDisk]
def wsX6_write_r5 : List Cond := [Cond.selects RX4 yX4_layOnDisk yX4_layOnDisk, Cond.code yX4_layOnDisk cX4_layOnDisk 3 none, Cond.methodLink RX4 105 yX4_layIntoLine, Cond.instanceMethod yX4_layIntoLine, Cond.selects RX4 yX4_layIntoLine yX4_layIntoLine, Cond.code yX4_layIntoLine cX4_layIntoLine 3 none, Cond.methodLink RX4 84 yX4_numberOf, Cond.instanceMethod yX4_numberOf, Cond.selects RX4 yX4_numberOf yX4_numberOf, Cond.code yX4_numberOf cX4_numberOf 2 (some .int), Cond.methodLink RX4 154 yX4_setOf, Cond.instanceMethod yX4_setOf, Cond.selects RX4 yX4_setOf yX4_setOf, Cond.code yX4_setOf cX4_setOf 4 (some .int), Cond.methodLink RX4 157 yJ6_bitCount_0f7a4, Cond.static yJ6_bitCount_0f7a4, Cond.initialized RJ6, Cond.code yJ6_bitCount_0f7a4 cJ6_bitCount_0f7a4 1 (some .int), Cond.constant RJ6 265 (1431655765), Cond.constant RJ6 266 (858993459), Cond.constant RJ6 267 (252645135), Cond.methodLink RX4 87 yX0_allowance, Cond.instanceMethod yX0_allowance, Cond.selects RX0 yX0_allowance yX0_allowance]
def wsX6_write_r6 : List Cond := [Cond.code yX0_allowance cX0_allowance 1 (some .int), Cond.methodLink RX0 33 yX0_savable, Cond.instanceMethod yX0_savable, Cond.selects RX0 yX0_savable yX0_savable, Cond.code yX0_savable cX0_savable 1 (some .int), Cond.methodLink RX0 37 Lib.Math.min.name]
def wsX6_write : List Cond := .code yX6_write cX6_write 3 (some .int) :: ((wsX6_write_r1 ++ (wsX6_write_r2 ++ (wsX6_write_r3 ++ (wsX6_write_r4 ++ (wsX6_write_r5 ++ wsX6_write_r6))))) ++ wsX60 ++ wsX10 ++ wsX40 ++ wsX00)
def wsX6_flush_r1 : List Cond := [Cond.constant RX6 48 (-1000001), Cond.fieldLink RX6 10 "BatteryCaches" "now" "LBatteryCaches$State;", Cond.fieldLink RX6 68 "BatteryCaches$State" "kind" "[I", Cond.constant RX6 72 (-1000002), Cond.fieldLink RX6 19 "BatteryCaches" "history" "LBatteryCaches$History;", Cond.methodLink RX6 65 yX6_isLine, Cond.static yX6_isLine, Cond.initialized RX6, Cond.code yX6_isLine cX6_isLine 1 (some .boolean), Cond.methodLink RX6 49 yX1_keep, Cond.instanceMethod yX1_keep, Cond.selects RX1 yX1_keep yX1_keep, Cond.initialized RX1, Cond.code yX1_keep cX1_keep 2 none, Cond.fieldLink RX1 17 "BatteryCaches$History" "size" "I", Cond.fieldLink RX1 11 "BatteryCaches$History" "states" "[LBatteryCaches$State;", Cond.methodLink RX1 22 yX1_dropOldest, Cond.instanceMethod yX1_dropOldest, Cond.selects RX1 yX1_dropOldest yX1_dropOldest, Cond.code yX1_dropOldest cX1_dropOldest 3 none, Cond.static yX6_isWithin, Cond.code yX6_isWithin cX6_isWithin 3 (some .boolean), Cond.methodLink RX1 29 yX4_copy, Cond.static yX4_copy]
def wsX6_flush_r2 : List Cond := [Cond.initialized RX4, Cond.code yX4_copy cX4_copy 2 none, Cond.fieldLink RX4 12 "BatteryCaches$State" "battery" "LBatteryCaches$Battery;", Cond.fieldLink RX4 18 "BatteryCaches$State" "disk" "[I", Cond.fieldLink RX4 22 "BatteryCaches$State" "laid" "[I", Cond.fieldLink RX4 25 "BatteryCaches$State" "kind" "[I", Cond.fieldLink RX4 28 "BatteryCaches$State" "place" "[I", Cond.fieldLink RX4 31 "BatteryCaches$State" "value" "[I", Cond.fieldLink RX4 34 "BatteryCaches$State" "turn" "[I", Cond.fieldLink RX4 37 "BatteryCaches$State" "lastTurn" "I", Cond.fieldLink RX4 41 "BatteryCaches$State" "ticks" "I", Cond.fieldLink RX4 44 "BatteryCaches$State" "hits" "I", Cond.fieldLink RX4 47 "BatteryCaches$State" "misses" "I", Cond.fieldLink RX4 50 "BatteryCaches$State" "flushed" "I", Cond.fieldLink RX4 53 "BatteryCaches$State" "wentThrough" "I", Cond.fieldLink RX4 56 "BatteryCaches$State" "lost" "I", Cond.fieldLink RX4 59 "BatteryCaches$State" "cuts" "I", Cond.fieldLink RX4 62 "BatteryCaches$State" "cyclesEnded" "I", Cond.fieldLink RX4 65 "BatteryCaches$State" "laidInAll" "I", Cond.methodLink RX4 68 yX0_copyFrom, Cond.instanceMethod yX0_copyFrom, Cond.selects RX0 yX0_copyFrom yX0_copyFrom, Cond.initialized RX0, Cond.code yX0_copyFrom cX0_copyFrom 2 none]
def wsX6_flush_r3 : List Cond := [Cond.fieldLink RX0 9 "BatteryCaches$Battery" "charge" "I", Cond.fieldLink RX0 15 "BatteryCaches$Battery" "wear" "I", Cond.fieldLink RX0 18 "BatteryCaches$Battery" "cycle" "I", Cond.fieldLink RX0 21 "BatteryCaches$Battery" "lineCost" "I", Cond.fieldLink RX0 24 "BatteryCaches$Battery" "cutCost" "I", Cond.fieldLink RX0 27 "BatteryCaches$Battery" "rise" "I", Cond.fieldLink RX0 30 "BatteryCaches$Battery" "fall" "I", Cond.static yX6_copyRow, Cond.code yX6_copyRow cX6_copyRow 2 none, Cond.methodLink RX6 253 Lib.Math.min.name, Cond.static Lib.Math.min.name, Cond.initialized "java/lang/Math", Cond.code Lib.Math.min.name Lib.Math.min.code 2 (some .int), Cond.methodLink RX6 256 arraycopyName, Cond.native arraycopyName, Cond.static arraycopyName, Cond.initialized "java/lang/System", Cond.methodLink RX6 73 yX4_flushLine, Cond.instanceMethod yX4_flushLine, Cond.selects RX4 yX4_flushLine yX4_flushLine, Cond.code yX4_flushLine cX4_flushLine 2 none, Cond.methodLink RX4 91 yX4_layOnDisk, Cond.instanceMethod yX4_layOnDisk, Cond.selects RX4 yX4_layOnDisk yX4_layOnDisk]
def wsX6_flush_r4 : List Cond := [Cond.code yX4_layOnDisk cX4_layOnDisk 3 none, Cond.static yX6_isPlace, Cond.code yX6_isPlace cX6_isPlace 1 (some .boolean), Cond.methodLink RX6 77 yX4_numberOf, Cond.instanceMethod yX4_numberOf, Cond.selects RX4 yX4_numberOf yX4_numberOf, Cond.code yX4_numberOf cX4_numberOf 2 (some .int), Cond.methodLink RX4 154 yX4_setOf, Cond.instanceMethod yX4_setOf, Cond.selects RX4 yX4_setOf yX4_setOf, Cond.code yX4_setOf cX4_setOf 4 (some .int), Cond.methodLink RX4 157 yJ6_bitCount_0f7a4, Cond.static yJ6_bitCount_0f7a4, Cond.initialized RJ6, Cond.code yJ6_bitCount_0f7a4 cJ6_bitCount_0f7a4 1 (some .int), Cond.constant RJ6 265 (1431655765), Cond.constant RJ6 266 (858993459), Cond.constant RJ6 267 (252645135)]
def wsX6_flush : List Cond := .code yX6_flush cX6_flush 2 (some .int) :: ((wsX6_flush_r1 ++ (wsX6_flush_r2 ++ (wsX6_flush_r3 ++ wsX6_flush_r4))) ++ wsX60 ++ wsX40 ++ wsX10 ++ wsX00)
def wsX6_tick_r1 : List Cond := [Cond.constant RX6 48 (-1000001), Cond.fieldLink RX6 19 "BatteryCaches" "history" "LBatteryCaches$History;", Cond.fieldLink RX6 10 "BatteryCaches" "now" "LBatteryCaches$State;", Cond.methodLink RX6 57 yX6_isWithin, Cond.static yX6_isWithin, Cond.initialized RX6, Cond.code yX6_isWithin cX6_isWithin 3 (some .boolean), Cond.methodLink RX6 49 yX1_keep, Cond.instanceMethod yX1_keep, Cond.selects RX1 yX1_keep yX1_keep, Cond.initialized RX1, Cond.code yX1_keep cX1_keep 2 none, Cond.fieldLink RX1 17 "BatteryCaches$History" "size" "I", Cond.fieldLink RX1 11 "BatteryCaches$History" "states" "[LBatteryCaches$State;", Cond.methodLink RX1 22 yX1_dropOldest, Cond.instanceMethod yX1_dropOldest, Cond.selects RX1 yX1_dropOldest yX1_dropOldest, Cond.code yX1_dropOldest cX1_dropOldest 3 none, Cond.methodLink RX1 29 yX4_copy, Cond.static yX4_copy, Cond.initialized RX4, Cond.code yX4_copy cX4_copy 2 none, Cond.fieldLink RX4 12 "BatteryCaches$State" "battery" "LBatteryCaches$Battery;", Cond.fieldLink RX4 18 "BatteryCaches$State" "disk" "[I"]
def wsX6_tick_r2 : List Cond := [Cond.fieldLink RX4 22 "BatteryCaches$State" "laid" "[I", Cond.fieldLink RX4 25 "BatteryCaches$State" "kind" "[I", Cond.fieldLink RX4 28 "BatteryCaches$State" "place" "[I", Cond.fieldLink RX4 31 "BatteryCaches$State" "value" "[I", Cond.fieldLink RX4 34 "BatteryCaches$State" "turn" "[I", Cond.fieldLink RX4 37 "BatteryCaches$State" "lastTurn" "I", Cond.fieldLink RX4 41 "BatteryCaches$State" "ticks" "I", Cond.fieldLink RX4 44 "BatteryCaches$State" "hits" "I", Cond.fieldLink RX4 47 "BatteryCaches$State" "misses" "I", Cond.fieldLink RX4 50 "BatteryCaches$State" "flushed" "I", Cond.fieldLink RX4 53 "BatteryCaches$State" "wentThrough" "I", Cond.fieldLink RX4 56 "BatteryCaches$State" "lost" "I", Cond.fieldLink RX4 59 "BatteryCaches$State" "cuts" "I", Cond.fieldLink RX4 62 "BatteryCaches$State" "cyclesEnded" "I", Cond.fieldLink RX4 65 "BatteryCaches$State" "laidInAll" "I", Cond.methodLink RX4 68 yX0_copyFrom, Cond.instanceMethod yX0_copyFrom, Cond.selects RX0 yX0_copyFrom yX0_copyFrom, Cond.initialized RX0, Cond.code yX0_copyFrom cX0_copyFrom 2 none, Cond.fieldLink RX0 9 "BatteryCaches$Battery" "charge" "I", Cond.fieldLink RX0 15 "BatteryCaches$Battery" "wear" "I", Cond.fieldLink RX0 18 "BatteryCaches$Battery" "cycle" "I", Cond.fieldLink RX0 21 "BatteryCaches$Battery" "lineCost" "I"]
def wsX6_tick_r3 : List Cond := [Cond.fieldLink RX0 24 "BatteryCaches$Battery" "cutCost" "I", Cond.fieldLink RX0 27 "BatteryCaches$Battery" "rise" "I", Cond.fieldLink RX0 30 "BatteryCaches$Battery" "fall" "I", Cond.static yX6_copyRow, Cond.code yX6_copyRow cX6_copyRow 2 none, Cond.methodLink RX6 253 Lib.Math.min.name, Cond.static Lib.Math.min.name, Cond.initialized "java/lang/Math", Cond.code Lib.Math.min.name Lib.Math.min.code 2 (some .int), Cond.methodLink RX6 256 arraycopyName, Cond.native arraycopyName, Cond.static arraycopyName, Cond.initialized "java/lang/System", Cond.methodLink RX6 80 yX4_passTicks, Cond.instanceMethod yX4_passTicks, Cond.selects RX4 yX4_passTicks yX4_passTicks, Cond.code yX4_passTicks cX4_passTicks 4 (some .int), Cond.methodLink RX4 117 yX0_passTick, Cond.instanceMethod yX0_passTick, Cond.selects RX0 yX0_passTick yX0_passTick, Cond.code yX0_passTick cX0_passTick 1 (some .boolean), Cond.methodLink RX0 37 Lib.Math.min.name, Cond.methodLink RX0 54 yX0_fallInCycle, Cond.instanceMethod yX0_fallInCycle]
def wsX6_tick_r4 : List Cond := [Cond.selects RX0 yX0_fallInCycle yX0_fallInCycle, Cond.code yX0_fallInCycle cX0_fallInCycle 1 none, Cond.methodLink RX0 50 yX0_useUp, Cond.instanceMethod yX0_useUp, Cond.selects RX0 yX0_useUp yX0_useUp, Cond.code yX0_useUp cX0_useUp 2 none, Cond.methodLink RX0 43 Lib.Math.max.name, Cond.static Lib.Math.max.name, Cond.code Lib.Math.max.name Lib.Math.max.code 2 (some .int), Cond.methodLink RX0 57 yX0_capacity, Cond.instanceMethod yX0_capacity, Cond.selects RX0 yX0_capacity yX0_capacity, Cond.code yX0_capacity cX0_capacity 1 (some .int), Cond.methodLink RX4 121 yX4_tooMany, Cond.instanceMethod yX4_tooMany, Cond.selects RX4 yX4_tooMany yX4_tooMany, Cond.code yX4_tooMany cX4_tooMany 1 (some .int), Cond.methodLink RX4 139 Lib.Math.max.name, Cond.methodLink RX4 84 yX4_numberOf, Cond.instanceMethod yX4_numberOf, Cond.selects RX4 yX4_numberOf yX4_numberOf, Cond.code yX4_numberOf cX4_numberOf 2 (some .int), Cond.methodLink RX4 154 yX4_setOf, Cond.instanceMethod yX4_setOf]
def wsX6_tick_r5 : List Cond := [Cond.selects RX4 yX4_setOf yX4_setOf, Cond.code yX4_setOf cX4_setOf 4 (some .int), Cond.methodLink RX4 157 yJ6_bitCount_0f7a4, Cond.static yJ6_bitCount_0f7a4, Cond.initialized RJ6, Cond.code yJ6_bitCount_0f7a4 cJ6_bitCount_0f7a4 1 (some .int), Cond.constant RJ6 265 (1431655765), Cond.constant RJ6 266 (858993459), Cond.constant RJ6 267 (252645135), Cond.methodLink RX4 87 yX0_allowance, Cond.instanceMethod yX0_allowance, Cond.selects RX0 yX0_allowance yX0_allowance, Cond.code yX0_allowance cX0_allowance 1 (some .int), Cond.methodLink RX0 33 yX0_savable, Cond.instanceMethod yX0_savable, Cond.selects RX0 yX0_savable yX0_savable, Cond.code yX0_savable cX0_savable 1 (some .int), Cond.methodLink RX4 124 yX4_flushLowest, Cond.instanceMethod yX4_flushLowest, Cond.selects RX4 yX4_flushLowest yX4_flushLowest, Cond.code yX4_flushLowest cX4_flushLowest 3 (some .int), Cond.methodLink RX4 111 yX4_lowestTurn, Cond.instanceMethod yX4_lowestTurn, Cond.selects RX4 yX4_lowestTurn yX4_lowestTurn]
def wsX6_tick_r6 : List Cond := [Cond.code yX4_lowestTurn cX4_lowestTurn 5 (some .int), Cond.methodLink RX4 101 yX4_flushLine, Cond.instanceMethod yX4_flushLine, Cond.selects RX4 yX4_flushLine yX4_flushLine, Cond.code yX4_flushLine cX4_flushLine 2 none, Cond.static yX6_isLine, Cond.code yX6_isLine cX6_isLine 1 (some .boolean), Cond.methodLink RX4 91 yX4_layOnDisk, Cond.instanceMethod yX4_layOnDisk, Cond.selects RX4 yX4_layOnDisk yX4_layOnDisk, Cond.code yX4_layOnDisk cX4_layOnDisk 3 none, Cond.static yX6_isPlace, Cond.code yX6_isPlace cX6_isPlace 1 (some .boolean)]
def wsX6_tick : List Cond := .code yX6_tick cX6_tick 2 (some .int) :: ((wsX6_tick_r1 ++ (wsX6_tick_r2 ++ (wsX6_tick_r3 ++ (wsX6_tick_r4 ++ (wsX6_tick_r5 ++ wsX6_tick_r6))))) ++ wsX60 ++ wsX10 ++ wsX40 ++ wsX00)
def wsX6_load_r1 : List Cond := [Cond.constant RX6 48 (-1000001), Cond.fieldLink RX6 19 "BatteryCaches" "history" "LBatteryCaches$History;", Cond.fieldLink RX6 10 "BatteryCaches" "now" "LBatteryCaches$State;", Cond.methodLink RX6 57 yX6_isWithin, Cond.static yX6_isWithin, Cond.initialized RX6, Cond.code yX6_isWithin cX6_isWithin 3 (some .boolean), Cond.methodLink RX6 49 yX1_keep, Cond.instanceMethod yX1_keep, Cond.selects RX1 yX1_keep yX1_keep, Cond.initialized RX1, Cond.code yX1_keep cX1_keep 2 none, Cond.fieldLink RX1 17 "BatteryCaches$History" "size" "I", Cond.fieldLink RX1 11 "BatteryCaches$History" "states" "[LBatteryCaches$State;", Cond.methodLink RX1 22 yX1_dropOldest, Cond.instanceMethod yX1_dropOldest, Cond.selects RX1 yX1_dropOldest yX1_dropOldest, Cond.code yX1_dropOldest cX1_dropOldest 3 none, Cond.methodLink RX1 29 yX4_copy, Cond.static yX4_copy, Cond.initialized RX4, Cond.code yX4_copy cX4_copy 2 none, Cond.fieldLink RX4 12 "BatteryCaches$State" "battery" "LBatteryCaches$Battery;", Cond.fieldLink RX4 18 "BatteryCaches$State" "disk" "[I"]
def wsX6_load_r2 : List Cond := [Cond.fieldLink RX4 22 "BatteryCaches$State" "laid" "[I", Cond.fieldLink RX4 25 "BatteryCaches$State" "kind" "[I", Cond.fieldLink RX4 28 "BatteryCaches$State" "place" "[I", Cond.fieldLink RX4 31 "BatteryCaches$State" "value" "[I", Cond.fieldLink RX4 34 "BatteryCaches$State" "turn" "[I", Cond.fieldLink RX4 37 "BatteryCaches$State" "lastTurn" "I", Cond.fieldLink RX4 41 "BatteryCaches$State" "ticks" "I", Cond.fieldLink RX4 44 "BatteryCaches$State" "hits" "I", Cond.fieldLink RX4 47 "BatteryCaches$State" "misses" "I", Cond.fieldLink RX4 50 "BatteryCaches$State" "flushed" "I", Cond.fieldLink RX4 53 "BatteryCaches$State" "wentThrough" "I", Cond.fieldLink RX4 56 "BatteryCaches$State" "lost" "I", Cond.fieldLink RX4 59 "BatteryCaches$State" "cuts" "I", Cond.fieldLink RX4 62 "BatteryCaches$State" "cyclesEnded" "I", Cond.fieldLink RX4 65 "BatteryCaches$State" "laidInAll" "I", Cond.methodLink RX4 68 yX0_copyFrom, Cond.instanceMethod yX0_copyFrom, Cond.selects RX0 yX0_copyFrom yX0_copyFrom, Cond.initialized RX0, Cond.code yX0_copyFrom cX0_copyFrom 2 none, Cond.fieldLink RX0 9 "BatteryCaches$Battery" "charge" "I", Cond.fieldLink RX0 15 "BatteryCaches$Battery" "wear" "I", Cond.fieldLink RX0 18 "BatteryCaches$Battery" "cycle" "I", Cond.fieldLink RX0 21 "BatteryCaches$Battery" "lineCost" "I"]
def wsX6_load_r3 : List Cond := [Cond.fieldLink RX0 24 "BatteryCaches$Battery" "cutCost" "I", Cond.fieldLink RX0 27 "BatteryCaches$Battery" "rise" "I", Cond.fieldLink RX0 30 "BatteryCaches$Battery" "fall" "I", Cond.static yX6_copyRow, Cond.code yX6_copyRow cX6_copyRow 2 none, Cond.methodLink RX6 253 Lib.Math.min.name, Cond.static Lib.Math.min.name, Cond.initialized "java/lang/Math", Cond.code Lib.Math.min.name Lib.Math.min.code 2 (some .int), Cond.methodLink RX6 256 arraycopyName, Cond.native arraycopyName, Cond.static arraycopyName, Cond.initialized "java/lang/System", Cond.methodLink RX6 83 yX4_putLoad, Cond.instanceMethod yX4_putLoad, Cond.selects RX4 yX4_putLoad yX4_putLoad, Cond.code yX4_putLoad cX4_putLoad 2 (some .int), Cond.methodLink RX4 127 yX0_useUp, Cond.instanceMethod yX0_useUp, Cond.selects RX0 yX0_useUp yX0_useUp, Cond.code yX0_useUp cX0_useUp 2 none, Cond.methodLink RX0 43 Lib.Math.max.name, Cond.static Lib.Math.max.name, Cond.code Lib.Math.max.name Lib.Math.max.code 2 (some .int)]
def wsX6_load_r4 : List Cond := [Cond.methodLink RX4 121 yX4_tooMany, Cond.instanceMethod yX4_tooMany, Cond.selects RX4 yX4_tooMany yX4_tooMany, Cond.code yX4_tooMany cX4_tooMany 1 (some .int), Cond.methodLink RX4 139 Lib.Math.max.name, Cond.methodLink RX4 84 yX4_numberOf, Cond.instanceMethod yX4_numberOf, Cond.selects RX4 yX4_numberOf yX4_numberOf, Cond.code yX4_numberOf cX4_numberOf 2 (some .int), Cond.methodLink RX4 154 yX4_setOf, Cond.instanceMethod yX4_setOf, Cond.selects RX4 yX4_setOf yX4_setOf, Cond.code yX4_setOf cX4_setOf 4 (some .int), Cond.methodLink RX4 157 yJ6_bitCount_0f7a4, Cond.static yJ6_bitCount_0f7a4, Cond.initialized RJ6, Cond.code yJ6_bitCount_0f7a4 cJ6_bitCount_0f7a4 1 (some .int), Cond.constant RJ6 265 (1431655765), Cond.constant RJ6 266 (858993459), Cond.constant RJ6 267 (252645135), Cond.methodLink RX4 87 yX0_allowance, Cond.instanceMethod yX0_allowance, Cond.selects RX0 yX0_allowance yX0_allowance, Cond.code yX0_allowance cX0_allowance 1 (some .int)]
def wsX6_load_r5 : List Cond := [Cond.methodLink RX0 33 yX0_savable, Cond.instanceMethod yX0_savable, Cond.selects RX0 yX0_savable yX0_savable, Cond.code yX0_savable cX0_savable 1 (some .int), Cond.methodLink RX0 37 Lib.Math.min.name, Cond.methodLink RX4 124 yX4_flushLowest, Cond.instanceMethod yX4_flushLowest, Cond.selects RX4 yX4_flushLowest yX4_flushLowest, Cond.code yX4_flushLowest cX4_flushLowest 3 (some .int), Cond.methodLink RX4 111 yX4_lowestTurn, Cond.instanceMethod yX4_lowestTurn, Cond.selects RX4 yX4_lowestTurn yX4_lowestTurn, Cond.code yX4_lowestTurn cX4_lowestTurn 5 (some .int), Cond.methodLink RX4 101 yX4_flushLine, Cond.instanceMethod yX4_flushLine, Cond.selects RX4 yX4_flushLine yX4_flushLine, Cond.code yX4_flushLine cX4_flushLine 2 none, Cond.static yX6_isLine, Cond.code yX6_isLine cX6_isLine 1 (some .boolean), Cond.methodLink RX4 91 yX4_layOnDisk, Cond.instanceMethod yX4_layOnDisk, Cond.selects RX4 yX4_layOnDisk yX4_layOnDisk, Cond.code yX4_layOnDisk cX4_layOnDisk 3 none, Cond.static yX6_isPlace]
def wsX6_load_r6 : List Cond := [Cond.code yX6_isPlace cX6_isPlace 1 (some .boolean)]
def wsX6_load : List Cond := .code yX6_load cX6_load 2 (some .int) :: ((wsX6_load_r1 ++ (wsX6_load_r2 ++ (wsX6_load_r3 ++ (wsX6_load_r4 ++ (wsX6_load_r5 ++ wsX6_load_r6))))) ++ wsX60 ++ wsX10 ++ wsX40 ++ wsX00)
def wsX6_learn_r1 : List Cond := [Cond.fieldLink RX6 10 "BatteryCaches" "now" "LBatteryCaches$State;", Cond.fieldLink RX6 86 "BatteryCaches$State" "battery" "LBatteryCaches$Battery;", Cond.fieldLink RX6 89 "BatteryCaches$Battery" "cycle" "I", Cond.constant RX6 72 (-1000002), Cond.fieldLink RX6 19 "BatteryCaches" "history" "LBatteryCaches$History;", Cond.methodLink RX6 49 yX1_keep, Cond.instanceMethod yX1_keep, Cond.selects RX1 yX1_keep yX1_keep, Cond.initialized RX1, Cond.code yX1_keep cX1_keep 2 none, Cond.fieldLink RX1 17 "BatteryCaches$History" "size" "I", Cond.fieldLink RX1 11 "BatteryCaches$History" "states" "[LBatteryCaches$State;", Cond.methodLink RX1 22 yX1_dropOldest, Cond.instanceMethod yX1_dropOldest, Cond.selects RX1 yX1_dropOldest yX1_dropOldest, Cond.code yX1_dropOldest cX1_dropOldest 3 none, Cond.static yX6_isWithin, Cond.initialized RX6, Cond.code yX6_isWithin cX6_isWithin 3 (some .boolean), Cond.methodLink RX1 29 yX4_copy, Cond.static yX4_copy, Cond.initialized RX4, Cond.code yX4_copy cX4_copy 2 none, Cond.fieldLink RX4 12 "BatteryCaches$State" "battery" "LBatteryCaches$Battery;"]
def wsX6_learn_r2 : List Cond := [Cond.fieldLink RX4 18 "BatteryCaches$State" "disk" "[I", Cond.fieldLink RX4 22 "BatteryCaches$State" "laid" "[I", Cond.fieldLink RX4 25 "BatteryCaches$State" "kind" "[I", Cond.fieldLink RX4 28 "BatteryCaches$State" "place" "[I", Cond.fieldLink RX4 31 "BatteryCaches$State" "value" "[I", Cond.fieldLink RX4 34 "BatteryCaches$State" "turn" "[I", Cond.fieldLink RX4 37 "BatteryCaches$State" "lastTurn" "I", Cond.fieldLink RX4 41 "BatteryCaches$State" "ticks" "I", Cond.fieldLink RX4 44 "BatteryCaches$State" "hits" "I", Cond.fieldLink RX4 47 "BatteryCaches$State" "misses" "I", Cond.fieldLink RX4 50 "BatteryCaches$State" "flushed" "I", Cond.fieldLink RX4 53 "BatteryCaches$State" "wentThrough" "I", Cond.fieldLink RX4 56 "BatteryCaches$State" "lost" "I", Cond.fieldLink RX4 59 "BatteryCaches$State" "cuts" "I", Cond.fieldLink RX4 62 "BatteryCaches$State" "cyclesEnded" "I", Cond.fieldLink RX4 65 "BatteryCaches$State" "laidInAll" "I", Cond.methodLink RX4 68 yX0_copyFrom, Cond.instanceMethod yX0_copyFrom, Cond.selects RX0 yX0_copyFrom yX0_copyFrom, Cond.initialized RX0, Cond.code yX0_copyFrom cX0_copyFrom 2 none, Cond.fieldLink RX0 9 "BatteryCaches$Battery" "charge" "I", Cond.fieldLink RX0 15 "BatteryCaches$Battery" "wear" "I", Cond.fieldLink RX0 18 "BatteryCaches$Battery" "cycle" "I"]
def wsX6_learn_r3 : List Cond := [Cond.fieldLink RX0 21 "BatteryCaches$Battery" "lineCost" "I", Cond.fieldLink RX0 24 "BatteryCaches$Battery" "cutCost" "I", Cond.fieldLink RX0 27 "BatteryCaches$Battery" "rise" "I", Cond.fieldLink RX0 30 "BatteryCaches$Battery" "fall" "I", Cond.static yX6_copyRow, Cond.code yX6_copyRow cX6_copyRow 2 none, Cond.methodLink RX6 253 Lib.Math.min.name, Cond.static Lib.Math.min.name, Cond.initialized "java/lang/Math", Cond.code Lib.Math.min.name Lib.Math.min.code 2 (some .int), Cond.methodLink RX6 256 arraycopyName, Cond.native arraycopyName, Cond.static arraycopyName, Cond.initialized "java/lang/System", Cond.methodLink RX6 93 yX4_beginCycle, Cond.instanceMethod yX4_beginCycle, Cond.selects RX4 yX4_beginCycle yX4_beginCycle, Cond.code yX4_beginCycle cX4_beginCycle 1 (some .int), Cond.fieldLink RX4 130 "BatteryCaches$Battery" "cycle" "I", Cond.methodLink RX4 121 yX4_tooMany, Cond.instanceMethod yX4_tooMany, Cond.selects RX4 yX4_tooMany yX4_tooMany, Cond.code yX4_tooMany cX4_tooMany 1 (some .int), Cond.methodLink RX4 139 Lib.Math.max.name]
def wsX6_learn_r4 : List Cond := [Cond.static Lib.Math.max.name, Cond.code Lib.Math.max.name Lib.Math.max.code 2 (some .int), Cond.methodLink RX4 84 yX4_numberOf, Cond.instanceMethod yX4_numberOf, Cond.selects RX4 yX4_numberOf yX4_numberOf, Cond.code yX4_numberOf cX4_numberOf 2 (some .int), Cond.methodLink RX4 154 yX4_setOf, Cond.instanceMethod yX4_setOf, Cond.selects RX4 yX4_setOf yX4_setOf, Cond.code yX4_setOf cX4_setOf 4 (some .int), Cond.methodLink RX4 157 yJ6_bitCount_0f7a4, Cond.static yJ6_bitCount_0f7a4, Cond.initialized RJ6, Cond.code yJ6_bitCount_0f7a4 cJ6_bitCount_0f7a4 1 (some .int), Cond.constant RJ6 265 (1431655765), Cond.constant RJ6 266 (858993459), Cond.constant RJ6 267 (252645135), Cond.methodLink RX4 87 yX0_allowance, Cond.instanceMethod yX0_allowance, Cond.selects RX0 yX0_allowance yX0_allowance, Cond.code yX0_allowance cX0_allowance 1 (some .int), Cond.methodLink RX0 33 yX0_savable, Cond.instanceMethod yX0_savable, Cond.selects RX0 yX0_savable yX0_savable]
def wsX6_learn_r5 : List Cond := [Cond.code yX0_savable cX0_savable 1 (some .int), Cond.methodLink RX0 37 Lib.Math.min.name, Cond.methodLink RX4 124 yX4_flushLowest, Cond.instanceMethod yX4_flushLowest, Cond.selects RX4 yX4_flushLowest yX4_flushLowest, Cond.code yX4_flushLowest cX4_flushLowest 3 (some .int), Cond.methodLink RX4 111 yX4_lowestTurn, Cond.instanceMethod yX4_lowestTurn, Cond.selects RX4 yX4_lowestTurn yX4_lowestTurn, Cond.code yX4_lowestTurn cX4_lowestTurn 5 (some .int), Cond.methodLink RX4 101 yX4_flushLine, Cond.instanceMethod yX4_flushLine, Cond.selects RX4 yX4_flushLine yX4_flushLine, Cond.code yX4_flushLine cX4_flushLine 2 none, Cond.static yX6_isLine, Cond.code yX6_isLine cX6_isLine 1 (some .boolean), Cond.methodLink RX4 91 yX4_layOnDisk, Cond.instanceMethod yX4_layOnDisk, Cond.selects RX4 yX4_layOnDisk yX4_layOnDisk, Cond.code yX4_layOnDisk cX4_layOnDisk 3 none, Cond.static yX6_isPlace, Cond.code yX6_isPlace cX6_isPlace 1 (some .boolean)]
def wsX6_learn : List Cond := .code yX6_learn cX6_learn 1 (some .int) :: ((wsX6_learn_r1 ++ (wsX6_learn_r2 ++ (wsX6_learn_r3 ++ (wsX6_learn_r4 ++ wsX6_learn_r5)))) ++ wsX60 ++ wsX40 ++ wsX00 ++ wsX10)
def wsX6_cut_r1 : List Cond := [Cond.fieldLink RX6 19 "BatteryCaches" "history" "LBatteryCaches$History;", Cond.fieldLink RX6 10 "BatteryCaches" "now" "LBatteryCaches$State;", Cond.methodLink RX6 49 yX1_keep, Cond.instanceMethod yX1_keep, Cond.selects RX1 yX1_keep yX1_keep, Cond.initialized RX1, Cond.code yX1_keep cX1_keep 2 none, Cond.fieldLink RX1 17 "BatteryCaches$History" "size" "I", Cond.fieldLink RX1 11 "BatteryCaches$History" "states" "[LBatteryCaches$State;", Cond.methodLink RX1 22 yX1_dropOldest, Cond.instanceMethod yX1_dropOldest, Cond.selects RX1 yX1_dropOldest yX1_dropOldest, Cond.code yX1_dropOldest cX1_dropOldest 3 none, Cond.static yX6_isWithin, Cond.initialized RX6, Cond.code yX6_isWithin cX6_isWithin 3 (some .boolean), Cond.methodLink RX1 29 yX4_copy, Cond.static yX4_copy, Cond.initialized RX4, Cond.code yX4_copy cX4_copy 2 none, Cond.fieldLink RX4 12 "BatteryCaches$State" "battery" "LBatteryCaches$Battery;", Cond.fieldLink RX4 18 "BatteryCaches$State" "disk" "[I", Cond.fieldLink RX4 22 "BatteryCaches$State" "laid" "[I", Cond.fieldLink RX4 25 "BatteryCaches$State" "kind" "[I"]
def wsX6_cut_r2 : List Cond := [Cond.fieldLink RX4 28 "BatteryCaches$State" "place" "[I", Cond.fieldLink RX4 31 "BatteryCaches$State" "value" "[I", Cond.fieldLink RX4 34 "BatteryCaches$State" "turn" "[I", Cond.fieldLink RX4 37 "BatteryCaches$State" "lastTurn" "I", Cond.fieldLink RX4 41 "BatteryCaches$State" "ticks" "I", Cond.fieldLink RX4 44 "BatteryCaches$State" "hits" "I", Cond.fieldLink RX4 47 "BatteryCaches$State" "misses" "I", Cond.fieldLink RX4 50 "BatteryCaches$State" "flushed" "I", Cond.fieldLink RX4 53 "BatteryCaches$State" "wentThrough" "I", Cond.fieldLink RX4 56 "BatteryCaches$State" "lost" "I", Cond.fieldLink RX4 59 "BatteryCaches$State" "cuts" "I", Cond.fieldLink RX4 62 "BatteryCaches$State" "cyclesEnded" "I", Cond.fieldLink RX4 65 "BatteryCaches$State" "laidInAll" "I", Cond.methodLink RX4 68 yX0_copyFrom, Cond.instanceMethod yX0_copyFrom, Cond.selects RX0 yX0_copyFrom yX0_copyFrom, Cond.initialized RX0, Cond.code yX0_copyFrom cX0_copyFrom 2 none, Cond.fieldLink RX0 9 "BatteryCaches$Battery" "charge" "I", Cond.fieldLink RX0 15 "BatteryCaches$Battery" "wear" "I", Cond.fieldLink RX0 18 "BatteryCaches$Battery" "cycle" "I", Cond.fieldLink RX0 21 "BatteryCaches$Battery" "lineCost" "I", Cond.fieldLink RX0 24 "BatteryCaches$Battery" "cutCost" "I", Cond.fieldLink RX0 27 "BatteryCaches$Battery" "rise" "I"]
def wsX6_cut_r3 : List Cond := [Cond.fieldLink RX0 30 "BatteryCaches$Battery" "fall" "I", Cond.static yX6_copyRow, Cond.code yX6_copyRow cX6_copyRow 2 none, Cond.methodLink RX6 253 Lib.Math.min.name, Cond.static Lib.Math.min.name, Cond.initialized "java/lang/Math", Cond.code Lib.Math.min.name Lib.Math.min.code 2 (some .int), Cond.methodLink RX6 256 arraycopyName, Cond.native arraycopyName, Cond.static arraycopyName, Cond.initialized "java/lang/System", Cond.methodLink RX6 97 yX4_cutPower, Cond.instanceMethod yX4_cutPower, Cond.selects RX4 yX4_cutPower yX4_cutPower, Cond.code yX4_cutPower cX4_cutPower 4 (some .int), Cond.methodLink RX4 133 yX4_savedByCut, Cond.instanceMethod yX4_savedByCut, Cond.selects RX4 yX4_savedByCut yX4_savedByCut, Cond.code yX4_savedByCut cX4_savedByCut 1 (some .int), Cond.methodLink RX4 148 Lib.Math.min.name, Cond.methodLink RX4 84 yX4_numberOf, Cond.instanceMethod yX4_numberOf, Cond.selects RX4 yX4_numberOf yX4_numberOf, Cond.code yX4_numberOf cX4_numberOf 2 (some .int)]
def wsX6_cut_r4 : List Cond := [Cond.methodLink RX4 154 yX4_setOf, Cond.instanceMethod yX4_setOf, Cond.selects RX4 yX4_setOf yX4_setOf, Cond.code yX4_setOf cX4_setOf 4 (some .int), Cond.methodLink RX4 157 yJ6_bitCount_0f7a4, Cond.static yJ6_bitCount_0f7a4, Cond.initialized RJ6, Cond.code yJ6_bitCount_0f7a4 cJ6_bitCount_0f7a4 1 (some .int), Cond.constant RJ6 265 (1431655765), Cond.constant RJ6 266 (858993459), Cond.constant RJ6 267 (252645135), Cond.methodLink RX4 145 yX0_savable, Cond.instanceMethod yX0_savable, Cond.selects RX0 yX0_savable yX0_savable, Cond.code yX0_savable cX0_savable 1 (some .int), Cond.methodLink RX0 37 Lib.Math.min.name, Cond.methodLink RX4 124 yX4_flushLowest, Cond.instanceMethod yX4_flushLowest, Cond.selects RX4 yX4_flushLowest yX4_flushLowest, Cond.code yX4_flushLowest cX4_flushLowest 3 (some .int), Cond.methodLink RX4 111 yX4_lowestTurn, Cond.instanceMethod yX4_lowestTurn, Cond.selects RX4 yX4_lowestTurn yX4_lowestTurn, Cond.code yX4_lowestTurn cX4_lowestTurn 5 (some .int)]
def wsX6_cut_r5 : List Cond := [Cond.methodLink RX4 101 yX4_flushLine, Cond.instanceMethod yX4_flushLine, Cond.selects RX4 yX4_flushLine yX4_flushLine, Cond.code yX4_flushLine cX4_flushLine 2 none, Cond.static yX6_isLine, Cond.code yX6_isLine cX6_isLine 1 (some .boolean), Cond.methodLink RX4 91 yX4_layOnDisk, Cond.instanceMethod yX4_layOnDisk, Cond.selects RX4 yX4_layOnDisk yX4_layOnDisk, Cond.code yX4_layOnDisk cX4_layOnDisk 3 none, Cond.static yX6_isPlace, Cond.code yX6_isPlace cX6_isPlace 1 (some .boolean), Cond.methodLink RX4 136 yX0_saveAtCut, Cond.instanceMethod yX0_saveAtCut, Cond.selects RX0 yX0_saveAtCut yX0_saveAtCut, Cond.code yX0_saveAtCut cX0_saveAtCut 2 none, Cond.methodLink RX0 46 yX0_costToSave, Cond.instanceMethod yX0_costToSave, Cond.selects RX0 yX0_costToSave yX0_costToSave, Cond.code yX0_costToSave cX0_costToSave 2 (some .int), Cond.methodLink RX0 50 yX0_useUp, Cond.instanceMethod yX0_useUp, Cond.selects RX0 yX0_useUp yX0_useUp, Cond.code yX0_useUp cX0_useUp 2 none]
def wsX6_cut_r6 : List Cond := [Cond.methodLink RX0 43 Lib.Math.max.name, Cond.static Lib.Math.max.name, Cond.code Lib.Math.max.name Lib.Math.max.code 2 (some .int)]
def wsX6_cut : List Cond := .code yX6_cut cX6_cut 1 (some .int) :: ((wsX6_cut_r1 ++ (wsX6_cut_r2 ++ (wsX6_cut_r3 ++ (wsX6_cut_r4 ++ (wsX6_cut_r5 ++ wsX6_cut_r6))))) ++ wsX60 ++ wsX10 ++ wsX40 ++ wsX00)
def wsX6_isSetting : List Cond := .code yX6_isSetting cX6_isSetting 1 (some .boolean) :: ([])
def wsX6_set_r1 : List Cond := [Cond.fieldLink RX6 103 "BatteryCaches" "LEAST_SETTING" "[I", Cond.fieldLink RX6 106 "BatteryCaches" "MOST_SETTING" "[I", Cond.constant RX6 48 (-1000001), Cond.fieldLink RX6 19 "BatteryCaches" "history" "LBatteryCaches$History;", Cond.fieldLink RX6 10 "BatteryCaches" "now" "LBatteryCaches$State;", Cond.fieldLink RX6 86 "BatteryCaches$State" "battery" "LBatteryCaches$Battery;", Cond.methodLink RX6 100 yX6_isSetting, Cond.static yX6_isSetting, Cond.initialized RX6, Cond.code yX6_isSetting cX6_isSetting 1 (some .boolean), Cond.methodLink RX6 57 yX6_isWithin, Cond.static yX6_isWithin, Cond.code yX6_isWithin cX6_isWithin 3 (some .boolean), Cond.methodLink RX6 49 yX1_keep, Cond.instanceMethod yX1_keep, Cond.selects RX1 yX1_keep yX1_keep, Cond.initialized RX1, Cond.code yX1_keep cX1_keep 2 none, Cond.fieldLink RX1 17 "BatteryCaches$History" "size" "I", Cond.fieldLink RX1 11 "BatteryCaches$History" "states" "[LBatteryCaches$State;", Cond.methodLink RX1 22 yX1_dropOldest, Cond.instanceMethod yX1_dropOldest, Cond.selects RX1 yX1_dropOldest yX1_dropOldest, Cond.code yX1_dropOldest cX1_dropOldest 3 none]
def wsX6_set_r2 : List Cond := [Cond.methodLink RX1 29 yX4_copy, Cond.static yX4_copy, Cond.initialized RX4, Cond.code yX4_copy cX4_copy 2 none, Cond.fieldLink RX4 12 "BatteryCaches$State" "battery" "LBatteryCaches$Battery;", Cond.fieldLink RX4 18 "BatteryCaches$State" "disk" "[I", Cond.fieldLink RX4 22 "BatteryCaches$State" "laid" "[I", Cond.fieldLink RX4 25 "BatteryCaches$State" "kind" "[I", Cond.fieldLink RX4 28 "BatteryCaches$State" "place" "[I", Cond.fieldLink RX4 31 "BatteryCaches$State" "value" "[I", Cond.fieldLink RX4 34 "BatteryCaches$State" "turn" "[I", Cond.fieldLink RX4 37 "BatteryCaches$State" "lastTurn" "I", Cond.fieldLink RX4 41 "BatteryCaches$State" "ticks" "I", Cond.fieldLink RX4 44 "BatteryCaches$State" "hits" "I", Cond.fieldLink RX4 47 "BatteryCaches$State" "misses" "I", Cond.fieldLink RX4 50 "BatteryCaches$State" "flushed" "I", Cond.fieldLink RX4 53 "BatteryCaches$State" "wentThrough" "I", Cond.fieldLink RX4 56 "BatteryCaches$State" "lost" "I", Cond.fieldLink RX4 59 "BatteryCaches$State" "cuts" "I", Cond.fieldLink RX4 62 "BatteryCaches$State" "cyclesEnded" "I", Cond.fieldLink RX4 65 "BatteryCaches$State" "laidInAll" "I", Cond.methodLink RX4 68 yX0_copyFrom, Cond.instanceMethod yX0_copyFrom, Cond.selects RX0 yX0_copyFrom yX0_copyFrom]
def wsX6_set_r3 : List Cond := [Cond.initialized RX0, Cond.code yX0_copyFrom cX0_copyFrom 2 none, Cond.fieldLink RX0 9 "BatteryCaches$Battery" "charge" "I", Cond.fieldLink RX0 15 "BatteryCaches$Battery" "wear" "I", Cond.fieldLink RX0 18 "BatteryCaches$Battery" "cycle" "I", Cond.fieldLink RX0 21 "BatteryCaches$Battery" "lineCost" "I", Cond.fieldLink RX0 24 "BatteryCaches$Battery" "cutCost" "I", Cond.fieldLink RX0 27 "BatteryCaches$Battery" "rise" "I", Cond.fieldLink RX0 30 "BatteryCaches$Battery" "fall" "I", Cond.static yX6_copyRow, Cond.code yX6_copyRow cX6_copyRow 2 none, Cond.methodLink RX6 253 Lib.Math.min.name, Cond.static Lib.Math.min.name, Cond.initialized "java/lang/Math", Cond.code Lib.Math.min.name Lib.Math.min.code 2 (some .int), Cond.methodLink RX6 256 arraycopyName, Cond.native arraycopyName, Cond.static arraycopyName, Cond.initialized "java/lang/System", Cond.methodLink RX6 109 yX0_setting, Cond.instanceMethod yX0_setting, Cond.selects RX0 yX0_setting yX0_setting, Cond.code yX0_setting cX0_setting 2 (some .int), Cond.methodLink RX6 112 yX0_changeSetting]
def wsX6_set_r4 : List Cond := [Cond.instanceMethod yX0_changeSetting, Cond.selects RX0 yX0_changeSetting yX0_changeSetting, Cond.code yX0_changeSetting cX0_changeSetting 3 none]
def wsX6_set : List Cond := .code yX6_set cX6_set 4 (some .int) :: ((wsX6_set_r1 ++ (wsX6_set_r2 ++ (wsX6_set_r3 ++ wsX6_set_r4))) ++ wsX60 ++ wsX40 ++ wsX10 ++ wsX00)
def wsX6_lineOf : List Cond := .code yX6_lineOf cX6_lineOf 3 (some .int) :: ([.constant RX6 48 (-1000001), .fieldLink RX6 10 "BatteryCaches" "now" "LBatteryCaches$State;", .fieldLink RX6 68 "BatteryCaches$State" "kind" "[I", .constant RX6 116 (-1000004), .fieldLink RX6 117 "BatteryCaches$State" "place" "[I", .fieldLink RX6 120 "BatteryCaches$State" "value" "[I", .fieldLink RX6 123 "BatteryCaches$State" "turn" "[I", .methodLink RX6 65 yX6_isLine, .static yX6_isLine, .initialized RX6, .code yX6_isLine cX6_isLine 1 (some .boolean), .methodLink RX6 57 yX6_isWithin, .static yX6_isWithin, .code yX6_isWithin cX6_isWithin 3 (some .boolean), .methodLink RX6 126 yX4_linesAhead, .instanceMethod yX4_linesAhead, .selects RX4 yX4_linesAhead yX4_linesAhead, .initialized RX4, .code yX4_linesAhead cX4_linesAhead 5 (some .int), .fieldLink RX4 25 "BatteryCaches$State" "kind" "[I", .fieldLink RX4 34 "BatteryCaches$State" "turn" "[I"] ++ wsX60 ++ wsX40)
def wsX6_placeOf : List Cond := .code yX6_placeOf cX6_placeOf 4 (some .int) :: ([.constant RX6 48 (-1000001), .fieldLink RX6 10 "BatteryCaches" "now" "LBatteryCaches$State;", .fieldLink RX6 132 "BatteryCaches$State" "disk" "[I", .fieldLink RX6 120 "BatteryCaches$State" "value" "[I", .constant RX6 116 (-1000004), .fieldLink RX6 135 "BatteryCaches$State" "laid" "[I", .methodLink RX6 44 yX6_isPlace, .static yX6_isPlace, .initialized RX6, .code yX6_isPlace cX6_isPlace 1 (some .boolean), .methodLink RX6 57 yX6_isWithin, .static yX6_isWithin, .code yX6_isWithin cX6_isWithin 3 (some .boolean), .methodLink RX6 129 yX4_holderOf, .instanceMethod yX4_holderOf, .selects RX4 yX4_holderOf yX4_holderOf, .initialized RX4, .code yX4_holderOf cX4_holderOf 3 (some .int), .fieldLink RX4 25 "BatteryCaches$State" "kind" "[I", .fieldLink RX4 28 "BatteryCaches$State" "place" "[I", .methodLink RX6 65 yX6_isLine, .static yX6_isLine, .code yX6_isLine cX6_isLine 1 (some .boolean)] ++ wsX60 ++ wsX40)
def wsX6_battery_r1 : List Cond := [Cond.fieldLink RX6 10 "BatteryCaches" "now" "LBatteryCaches$State;", Cond.fieldLink RX6 86 "BatteryCaches$State" "battery" "LBatteryCaches$Battery;", Cond.fieldLink RX6 138 "BatteryCaches$Battery" "charge" "I", Cond.fieldLink RX6 144 "BatteryCaches$Battery" "wear" "I", Cond.fieldLink RX6 89 "BatteryCaches$Battery" "cycle" "I", Cond.constant RX6 48 (-1000001), Cond.methodLink RX6 141 yX0_capacity, Cond.instanceMethod yX0_capacity, Cond.selects RX0 yX0_capacity yX0_capacity, Cond.initialized RX0, Cond.code yX0_capacity cX0_capacity 1 (some .int), Cond.fieldLink RX0 15 "BatteryCaches$Battery" "wear" "I", Cond.methodLink RX6 147 yX0_allowance, Cond.instanceMethod yX0_allowance, Cond.selects RX0 yX0_allowance yX0_allowance, Cond.code yX0_allowance cX0_allowance 1 (some .int), Cond.fieldLink RX0 18 "BatteryCaches$Battery" "cycle" "I", Cond.methodLink RX0 33 yX0_savable, Cond.instanceMethod yX0_savable, Cond.selects RX0 yX0_savable yX0_savable, Cond.code yX0_savable cX0_savable 1 (some .int), Cond.fieldLink RX0 9 "BatteryCaches$Battery" "charge" "I", Cond.fieldLink RX0 24 "BatteryCaches$Battery" "cutCost" "I", Cond.fieldLink RX0 21 "BatteryCaches$Battery" "lineCost" "I"]
def wsX6_battery_r2 : List Cond := [Cond.methodLink RX0 37 Lib.Math.min.name, Cond.static Lib.Math.min.name, Cond.initialized "java/lang/Math", Cond.code Lib.Math.min.name Lib.Math.min.code 2 (some .int), Cond.methodLink RX6 150 yX4_savedByCut, Cond.instanceMethod yX4_savedByCut, Cond.selects RX4 yX4_savedByCut yX4_savedByCut, Cond.initialized RX4, Cond.code yX4_savedByCut cX4_savedByCut 1 (some .int), Cond.fieldLink RX4 12 "BatteryCaches$State" "battery" "LBatteryCaches$Battery;", Cond.methodLink RX4 148 Lib.Math.min.name, Cond.methodLink RX4 84 yX4_numberOf, Cond.instanceMethod yX4_numberOf, Cond.selects RX4 yX4_numberOf yX4_numberOf, Cond.code yX4_numberOf cX4_numberOf 2 (some .int), Cond.methodLink RX4 154 yX4_setOf, Cond.instanceMethod yX4_setOf, Cond.selects RX4 yX4_setOf yX4_setOf, Cond.code yX4_setOf cX4_setOf 4 (some .int), Cond.fieldLink RX4 25 "BatteryCaches$State" "kind" "[I", Cond.methodLink RX4 157 yJ6_bitCount_0f7a4, Cond.static yJ6_bitCount_0f7a4, Cond.initialized RJ6, Cond.code yJ6_bitCount_0f7a4 cJ6_bitCount_0f7a4 1 (some .int)]
def wsX6_battery_r3 : List Cond := [Cond.constant RJ6 265 (1431655765), Cond.constant RJ6 266 (858993459), Cond.constant RJ6 267 (252645135), Cond.methodLink RX4 145 yX0_savable]
def wsX6_battery : List Cond := .code yX6_battery cX6_battery 2 (some .int) :: ((wsX6_battery_r1 ++ (wsX6_battery_r2 ++ wsX6_battery_r3)) ++ wsX60 ++ wsX40 ++ wsX00)
def wsX6_lines_r1 : List Cond := [Cond.fieldLink RX6 10 "BatteryCaches" "now" "LBatteryCaches$State;", Cond.constant RX6 48 (-1000001), Cond.methodLink RX6 153 yX4_setOf, Cond.instanceMethod yX4_setOf, Cond.selects RX4 yX4_setOf yX4_setOf, Cond.initialized RX4, Cond.code yX4_setOf cX4_setOf 4 (some .int), Cond.fieldLink RX4 25 "BatteryCaches$State" "kind" "[I", Cond.methodLink RX6 156 yX4_lostByCut, Cond.instanceMethod yX4_lostByCut, Cond.selects RX4 yX4_lostByCut yX4_lostByCut, Cond.code yX4_lostByCut cX4_lostByCut 4 (some .int), Cond.methodLink RX4 133 yX4_savedByCut, Cond.instanceMethod yX4_savedByCut, Cond.selects RX4 yX4_savedByCut yX4_savedByCut, Cond.code yX4_savedByCut cX4_savedByCut 1 (some .int), Cond.fieldLink RX4 12 "BatteryCaches$State" "battery" "LBatteryCaches$Battery;", Cond.methodLink RX4 148 Lib.Math.min.name, Cond.static Lib.Math.min.name, Cond.initialized "java/lang/Math", Cond.code Lib.Math.min.name Lib.Math.min.code 2 (some .int), Cond.methodLink RX4 84 yX4_numberOf, Cond.instanceMethod yX4_numberOf, Cond.selects RX4 yX4_numberOf yX4_numberOf]
def wsX6_lines_r2 : List Cond := [Cond.code yX4_numberOf cX4_numberOf 2 (some .int), Cond.methodLink RX4 154 yX4_setOf, Cond.methodLink RX4 157 yJ6_bitCount_0f7a4, Cond.static yJ6_bitCount_0f7a4, Cond.initialized RJ6, Cond.code yJ6_bitCount_0f7a4 cJ6_bitCount_0f7a4 1 (some .int), Cond.constant RJ6 265 (1431655765), Cond.constant RJ6 266 (858993459), Cond.constant RJ6 267 (252645135), Cond.methodLink RX4 145 yX0_savable, Cond.instanceMethod yX0_savable, Cond.selects RX0 yX0_savable yX0_savable, Cond.initialized RX0, Cond.code yX0_savable cX0_savable 1 (some .int), Cond.fieldLink RX0 9 "BatteryCaches$Battery" "charge" "I", Cond.fieldLink RX0 24 "BatteryCaches$Battery" "cutCost" "I", Cond.fieldLink RX0 21 "BatteryCaches$Battery" "lineCost" "I", Cond.methodLink RX0 37 Lib.Math.min.name, Cond.methodLink RX4 151 yX4_linesAhead, Cond.instanceMethod yX4_linesAhead, Cond.selects RX4 yX4_linesAhead yX4_linesAhead, Cond.code yX4_linesAhead cX4_linesAhead 5 (some .int), Cond.fieldLink RX4 34 "BatteryCaches$State" "turn" "[I", Cond.static yX6_isLine]
def wsX6_lines_r3 : List Cond := [Cond.initialized RX6, Cond.code yX6_isLine cX6_isLine 1 (some .boolean)]
def wsX6_lines : List Cond := .code yX6_lines cX6_lines 2 (some .int) :: ((wsX6_lines_r1 ++ (wsX6_lines_r2 ++ wsX6_lines_r3)) ++ wsX60 ++ wsX40 ++ wsX00)
def wsX6_wouldFlush_r1 : List Cond := [Cond.constant RX6 48 (-1000001), Cond.fieldLink RX6 40 "BatteryCaches" "trialBattery" "LBatteryCaches$Battery;", Cond.fieldLink RX6 10 "BatteryCaches" "now" "LBatteryCaches$State;", Cond.fieldLink RX6 86 "BatteryCaches$State" "battery" "LBatteryCaches$Battery;", Cond.methodLink RX6 166 Lib.Math.max.name, Cond.static Lib.Math.max.name, Cond.initialized "java/lang/Math", Cond.code Lib.Math.max.name Lib.Math.max.code 2 (some .int), Cond.methodLink RX6 57 yX6_isWithin, Cond.static yX6_isWithin, Cond.initialized RX6, Cond.code yX6_isWithin cX6_isWithin 3 (some .boolean), Cond.methodLink RX6 159 yX0_copyFrom, Cond.instanceMethod yX0_copyFrom, Cond.selects RX0 yX0_copyFrom yX0_copyFrom, Cond.initialized RX0, Cond.code yX0_copyFrom cX0_copyFrom 2 none, Cond.fieldLink RX0 9 "BatteryCaches$Battery" "charge" "I", Cond.fieldLink RX0 15 "BatteryCaches$Battery" "wear" "I", Cond.fieldLink RX0 18 "BatteryCaches$Battery" "cycle" "I", Cond.fieldLink RX0 21 "BatteryCaches$Battery" "lineCost" "I", Cond.fieldLink RX0 24 "BatteryCaches$Battery" "cutCost" "I", Cond.fieldLink RX0 27 "BatteryCaches$Battery" "rise" "I", Cond.fieldLink RX0 30 "BatteryCaches$Battery" "fall" "I"]
def wsX6_wouldFlush_r2 : List Cond := [Cond.methodLink RX6 163 yX0_useUp, Cond.instanceMethod yX0_useUp, Cond.selects RX0 yX0_useUp yX0_useUp, Cond.code yX0_useUp cX0_useUp 2 none, Cond.methodLink RX0 43 Lib.Math.max.name, Cond.methodLink RX6 77 yX4_numberOf, Cond.instanceMethod yX4_numberOf, Cond.selects RX4 yX4_numberOf yX4_numberOf, Cond.initialized RX4, Cond.code yX4_numberOf cX4_numberOf 2 (some .int), Cond.methodLink RX4 154 yX4_setOf, Cond.instanceMethod yX4_setOf, Cond.selects RX4 yX4_setOf yX4_setOf, Cond.code yX4_setOf cX4_setOf 4 (some .int), Cond.fieldLink RX4 25 "BatteryCaches$State" "kind" "[I", Cond.methodLink RX4 157 yJ6_bitCount_0f7a4, Cond.static yJ6_bitCount_0f7a4, Cond.initialized RJ6, Cond.code yJ6_bitCount_0f7a4 cJ6_bitCount_0f7a4 1 (some .int), Cond.constant RJ6 265 (1431655765), Cond.constant RJ6 266 (858993459), Cond.constant RJ6 267 (252645135), Cond.methodLink RX6 147 yX0_allowance, Cond.instanceMethod yX0_allowance]
def wsX6_wouldFlush_r3 : List Cond := [Cond.selects RX0 yX0_allowance yX0_allowance, Cond.code yX0_allowance cX0_allowance 1 (some .int), Cond.methodLink RX0 33 yX0_savable, Cond.instanceMethod yX0_savable, Cond.selects RX0 yX0_savable yX0_savable, Cond.code yX0_savable cX0_savable 1 (some .int), Cond.methodLink RX0 37 Lib.Math.min.name, Cond.static Lib.Math.min.name, Cond.code Lib.Math.min.name Lib.Math.min.code 2 (some .int)]
def wsX6_wouldFlush : List Cond := .code yX6_wouldFlush cX6_wouldFlush 2 (some .int) :: ((wsX6_wouldFlush_r1 ++ (wsX6_wouldFlush_r2 ++ wsX6_wouldFlush_r3)) ++ wsX60 ++ wsX40 ++ wsX00)
def wsX6_critical_r1 : List Cond := [Cond.fieldLink RX6 10 "BatteryCaches" "now" "LBatteryCaches$State;", Cond.fieldLink RX6 86 "BatteryCaches$State" "battery" "LBatteryCaches$Battery;", Cond.fieldLink RX6 138 "BatteryCaches$Battery" "charge" "I", Cond.methodLink RX6 166 Lib.Math.max.name, Cond.static Lib.Math.max.name, Cond.initialized "java/lang/Math", Cond.code Lib.Math.max.name Lib.Math.max.code 2 (some .int), Cond.constant RX6 116 (-1000004), Cond.methodLink RX6 77 yX4_numberOf, Cond.instanceMethod yX4_numberOf, Cond.selects RX4 yX4_numberOf yX4_numberOf, Cond.initialized RX4, Cond.code yX4_numberOf cX4_numberOf 2 (some .int), Cond.methodLink RX4 154 yX4_setOf, Cond.instanceMethod yX4_setOf, Cond.selects RX4 yX4_setOf yX4_setOf, Cond.code yX4_setOf cX4_setOf 4 (some .int), Cond.fieldLink RX4 25 "BatteryCaches$State" "kind" "[I", Cond.methodLink RX4 157 yJ6_bitCount_0f7a4, Cond.static yJ6_bitCount_0f7a4, Cond.initialized RJ6, Cond.code yJ6_bitCount_0f7a4 cJ6_bitCount_0f7a4 1 (some .int), Cond.constant RJ6 265 (1431655765), Cond.constant RJ6 266 (858993459)]
def wsX6_critical_r2 : List Cond := [Cond.constant RJ6 267 (252645135), Cond.methodLink RX6 171 yX0_costToSave, Cond.instanceMethod yX0_costToSave, Cond.selects RX0 yX0_costToSave yX0_costToSave, Cond.initialized RX0, Cond.code yX0_costToSave cX0_costToSave 2 (some .int), Cond.fieldLink RX0 24 "BatteryCaches$Battery" "cutCost" "I", Cond.fieldLink RX0 21 "BatteryCaches$Battery" "lineCost" "I"]
def wsX6_critical : List Cond := .code yX6_critical cX6_critical 3 (some .int) :: ((wsX6_critical_r1 ++ wsX6_critical_r2) ++ wsX60 ++ wsX40 ++ wsX00)
def wsX6_ticksUntil_r1 : List Cond := [Cond.constant RX6 48 (-1000001), Cond.fieldLink RX6 40 "BatteryCaches" "trialBattery" "LBatteryCaches$Battery;", Cond.fieldLink RX6 10 "BatteryCaches" "now" "LBatteryCaches$State;", Cond.fieldLink RX6 86 "BatteryCaches$State" "battery" "LBatteryCaches$Battery;", Cond.constant RX6 116 (-1000004), Cond.methodLink RX6 57 yX6_isWithin, Cond.static yX6_isWithin, Cond.initialized RX6, Cond.code yX6_isWithin cX6_isWithin 3 (some .boolean), Cond.methodLink RX6 159 yX0_copyFrom, Cond.instanceMethod yX0_copyFrom, Cond.selects RX0 yX0_copyFrom yX0_copyFrom, Cond.initialized RX0, Cond.code yX0_copyFrom cX0_copyFrom 2 none, Cond.fieldLink RX0 9 "BatteryCaches$Battery" "charge" "I", Cond.fieldLink RX0 15 "BatteryCaches$Battery" "wear" "I", Cond.fieldLink RX0 18 "BatteryCaches$Battery" "cycle" "I", Cond.fieldLink RX0 21 "BatteryCaches$Battery" "lineCost" "I", Cond.fieldLink RX0 24 "BatteryCaches$Battery" "cutCost" "I", Cond.fieldLink RX0 27 "BatteryCaches$Battery" "rise" "I", Cond.fieldLink RX0 30 "BatteryCaches$Battery" "fall" "I", Cond.methodLink RX6 147 yX0_allowance, Cond.instanceMethod yX0_allowance, Cond.selects RX0 yX0_allowance yX0_allowance]
def wsX6_ticksUntil_r2 : List Cond := [Cond.code yX0_allowance cX0_allowance 1 (some .int), Cond.methodLink RX0 33 yX0_savable, Cond.instanceMethod yX0_savable, Cond.selects RX0 yX0_savable yX0_savable, Cond.code yX0_savable cX0_savable 1 (some .int), Cond.methodLink RX0 37 Lib.Math.min.name, Cond.static Lib.Math.min.name, Cond.initialized "java/lang/Math", Cond.code Lib.Math.min.name Lib.Math.min.code 2 (some .int), Cond.methodLink RX6 174 yX0_passTick, Cond.instanceMethod yX0_passTick, Cond.selects RX0 yX0_passTick yX0_passTick, Cond.code yX0_passTick cX0_passTick 1 (some .boolean), Cond.methodLink RX0 54 yX0_fallInCycle, Cond.instanceMethod yX0_fallInCycle, Cond.selects RX0 yX0_fallInCycle yX0_fallInCycle, Cond.code yX0_fallInCycle cX0_fallInCycle 1 none, Cond.methodLink RX0 50 yX0_useUp, Cond.instanceMethod yX0_useUp, Cond.selects RX0 yX0_useUp yX0_useUp, Cond.code yX0_useUp cX0_useUp 2 none, Cond.methodLink RX0 43 Lib.Math.max.name, Cond.static Lib.Math.max.name, Cond.code Lib.Math.max.name Lib.Math.max.code 2 (some .int)]
def wsX6_ticksUntil_r3 : List Cond := [Cond.methodLink RX0 57 yX0_capacity, Cond.instanceMethod yX0_capacity, Cond.selects RX0 yX0_capacity yX0_capacity, Cond.code yX0_capacity cX0_capacity 1 (some .int)]
def wsX6_ticksUntil : List Cond := .code yX6_ticksUntil cX6_ticksUntil 3 (some .int) :: ((wsX6_ticksUntil_r1 ++ (wsX6_ticksUntil_r2 ++ wsX6_ticksUntil_r3)) ++ wsX60 ++ wsX40 ++ wsX00)
def wsX6_pair_r1 : List Cond := [Cond.constant RX6 48 (-1000001), Cond.fieldLink RX6 10 "BatteryCaches" "now" "LBatteryCaches$State;", Cond.constant RX6 116 (-1000004), Cond.methodLink RX6 57 yX6_isWithin, Cond.static yX6_isWithin, Cond.initialized RX6, Cond.code yX6_isWithin cX6_isWithin 3 (some .boolean), Cond.methodLink RX6 178 yX4_nearestPair, Cond.instanceMethod yX4_nearestPair, Cond.selects RX4 yX4_nearestPair yX4_nearestPair, Cond.initialized RX4, Cond.code yX4_nearestPair cX4_nearestPair 6 (some .int), Cond.fieldLink RX4 25 "BatteryCaches$State" "kind" "[I", Cond.fieldLink RX4 34 "BatteryCaches$State" "turn" "[I", Cond.methodLink RX4 162 yX4_distanceToDirty, Cond.instanceMethod yX4_distanceToDirty, Cond.selects RX4 yX4_distanceToDirty yX4_distanceToDirty, Cond.code yX4_distanceToDirty cX4_distanceToDirty 4 (some .int), Cond.fieldLink RX4 28 "BatteryCaches$State" "place" "[I", Cond.methodLink RX4 165 Lib.Math.abs.name, Cond.static Lib.Math.abs.name, Cond.initialized "java/lang/Math", Cond.code Lib.Math.abs.name Lib.Math.abs.code 1 (some .int), Cond.methodLink RX4 148 Lib.Math.min.name]
def wsX6_pair_r2 : List Cond := [Cond.static Lib.Math.min.name, Cond.code Lib.Math.min.name Lib.Math.min.code 2 (some .int), Cond.static yX6_isLine, Cond.code yX6_isLine cX6_isLine 1 (some .boolean), Cond.methodLink RX6 65 yX6_isLine, Cond.methodLink RX6 181 yX4_distanceToDirty]
def wsX6_pair : List Cond := .code yX6_pair cX6_pair 3 (some .int) :: ((wsX6_pair_r1 ++ wsX6_pair_r2) ++ wsX60 ++ wsX40)
def wsX6_count_r1 : List Cond := [Cond.fieldLink RX6 10 "BatteryCaches" "now" "LBatteryCaches$State;", Cond.fieldLink RX6 184 "BatteryCaches$State" "ticks" "I", Cond.fieldLink RX6 187 "BatteryCaches$State" "hits" "I", Cond.fieldLink RX6 190 "BatteryCaches$State" "misses" "I", Cond.fieldLink RX6 193 "BatteryCaches$State" "flushed" "I", Cond.fieldLink RX6 196 "BatteryCaches$State" "wentThrough" "I", Cond.fieldLink RX6 199 "BatteryCaches$State" "lost" "I", Cond.fieldLink RX6 202 "BatteryCaches$State" "cuts" "I", Cond.fieldLink RX6 205 "BatteryCaches$State" "cyclesEnded" "I", Cond.fieldLink RX6 208 "BatteryCaches$State" "laidInAll" "I", Cond.fieldLink RX6 19 "BatteryCaches" "history" "LBatteryCaches$History;", Cond.fieldLink RX6 211 "BatteryCaches$History" "size" "I", Cond.fieldLink RX6 26 "BatteryCaches" "text" "LBatteryCaches$Text;", Cond.fieldLink RX6 214 "BatteryCaches$Text" "length" "I", Cond.fieldLink RX6 86 "BatteryCaches$State" "battery" "LBatteryCaches$Battery;", Cond.constant RX6 48 (-1000001), Cond.methodLink RX6 100 yX6_isSetting, Cond.static yX6_isSetting, Cond.initialized RX6, Cond.code yX6_isSetting cX6_isSetting 1 (some .boolean), Cond.methodLink RX6 109 yX0_setting, Cond.instanceMethod yX0_setting, Cond.selects RX0 yX0_setting yX0_setting, Cond.initialized RX0]
def wsX6_count_r2 : List Cond := [Cond.code yX0_setting cX0_setting 2 (some .int), Cond.fieldLink RX0 21 "BatteryCaches$Battery" "lineCost" "I", Cond.fieldLink RX0 24 "BatteryCaches$Battery" "cutCost" "I", Cond.fieldLink RX0 27 "BatteryCaches$Battery" "rise" "I", Cond.fieldLink RX0 30 "BatteryCaches$Battery" "fall" "I"]
def wsX6_count : List Cond := .code yX6_count cX6_count 2 (some .int) :: ((wsX6_count_r1 ++ wsX6_count_r2) ++ wsX60 ++ wsX40 ++ wsX10 ++ wsX50 ++ wsX00)
def wsX6_undo_r1 : List Cond := [Cond.fieldLink RX6 19 "BatteryCaches" "history" "LBatteryCaches$History;", Cond.fieldLink RX6 211 "BatteryCaches$History" "size" "I", Cond.constant RX6 72 (-1000002), Cond.fieldLink RX6 10 "BatteryCaches" "now" "LBatteryCaches$State;", Cond.methodLink RX6 217 yX1_restore, Cond.instanceMethod yX1_restore, Cond.selects RX1 yX1_restore yX1_restore, Cond.initialized RX1, Cond.code yX1_restore cX1_restore 2 none, Cond.fieldLink RX1 17 "BatteryCaches$History" "size" "I", Cond.fieldLink RX1 11 "BatteryCaches$History" "states" "[LBatteryCaches$State;", Cond.static yX6_isWithin, Cond.initialized RX6, Cond.code yX6_isWithin cX6_isWithin 3 (some .boolean), Cond.methodLink RX1 29 yX4_copy, Cond.static yX4_copy, Cond.initialized RX4, Cond.code yX4_copy cX4_copy 2 none, Cond.fieldLink RX4 12 "BatteryCaches$State" "battery" "LBatteryCaches$Battery;", Cond.fieldLink RX4 18 "BatteryCaches$State" "disk" "[I", Cond.fieldLink RX4 22 "BatteryCaches$State" "laid" "[I", Cond.fieldLink RX4 25 "BatteryCaches$State" "kind" "[I", Cond.fieldLink RX4 28 "BatteryCaches$State" "place" "[I", Cond.fieldLink RX4 31 "BatteryCaches$State" "value" "[I"]
def wsX6_undo_r2 : List Cond := [Cond.fieldLink RX4 34 "BatteryCaches$State" "turn" "[I", Cond.fieldLink RX4 37 "BatteryCaches$State" "lastTurn" "I", Cond.fieldLink RX4 41 "BatteryCaches$State" "ticks" "I", Cond.fieldLink RX4 44 "BatteryCaches$State" "hits" "I", Cond.fieldLink RX4 47 "BatteryCaches$State" "misses" "I", Cond.fieldLink RX4 50 "BatteryCaches$State" "flushed" "I", Cond.fieldLink RX4 53 "BatteryCaches$State" "wentThrough" "I", Cond.fieldLink RX4 56 "BatteryCaches$State" "lost" "I", Cond.fieldLink RX4 59 "BatteryCaches$State" "cuts" "I", Cond.fieldLink RX4 62 "BatteryCaches$State" "cyclesEnded" "I", Cond.fieldLink RX4 65 "BatteryCaches$State" "laidInAll" "I", Cond.methodLink RX4 68 yX0_copyFrom, Cond.instanceMethod yX0_copyFrom, Cond.selects RX0 yX0_copyFrom yX0_copyFrom, Cond.initialized RX0, Cond.code yX0_copyFrom cX0_copyFrom 2 none, Cond.fieldLink RX0 9 "BatteryCaches$Battery" "charge" "I", Cond.fieldLink RX0 15 "BatteryCaches$Battery" "wear" "I", Cond.fieldLink RX0 18 "BatteryCaches$Battery" "cycle" "I", Cond.fieldLink RX0 21 "BatteryCaches$Battery" "lineCost" "I", Cond.fieldLink RX0 24 "BatteryCaches$Battery" "cutCost" "I", Cond.fieldLink RX0 27 "BatteryCaches$Battery" "rise" "I", Cond.fieldLink RX0 30 "BatteryCaches$Battery" "fall" "I", Cond.static yX6_copyRow]
def wsX6_undo_r3 : List Cond := [Cond.code yX6_copyRow cX6_copyRow 2 none, Cond.methodLink RX6 253 Lib.Math.min.name, Cond.static Lib.Math.min.name, Cond.initialized "java/lang/Math", Cond.code Lib.Math.min.name Lib.Math.min.code 2 (some .int), Cond.methodLink RX6 256 arraycopyName, Cond.native arraycopyName, Cond.static arraycopyName, Cond.initialized "java/lang/System"]
def wsX6_undo : List Cond := .code yX6_undo cX6_undo 1 (some .int) :: ((wsX6_undo_r1 ++ (wsX6_undo_r2 ++ wsX6_undo_r3)) ++ wsX60 ++ wsX10 ++ wsX40 ++ wsX00)
def wsX6_type : List Cond := .code yX6_type cX6_type 2 (some .int) :: ([.constant RX6 48 (-1000001), .fieldLink RX6 26 "BatteryCaches" "text" "LBatteryCaches$Text;", .fieldLink RX6 214 "BatteryCaches$Text" "length" "I", .constant RX6 220 (-1000003), .methodLink RX6 57 yX6_isWithin, .static yX6_isWithin, .initialized RX6, .code yX6_isWithin cX6_isWithin 3 (some .boolean), .methodLink RX6 221 yX5_append, .instanceMethod yX5_append, .selects RX5 yX5_append yX5_append, .initialized RX5, .code yX5_append cX5_append 2 none, .fieldLink RX5 15 "BatteryCaches$Text" "length" "I", .fieldLink RX5 9 "BatteryCaches$Text" "characters" "[I"] ++ wsX60 ++ wsX50)
def wsX6_clearText : List Cond := .code yX6_clearText cX6_clearText 2 (some .int) :: ([.fieldLink RX6 26 "BatteryCaches" "text" "LBatteryCaches$Text;", .fieldLink RX6 214 "BatteryCaches$Text" "length" "I"] ++ wsX60 ++ wsX50)
def wsX6_fault_r1 : List Cond := [Cond.constant RX6 48 (-1000001), Cond.fieldLink RX6 33 "BatteryCaches" "rehearsal" "LBatteryCaches$Rehearsal;", Cond.fieldLink RX6 26 "BatteryCaches" "text" "LBatteryCaches$Text;", Cond.fieldLink RX6 10 "BatteryCaches" "now" "LBatteryCaches$State;", Cond.fieldLink RX6 228 "BatteryCaches$Rehearsal" "order" "LBatteryCaches$Order;", Cond.fieldLink RX6 232 "BatteryCaches$Order" "reason" "I", Cond.constant RX6 116 (-1000004), Cond.fieldLink RX6 237 "BatteryCaches$Order" "start" "I", Cond.fieldLink RX6 240 "BatteryCaches$Order" "cause" "I", Cond.methodLink RX6 57 yX6_isWithin, Cond.static yX6_isWithin, Cond.initialized RX6, Cond.code yX6_isWithin cX6_isWithin 3 (some .boolean), Cond.methodLink RX6 224 yX3_run, Cond.instanceMethod yX3_run, Cond.selects RX3 yX3_run yX3_run, Cond.initialized RX3, Cond.code yX3_run cX3_run 4 none, Cond.fieldLink RX3 12 "BatteryCaches$Rehearsal" "trial" "LBatteryCaches$State;", Cond.fieldLink RX3 21 "BatteryCaches$Rehearsal" "order" "LBatteryCaches$Order;", Cond.fieldLink RX3 25 "BatteryCaches$Rehearsal" "done" "I", Cond.fieldLink RX3 36 "BatteryCaches$Order" "next" "I", Cond.fieldLink RX3 39 "BatteryCaches$Text" "length" "I", Cond.fieldLink RX3 48 "BatteryCaches$Order" "reason" "I"]
def wsX6_fault_r2 : List Cond := [Cond.methodLink RX3 29 yX4_copy, Cond.static yX4_copy, Cond.initialized RX4, Cond.code yX4_copy cX4_copy 2 none, Cond.fieldLink RX4 12 "BatteryCaches$State" "battery" "LBatteryCaches$Battery;", Cond.fieldLink RX4 18 "BatteryCaches$State" "disk" "[I", Cond.fieldLink RX4 22 "BatteryCaches$State" "laid" "[I", Cond.fieldLink RX4 25 "BatteryCaches$State" "kind" "[I", Cond.fieldLink RX4 28 "BatteryCaches$State" "place" "[I", Cond.fieldLink RX4 31 "BatteryCaches$State" "value" "[I", Cond.fieldLink RX4 34 "BatteryCaches$State" "turn" "[I", Cond.fieldLink RX4 37 "BatteryCaches$State" "lastTurn" "I", Cond.fieldLink RX4 41 "BatteryCaches$State" "ticks" "I", Cond.fieldLink RX4 44 "BatteryCaches$State" "hits" "I", Cond.fieldLink RX4 47 "BatteryCaches$State" "misses" "I", Cond.fieldLink RX4 50 "BatteryCaches$State" "flushed" "I", Cond.fieldLink RX4 53 "BatteryCaches$State" "wentThrough" "I", Cond.fieldLink RX4 56 "BatteryCaches$State" "lost" "I", Cond.fieldLink RX4 59 "BatteryCaches$State" "cuts" "I", Cond.fieldLink RX4 62 "BatteryCaches$State" "cyclesEnded" "I", Cond.fieldLink RX4 65 "BatteryCaches$State" "laidInAll" "I", Cond.methodLink RX4 68 yX0_copyFrom, Cond.instanceMethod yX0_copyFrom, Cond.selects RX0 yX0_copyFrom yX0_copyFrom]
def wsX6_fault_r3 : List Cond := [Cond.initialized RX0, Cond.code yX0_copyFrom cX0_copyFrom 2 none, Cond.fieldLink RX0 9 "BatteryCaches$Battery" "charge" "I", Cond.fieldLink RX0 15 "BatteryCaches$Battery" "wear" "I", Cond.fieldLink RX0 18 "BatteryCaches$Battery" "cycle" "I", Cond.fieldLink RX0 21 "BatteryCaches$Battery" "lineCost" "I", Cond.fieldLink RX0 24 "BatteryCaches$Battery" "cutCost" "I", Cond.fieldLink RX0 27 "BatteryCaches$Battery" "rise" "I", Cond.fieldLink RX0 30 "BatteryCaches$Battery" "fall" "I", Cond.static yX6_copyRow, Cond.code yX6_copyRow cX6_copyRow 2 none, Cond.methodLink RX6 253 Lib.Math.min.name, Cond.static Lib.Math.min.name, Cond.initialized "java/lang/Math", Cond.code Lib.Math.min.name Lib.Math.min.code 2 (some .int), Cond.methodLink RX6 256 arraycopyName, Cond.native arraycopyName, Cond.static arraycopyName, Cond.initialized "java/lang/System", Cond.methodLink RX3 33 yX2_beginText, Cond.instanceMethod yX2_beginText, Cond.selects RX2 yX2_beginText yX2_beginText, Cond.initialized RX2, Cond.code yX2_beginText cX2_beginText 1 none]
def wsX6_fault_r4 : List Cond := [Cond.fieldLink RX2 15 "BatteryCaches$Order" "next" "I", Cond.fieldLink RX2 27 "BatteryCaches$Order" "reason" "I", Cond.methodLink RX3 44 yX2_readNext, Cond.instanceMethod yX2_readNext, Cond.selects RX2 yX2_readNext yX2_readNext, Cond.code yX2_readNext cX2_readNext 2 none, Cond.fieldLink RX2 9 "BatteryCaches$Order" "start" "I", Cond.fieldLink RX2 30 "BatteryCaches$Order" "cause" "I", Cond.fieldLink RX2 21 "BatteryCaches$Order" "number" "I", Cond.methodLink RX2 33 yX2_hasForm, Cond.instanceMethod yX2_hasForm, Cond.selects RX2 yX2_hasForm yX2_hasForm, Cond.code yX2_hasForm cX2_hasForm 2 (some .boolean), Cond.fieldLink RX2 18 "BatteryCaches$Order" "letter" "I", Cond.methodLink RX2 41 yX5_at, Cond.instanceMethod yX5_at, Cond.selects RX5 yX5_at yX5_at, Cond.initialized RX5, Cond.code yX5_at cX5_at 3 (some .int), Cond.fieldLink RX5 15 "BatteryCaches$Text" "length" "I", Cond.fieldLink RX5 9 "BatteryCaches$Text" "characters" "[I", Cond.methodLink RX2 47 yX2_readNumber, Cond.instanceMethod yX2_readNumber, Cond.selects RX2 yX2_readNumber yX2_readNumber]
def wsX6_fault_r5 : List Cond := [Cond.code yX2_readNumber cX2_readNumber 4 (some .int), Cond.methodLink RX2 51 yX2_readSign, Cond.instanceMethod yX2_readSign, Cond.selects RX2 yX2_readSign yX2_readSign, Cond.code yX2_readSign cX2_readSign 3 (some .boolean), Cond.methodLink RX2 55 yX2_hasFormOfWrite, Cond.instanceMethod yX2_hasFormOfWrite, Cond.selects RX2 yX2_hasFormOfWrite yX2_hasFormOfWrite, Cond.code yX2_hasFormOfWrite cX2_hasFormOfWrite 2 (some .boolean), Cond.fieldLink RX2 24 "BatteryCaches$Order" "newValue" "I", Cond.methodLink RX2 37 yX2_isInRange, Cond.instanceMethod yX2_isInRange, Cond.selects RX2 yX2_isInRange yX2_isInRange, Cond.code yX2_isInRange cX2_isInRange 1 (some .boolean), Cond.static yX6_isPlace, Cond.code yX6_isPlace cX6_isPlace 1 (some .boolean), Cond.methodLink RX3 51 yX3_isPossible, Cond.instanceMethod yX3_isPossible, Cond.selects RX3 yX3_isPossible yX3_isPossible, Cond.code yX3_isPossible cX3_isPossible 1 (some .boolean), Cond.fieldLink RX3 58 "BatteryCaches$Order" "letter" "I", Cond.fieldLink RX3 61 "BatteryCaches$State" "battery" "LBatteryCaches$Battery;", Cond.fieldLink RX3 65 "BatteryCaches$Battery" "cycle" "I", Cond.methodLink RX3 55 yX3_perform]
def wsX6_fault_r6 : List Cond := [Cond.instanceMethod yX3_perform, Cond.selects RX3 yX3_perform yX3_perform, Cond.code yX3_perform cX3_perform 1 none, Cond.fieldLink RX3 70 "BatteryCaches$Order" "number" "I", Cond.fieldLink RX3 77 "BatteryCaches$Order" "newValue" "I", Cond.methodLink RX3 73 yX4_readPlace, Cond.instanceMethod yX4_readPlace, Cond.selects RX4 yX4_readPlace yX4_readPlace, Cond.code yX4_readPlace cX4_readPlace 3 (some .int), Cond.methodLink RX4 76 yX4_lineFor, Cond.instanceMethod yX4_lineFor, Cond.selects RX4 yX4_lineFor yX4_lineFor, Cond.code yX4_lineFor cX4_lineFor 3 (some .int), Cond.methodLink RX4 95 yX4_holderOf, Cond.instanceMethod yX4_holderOf, Cond.selects RX4 yX4_holderOf yX4_holderOf, Cond.code yX4_holderOf cX4_holderOf 3 (some .int), Cond.static yX6_isLine, Cond.code yX6_isLine cX6_isLine 1 (some .boolean), Cond.methodLink RX4 98 yX4_lineToTake, Cond.instanceMethod yX4_lineToTake, Cond.selects RX4 yX4_lineToTake yX4_lineToTake, Cond.code yX4_lineToTake cX4_lineToTake 2 (some .int), Cond.methodLink RX4 108 yX4_lowestEmpty]
def wsX6_fault_r7 : List Cond := [Cond.instanceMethod yX4_lowestEmpty, Cond.selects RX4 yX4_lowestEmpty yX4_lowestEmpty, Cond.code yX4_lowestEmpty cX4_lowestEmpty 2 (some .int), Cond.methodLink RX4 111 yX4_lowestTurn, Cond.instanceMethod yX4_lowestTurn, Cond.selects RX4 yX4_lowestTurn yX4_lowestTurn, Cond.code yX4_lowestTurn cX4_lowestTurn 5 (some .int), Cond.methodLink RX4 101 yX4_flushLine, Cond.instanceMethod yX4_flushLine, Cond.selects RX4 yX4_flushLine yX4_flushLine, Cond.code yX4_flushLine cX4_flushLine 2 none, Cond.methodLink RX4 91 yX4_layOnDisk, Cond.instanceMethod yX4_layOnDisk, Cond.selects RX4 yX4_layOnDisk yX4_layOnDisk, Cond.code yX4_layOnDisk cX4_layOnDisk 3 none, Cond.methodLink RX4 105 yX4_layIntoLine, Cond.instanceMethod yX4_layIntoLine, Cond.selects RX4 yX4_layIntoLine yX4_layIntoLine, Cond.code yX4_layIntoLine cX4_layIntoLine 3 none, Cond.methodLink RX3 80 yX4_writePlace, Cond.instanceMethod yX4_writePlace, Cond.selects RX4 yX4_writePlace yX4_writePlace, Cond.code yX4_writePlace cX4_writePlace 4 (some .int), Cond.methodLink RX4 84 yX4_numberOf]
def wsX6_fault_r8 : List Cond := [Cond.instanceMethod yX4_numberOf, Cond.selects RX4 yX4_numberOf yX4_numberOf, Cond.code yX4_numberOf cX4_numberOf 2 (some .int), Cond.methodLink RX4 154 yX4_setOf, Cond.instanceMethod yX4_setOf, Cond.selects RX4 yX4_setOf yX4_setOf, Cond.code yX4_setOf cX4_setOf 4 (some .int), Cond.methodLink RX4 157 yJ6_bitCount_0f7a4, Cond.static yJ6_bitCount_0f7a4, Cond.initialized RJ6, Cond.code yJ6_bitCount_0f7a4 cJ6_bitCount_0f7a4 1 (some .int), Cond.constant RJ6 265 (1431655765), Cond.constant RJ6 266 (858993459), Cond.constant RJ6 267 (252645135), Cond.methodLink RX4 87 yX0_allowance, Cond.instanceMethod yX0_allowance, Cond.selects RX0 yX0_allowance yX0_allowance, Cond.code yX0_allowance cX0_allowance 1 (some .int), Cond.methodLink RX0 33 yX0_savable, Cond.instanceMethod yX0_savable, Cond.selects RX0 yX0_savable yX0_savable, Cond.code yX0_savable cX0_savable 1 (some .int), Cond.methodLink RX0 37 Lib.Math.min.name, Cond.methodLink RX3 84 yX4_passTicks]
def wsX6_fault_r9 : List Cond := [Cond.instanceMethod yX4_passTicks, Cond.selects RX4 yX4_passTicks yX4_passTicks, Cond.code yX4_passTicks cX4_passTicks 4 (some .int), Cond.methodLink RX4 117 yX0_passTick, Cond.instanceMethod yX0_passTick, Cond.selects RX0 yX0_passTick yX0_passTick, Cond.code yX0_passTick cX0_passTick 1 (some .boolean), Cond.methodLink RX0 54 yX0_fallInCycle, Cond.instanceMethod yX0_fallInCycle, Cond.selects RX0 yX0_fallInCycle yX0_fallInCycle, Cond.code yX0_fallInCycle cX0_fallInCycle 1 none, Cond.methodLink RX0 50 yX0_useUp, Cond.instanceMethod yX0_useUp, Cond.selects RX0 yX0_useUp yX0_useUp, Cond.code yX0_useUp cX0_useUp 2 none, Cond.methodLink RX0 43 Lib.Math.max.name, Cond.static Lib.Math.max.name, Cond.code Lib.Math.max.name Lib.Math.max.code 2 (some .int), Cond.methodLink RX0 57 yX0_capacity, Cond.instanceMethod yX0_capacity, Cond.selects RX0 yX0_capacity yX0_capacity, Cond.code yX0_capacity cX0_capacity 1 (some .int), Cond.methodLink RX4 121 yX4_tooMany, Cond.instanceMethod yX4_tooMany]
def wsX6_fault_r10 : List Cond := [Cond.selects RX4 yX4_tooMany yX4_tooMany, Cond.code yX4_tooMany cX4_tooMany 1 (some .int), Cond.methodLink RX4 139 Lib.Math.max.name, Cond.methodLink RX4 124 yX4_flushLowest, Cond.instanceMethod yX4_flushLowest, Cond.selects RX4 yX4_flushLowest yX4_flushLowest, Cond.code yX4_flushLowest cX4_flushLowest 3 (some .int), Cond.methodLink RX3 87 yX4_putLoad, Cond.instanceMethod yX4_putLoad, Cond.selects RX4 yX4_putLoad yX4_putLoad, Cond.code yX4_putLoad cX4_putLoad 2 (some .int), Cond.methodLink RX4 127 yX0_useUp, Cond.methodLink RX3 90 yX4_cutPower, Cond.instanceMethod yX4_cutPower, Cond.selects RX4 yX4_cutPower yX4_cutPower, Cond.code yX4_cutPower cX4_cutPower 4 (some .int), Cond.methodLink RX4 133 yX4_savedByCut, Cond.instanceMethod yX4_savedByCut, Cond.selects RX4 yX4_savedByCut yX4_savedByCut, Cond.code yX4_savedByCut cX4_savedByCut 1 (some .int), Cond.methodLink RX4 148 Lib.Math.min.name, Cond.methodLink RX4 145 yX0_savable, Cond.methodLink RX4 136 yX0_saveAtCut, Cond.instanceMethod yX0_saveAtCut]
def wsX6_fault_r11 : List Cond := [Cond.selects RX0 yX0_saveAtCut yX0_saveAtCut, Cond.code yX0_saveAtCut cX0_saveAtCut 2 none, Cond.methodLink RX0 46 yX0_costToSave, Cond.instanceMethod yX0_costToSave, Cond.selects RX0 yX0_costToSave yX0_costToSave, Cond.code yX0_costToSave cX0_costToSave 2 (some .int), Cond.methodLink RX3 94 yX4_beginCycle, Cond.instanceMethod yX4_beginCycle, Cond.selects RX4 yX4_beginCycle yX4_beginCycle, Cond.code yX4_beginCycle cX4_beginCycle 1 (some .int), Cond.fieldLink RX4 130 "BatteryCaches$Battery" "cycle" "I"]
def wsX6_fault : List Cond := .code yX6_fault cX6_fault 3 (some .int) :: ((wsX6_fault_r1 ++ (wsX6_fault_r2 ++ (wsX6_fault_r3 ++ (wsX6_fault_r4 ++ (wsX6_fault_r5 ++ (wsX6_fault_r6 ++ (wsX6_fault_r7 ++ (wsX6_fault_r8 ++ (wsX6_fault_r9 ++ (wsX6_fault_r10 ++ wsX6_fault_r11)))))))))) ++ wsX60 ++ wsX30 ++ wsX20 ++ wsX50 ++ wsX40 ++ wsX00)
def wsX6_play_r1 : List Cond := [Cond.fieldLink RX6 33 "BatteryCaches" "rehearsal" "LBatteryCaches$Rehearsal;", Cond.fieldLink RX6 26 "BatteryCaches" "text" "LBatteryCaches$Text;", Cond.fieldLink RX6 10 "BatteryCaches" "now" "LBatteryCaches$State;", Cond.fieldLink RX6 228 "BatteryCaches$Rehearsal" "order" "LBatteryCaches$Order;", Cond.fieldLink RX6 232 "BatteryCaches$Order" "reason" "I", Cond.constant RX6 72 (-1000002), Cond.fieldLink RX6 19 "BatteryCaches" "history" "LBatteryCaches$History;", Cond.fieldLink RX6 243 "BatteryCaches$Rehearsal" "trial" "LBatteryCaches$State;", Cond.fieldLink RX6 250 "BatteryCaches$Rehearsal" "done" "I", Cond.methodLink RX6 224 yX3_run, Cond.instanceMethod yX3_run, Cond.selects RX3 yX3_run yX3_run, Cond.initialized RX3, Cond.code yX3_run cX3_run 4 none, Cond.fieldLink RX3 12 "BatteryCaches$Rehearsal" "trial" "LBatteryCaches$State;", Cond.fieldLink RX3 21 "BatteryCaches$Rehearsal" "order" "LBatteryCaches$Order;", Cond.fieldLink RX3 25 "BatteryCaches$Rehearsal" "done" "I", Cond.fieldLink RX3 36 "BatteryCaches$Order" "next" "I", Cond.fieldLink RX3 39 "BatteryCaches$Text" "length" "I", Cond.fieldLink RX3 48 "BatteryCaches$Order" "reason" "I", Cond.methodLink RX3 29 yX4_copy, Cond.static yX4_copy, Cond.initialized RX4, Cond.code yX4_copy cX4_copy 2 none]
def wsX6_play_r2 : List Cond := [Cond.fieldLink RX4 12 "BatteryCaches$State" "battery" "LBatteryCaches$Battery;", Cond.fieldLink RX4 18 "BatteryCaches$State" "disk" "[I", Cond.fieldLink RX4 22 "BatteryCaches$State" "laid" "[I", Cond.fieldLink RX4 25 "BatteryCaches$State" "kind" "[I", Cond.fieldLink RX4 28 "BatteryCaches$State" "place" "[I", Cond.fieldLink RX4 31 "BatteryCaches$State" "value" "[I", Cond.fieldLink RX4 34 "BatteryCaches$State" "turn" "[I", Cond.fieldLink RX4 37 "BatteryCaches$State" "lastTurn" "I", Cond.fieldLink RX4 41 "BatteryCaches$State" "ticks" "I", Cond.fieldLink RX4 44 "BatteryCaches$State" "hits" "I", Cond.fieldLink RX4 47 "BatteryCaches$State" "misses" "I", Cond.fieldLink RX4 50 "BatteryCaches$State" "flushed" "I", Cond.fieldLink RX4 53 "BatteryCaches$State" "wentThrough" "I", Cond.fieldLink RX4 56 "BatteryCaches$State" "lost" "I", Cond.fieldLink RX4 59 "BatteryCaches$State" "cuts" "I", Cond.fieldLink RX4 62 "BatteryCaches$State" "cyclesEnded" "I", Cond.fieldLink RX4 65 "BatteryCaches$State" "laidInAll" "I", Cond.methodLink RX4 68 yX0_copyFrom, Cond.instanceMethod yX0_copyFrom, Cond.selects RX0 yX0_copyFrom yX0_copyFrom, Cond.initialized RX0, Cond.code yX0_copyFrom cX0_copyFrom 2 none, Cond.fieldLink RX0 9 "BatteryCaches$Battery" "charge" "I", Cond.fieldLink RX0 15 "BatteryCaches$Battery" "wear" "I"]
def wsX6_play_r3 : List Cond := [Cond.fieldLink RX0 18 "BatteryCaches$Battery" "cycle" "I", Cond.fieldLink RX0 21 "BatteryCaches$Battery" "lineCost" "I", Cond.fieldLink RX0 24 "BatteryCaches$Battery" "cutCost" "I", Cond.fieldLink RX0 27 "BatteryCaches$Battery" "rise" "I", Cond.fieldLink RX0 30 "BatteryCaches$Battery" "fall" "I", Cond.static yX6_copyRow, Cond.initialized RX6, Cond.code yX6_copyRow cX6_copyRow 2 none, Cond.methodLink RX6 253 Lib.Math.min.name, Cond.static Lib.Math.min.name, Cond.initialized "java/lang/Math", Cond.code Lib.Math.min.name Lib.Math.min.code 2 (some .int), Cond.methodLink RX6 256 arraycopyName, Cond.native arraycopyName, Cond.static arraycopyName, Cond.initialized "java/lang/System", Cond.methodLink RX3 33 yX2_beginText, Cond.instanceMethod yX2_beginText, Cond.selects RX2 yX2_beginText yX2_beginText, Cond.initialized RX2, Cond.code yX2_beginText cX2_beginText 1 none, Cond.fieldLink RX2 15 "BatteryCaches$Order" "next" "I", Cond.fieldLink RX2 27 "BatteryCaches$Order" "reason" "I", Cond.methodLink RX3 44 yX2_readNext]
def wsX6_play_r4 : List Cond := [Cond.instanceMethod yX2_readNext, Cond.selects RX2 yX2_readNext yX2_readNext, Cond.code yX2_readNext cX2_readNext 2 none, Cond.fieldLink RX2 9 "BatteryCaches$Order" "start" "I", Cond.fieldLink RX2 30 "BatteryCaches$Order" "cause" "I", Cond.fieldLink RX2 21 "BatteryCaches$Order" "number" "I", Cond.methodLink RX2 33 yX2_hasForm, Cond.instanceMethod yX2_hasForm, Cond.selects RX2 yX2_hasForm yX2_hasForm, Cond.code yX2_hasForm cX2_hasForm 2 (some .boolean), Cond.fieldLink RX2 18 "BatteryCaches$Order" "letter" "I", Cond.methodLink RX2 41 yX5_at, Cond.instanceMethod yX5_at, Cond.selects RX5 yX5_at yX5_at, Cond.initialized RX5, Cond.code yX5_at cX5_at 3 (some .int), Cond.fieldLink RX5 15 "BatteryCaches$Text" "length" "I", Cond.fieldLink RX5 9 "BatteryCaches$Text" "characters" "[I", Cond.methodLink RX2 47 yX2_readNumber, Cond.instanceMethod yX2_readNumber, Cond.selects RX2 yX2_readNumber yX2_readNumber, Cond.code yX2_readNumber cX2_readNumber 4 (some .int), Cond.static yX6_isWithin, Cond.code yX6_isWithin cX6_isWithin 3 (some .boolean)]
def wsX6_play_r5 : List Cond := [Cond.methodLink RX2 51 yX2_readSign, Cond.instanceMethod yX2_readSign, Cond.selects RX2 yX2_readSign yX2_readSign, Cond.code yX2_readSign cX2_readSign 3 (some .boolean), Cond.methodLink RX2 55 yX2_hasFormOfWrite, Cond.instanceMethod yX2_hasFormOfWrite, Cond.selects RX2 yX2_hasFormOfWrite yX2_hasFormOfWrite, Cond.code yX2_hasFormOfWrite cX2_hasFormOfWrite 2 (some .boolean), Cond.fieldLink RX2 24 "BatteryCaches$Order" "newValue" "I", Cond.methodLink RX2 37 yX2_isInRange, Cond.instanceMethod yX2_isInRange, Cond.selects RX2 yX2_isInRange yX2_isInRange, Cond.code yX2_isInRange cX2_isInRange 1 (some .boolean), Cond.static yX6_isPlace, Cond.code yX6_isPlace cX6_isPlace 1 (some .boolean), Cond.methodLink RX3 51 yX3_isPossible, Cond.instanceMethod yX3_isPossible, Cond.selects RX3 yX3_isPossible yX3_isPossible, Cond.code yX3_isPossible cX3_isPossible 1 (some .boolean), Cond.fieldLink RX3 58 "BatteryCaches$Order" "letter" "I", Cond.fieldLink RX3 61 "BatteryCaches$State" "battery" "LBatteryCaches$Battery;", Cond.fieldLink RX3 65 "BatteryCaches$Battery" "cycle" "I", Cond.methodLink RX3 55 yX3_perform, Cond.instanceMethod yX3_perform]
def wsX6_play_r6 : List Cond := [Cond.selects RX3 yX3_perform yX3_perform, Cond.code yX3_perform cX3_perform 1 none, Cond.fieldLink RX3 70 "BatteryCaches$Order" "number" "I", Cond.fieldLink RX3 77 "BatteryCaches$Order" "newValue" "I", Cond.methodLink RX3 73 yX4_readPlace, Cond.instanceMethod yX4_readPlace, Cond.selects RX4 yX4_readPlace yX4_readPlace, Cond.code yX4_readPlace cX4_readPlace 3 (some .int), Cond.methodLink RX4 76 yX4_lineFor, Cond.instanceMethod yX4_lineFor, Cond.selects RX4 yX4_lineFor yX4_lineFor, Cond.code yX4_lineFor cX4_lineFor 3 (some .int), Cond.methodLink RX4 95 yX4_holderOf, Cond.instanceMethod yX4_holderOf, Cond.selects RX4 yX4_holderOf yX4_holderOf, Cond.code yX4_holderOf cX4_holderOf 3 (some .int), Cond.static yX6_isLine, Cond.code yX6_isLine cX6_isLine 1 (some .boolean), Cond.methodLink RX4 98 yX4_lineToTake, Cond.instanceMethod yX4_lineToTake, Cond.selects RX4 yX4_lineToTake yX4_lineToTake, Cond.code yX4_lineToTake cX4_lineToTake 2 (some .int), Cond.methodLink RX4 108 yX4_lowestEmpty, Cond.instanceMethod yX4_lowestEmpty]
def wsX6_play_r7 : List Cond := [Cond.selects RX4 yX4_lowestEmpty yX4_lowestEmpty, Cond.code yX4_lowestEmpty cX4_lowestEmpty 2 (some .int), Cond.methodLink RX4 111 yX4_lowestTurn, Cond.instanceMethod yX4_lowestTurn, Cond.selects RX4 yX4_lowestTurn yX4_lowestTurn, Cond.code yX4_lowestTurn cX4_lowestTurn 5 (some .int), Cond.methodLink RX4 101 yX4_flushLine, Cond.instanceMethod yX4_flushLine, Cond.selects RX4 yX4_flushLine yX4_flushLine, Cond.code yX4_flushLine cX4_flushLine 2 none, Cond.methodLink RX4 91 yX4_layOnDisk, Cond.instanceMethod yX4_layOnDisk, Cond.selects RX4 yX4_layOnDisk yX4_layOnDisk, Cond.code yX4_layOnDisk cX4_layOnDisk 3 none, Cond.methodLink RX4 105 yX4_layIntoLine, Cond.instanceMethod yX4_layIntoLine, Cond.selects RX4 yX4_layIntoLine yX4_layIntoLine, Cond.code yX4_layIntoLine cX4_layIntoLine 3 none, Cond.methodLink RX3 80 yX4_writePlace, Cond.instanceMethod yX4_writePlace, Cond.selects RX4 yX4_writePlace yX4_writePlace, Cond.code yX4_writePlace cX4_writePlace 4 (some .int), Cond.methodLink RX4 84 yX4_numberOf, Cond.instanceMethod yX4_numberOf]
def wsX6_play_r8 : List Cond := [Cond.selects RX4 yX4_numberOf yX4_numberOf, Cond.code yX4_numberOf cX4_numberOf 2 (some .int), Cond.methodLink RX4 154 yX4_setOf, Cond.instanceMethod yX4_setOf, Cond.selects RX4 yX4_setOf yX4_setOf, Cond.code yX4_setOf cX4_setOf 4 (some .int), Cond.methodLink RX4 157 yJ6_bitCount_0f7a4, Cond.static yJ6_bitCount_0f7a4, Cond.initialized RJ6, Cond.code yJ6_bitCount_0f7a4 cJ6_bitCount_0f7a4 1 (some .int), Cond.constant RJ6 265 (1431655765), Cond.constant RJ6 266 (858993459), Cond.constant RJ6 267 (252645135), Cond.methodLink RX4 87 yX0_allowance, Cond.instanceMethod yX0_allowance, Cond.selects RX0 yX0_allowance yX0_allowance, Cond.code yX0_allowance cX0_allowance 1 (some .int), Cond.methodLink RX0 33 yX0_savable, Cond.instanceMethod yX0_savable, Cond.selects RX0 yX0_savable yX0_savable, Cond.code yX0_savable cX0_savable 1 (some .int), Cond.methodLink RX0 37 Lib.Math.min.name, Cond.methodLink RX3 84 yX4_passTicks, Cond.instanceMethod yX4_passTicks]
def wsX6_play_r9 : List Cond := [Cond.selects RX4 yX4_passTicks yX4_passTicks, Cond.code yX4_passTicks cX4_passTicks 4 (some .int), Cond.methodLink RX4 117 yX0_passTick, Cond.instanceMethod yX0_passTick, Cond.selects RX0 yX0_passTick yX0_passTick, Cond.code yX0_passTick cX0_passTick 1 (some .boolean), Cond.methodLink RX0 54 yX0_fallInCycle, Cond.instanceMethod yX0_fallInCycle, Cond.selects RX0 yX0_fallInCycle yX0_fallInCycle, Cond.code yX0_fallInCycle cX0_fallInCycle 1 none, Cond.methodLink RX0 50 yX0_useUp, Cond.instanceMethod yX0_useUp, Cond.selects RX0 yX0_useUp yX0_useUp, Cond.code yX0_useUp cX0_useUp 2 none, Cond.methodLink RX0 43 Lib.Math.max.name, Cond.static Lib.Math.max.name, Cond.code Lib.Math.max.name Lib.Math.max.code 2 (some .int), Cond.methodLink RX0 57 yX0_capacity, Cond.instanceMethod yX0_capacity, Cond.selects RX0 yX0_capacity yX0_capacity, Cond.code yX0_capacity cX0_capacity 1 (some .int), Cond.methodLink RX4 121 yX4_tooMany, Cond.instanceMethod yX4_tooMany, Cond.selects RX4 yX4_tooMany yX4_tooMany]
def wsX6_play_r10 : List Cond := [Cond.code yX4_tooMany cX4_tooMany 1 (some .int), Cond.methodLink RX4 139 Lib.Math.max.name, Cond.methodLink RX4 124 yX4_flushLowest, Cond.instanceMethod yX4_flushLowest, Cond.selects RX4 yX4_flushLowest yX4_flushLowest, Cond.code yX4_flushLowest cX4_flushLowest 3 (some .int), Cond.methodLink RX3 87 yX4_putLoad, Cond.instanceMethod yX4_putLoad, Cond.selects RX4 yX4_putLoad yX4_putLoad, Cond.code yX4_putLoad cX4_putLoad 2 (some .int), Cond.methodLink RX4 127 yX0_useUp, Cond.methodLink RX3 90 yX4_cutPower, Cond.instanceMethod yX4_cutPower, Cond.selects RX4 yX4_cutPower yX4_cutPower, Cond.code yX4_cutPower cX4_cutPower 4 (some .int), Cond.methodLink RX4 133 yX4_savedByCut, Cond.instanceMethod yX4_savedByCut, Cond.selects RX4 yX4_savedByCut yX4_savedByCut, Cond.code yX4_savedByCut cX4_savedByCut 1 (some .int), Cond.methodLink RX4 148 Lib.Math.min.name, Cond.methodLink RX4 145 yX0_savable, Cond.methodLink RX4 136 yX0_saveAtCut, Cond.instanceMethod yX0_saveAtCut, Cond.selects RX0 yX0_saveAtCut yX0_saveAtCut]
def wsX6_play_r11 : List Cond := [Cond.code yX0_saveAtCut cX0_saveAtCut 2 none, Cond.methodLink RX0 46 yX0_costToSave, Cond.instanceMethod yX0_costToSave, Cond.selects RX0 yX0_costToSave yX0_costToSave, Cond.code yX0_costToSave cX0_costToSave 2 (some .int), Cond.methodLink RX3 94 yX4_beginCycle, Cond.instanceMethod yX4_beginCycle, Cond.selects RX4 yX4_beginCycle yX4_beginCycle, Cond.code yX4_beginCycle cX4_beginCycle 1 (some .int), Cond.fieldLink RX4 130 "BatteryCaches$Battery" "cycle" "I", Cond.methodLink RX6 49 yX1_keep, Cond.instanceMethod yX1_keep, Cond.selects RX1 yX1_keep yX1_keep, Cond.initialized RX1, Cond.code yX1_keep cX1_keep 2 none, Cond.fieldLink RX1 17 "BatteryCaches$History" "size" "I", Cond.fieldLink RX1 11 "BatteryCaches$History" "states" "[LBatteryCaches$State;", Cond.methodLink RX1 22 yX1_dropOldest, Cond.instanceMethod yX1_dropOldest, Cond.selects RX1 yX1_dropOldest yX1_dropOldest, Cond.code yX1_dropOldest cX1_dropOldest 3 none, Cond.methodLink RX1 29 yX4_copy, Cond.methodLink RX6 246 yX4_copy]
def wsX6_play : List Cond := .code yX6_play cX6_play 1 (some .int) :: ((wsX6_play_r1 ++ (wsX6_play_r2 ++ (wsX6_play_r3 ++ (wsX6_play_r4 ++ (wsX6_play_r5 ++ (wsX6_play_r6 ++ (wsX6_play_r7 ++ (wsX6_play_r8 ++ (wsX6_play_r9 ++ (wsX6_play_r10 ++ wsX6_play_r11)))))))))) ++ wsX60 ++ wsX30 ++ wsX20 ++ wsX50 ++ wsX40 ++ wsX00 ++ wsX10)
def wsX7_init : List Cond := .code yX7_init cX7_init 1 none :: ([.methodLink RX7 1 objectInit, .instanceMethod objectInit, .code objectInit ⟨#[0xb1]⟩ 1 none, .arrayClass .int, .fieldLink RX7 7 "BatteryCachesModel" "all" "[I", .fieldLink RX7 13 "BatteryCachesModel" "kept" "[I", .fieldLink RX7 16 "BatteryCachesModel" "history" "[I", .fieldLink RX7 19 "BatteryCachesModel" "text" "[I"] ++ wsX70)
def wsX7_in : List Cond := .code yX7_in cX7_in 6 (some .boolean) :: ([])
def wsX7_keep : List Cond := .code yX7_keep cX7_keep 2 none :: ([.fieldLink RX7 13 "BatteryCachesModel" "kept" "[I", .fieldLink RX7 7 "BatteryCachesModel" "all" "[I"] ++ wsX70)
def wsX7_giveBack : List Cond := .code yX7_giveBack cX7_giveBack 2 none :: ([.fieldLink RX7 7 "BatteryCachesModel" "all" "[I", .fieldLink RX7 13 "BatteryCachesModel" "kept" "[I"] ++ wsX70)
def wsX7_changed : List Cond := .code yX7_changed cX7_changed 3 (some .int) :: ([.constant RX7 22 (-1000000), .fieldLink RX7 23 "BatteryCachesModel" "historyLong" "I", .fieldLink RX7 16 "BatteryCachesModel" "history" "[I", .fieldLink RX7 13 "BatteryCachesModel" "kept" "[I"] ++ wsX70)
def wsX7_counts : List Cond := .code yX7_counts cX7_counts 2 none :: ([.fieldLink RX7 7 "BatteryCachesModel" "all" "[I"] ++ wsX70)
def wsX7_setting : List Cond := .code yX7_setting cX7_setting 2 (some .int) :: ([.fieldLink RX7 7 "BatteryCachesModel" "all" "[I"] ++ wsX70)
def wsX7_isPlace : List Cond := .code yX7_isPlace cX7_isPlace 1 (some .boolean) :: ([.constantLong RX7 27 (63), .methodLink RX7 29 yX7_in, .static yX7_in, .initialized RX7, .code yX7_in cX7_in 6 (some .boolean)])
def wsX7_isLine : List Cond := .code yX7_isLine cX7_isLine 1 (some .boolean) :: ([.constantLong RX7 33 (7), .methodLink RX7 29 yX7_in, .static yX7_in, .initialized RX7, .code yX7_in cX7_in 6 (some .boolean)])
def wsX7_many : List Cond := .code yX7_many cX7_many 4 (some .int) :: ([.fieldLink RX7 7 "BatteryCachesModel" "all" "[I"] ++ wsX70)
def wsX7_oldest : List Cond := .code yX7_oldest cX7_oldest 4 (some .int) :: ([.fieldLink RX7 7 "BatteryCachesModel" "all" "[I"] ++ wsX70)
def wsX7_holder : List Cond := .code yX7_holder cX7_holder 3 (some .int) :: ([.fieldLink RX7 7 "BatteryCachesModel" "all" "[I"] ++ wsX70)
def wsX7_lays : List Cond := .code yX7_lays cX7_lays 3 none :: ([.fieldLink RX7 7 "BatteryCachesModel" "all" "[I", .methodLink RX7 35 yX7_counts, .instanceMethod yX7_counts, .selects RX7 yX7_counts yX7_counts, .initialized RX7, .code yX7_counts cX7_counts 2 none] ++ wsX70)
def wsX7_flushes : List Cond := .code yX7_flushes cX7_flushes 2 none :: ([.fieldLink RX7 7 "BatteryCachesModel" "all" "[I", .methodLink RX7 39 yX7_lays, .instanceMethod yX7_lays, .selects RX7 yX7_lays yX7_lays, .initialized RX7, .code yX7_lays cX7_lays 3 none, .methodLink RX7 35 yX7_counts, .instanceMethod yX7_counts, .selects RX7 yX7_counts yX7_counts, .code yX7_counts cX7_counts 2 none] ++ wsX70)
def wsX7_allowance : List Cond := .code yX7_allowance cX7_allowance 2 (some .int) :: ([.fieldLink RX7 7 "BatteryCachesModel" "all" "[I", .methodLink RX7 43 yX7_setting, .instanceMethod yX7_setting, .selects RX7 yX7_setting yX7_setting, .initialized RX7, .code yX7_setting cX7_setting 2 (some .int)] ++ wsX70)
def wsX7_flushesToo_r1 : List Cond := [Cond.methodLink RX7 47 yX7_many, Cond.instanceMethod yX7_many, Cond.selects RX7 yX7_many yX7_many, Cond.initialized RX7, Cond.code yX7_many cX7_many 4 (some .int), Cond.fieldLink RX7 7 "BatteryCachesModel" "all" "[I", Cond.methodLink RX7 50 yX7_allowance, Cond.instanceMethod yX7_allowance, Cond.selects RX7 yX7_allowance yX7_allowance, Cond.code yX7_allowance cX7_allowance 2 (some .int), Cond.methodLink RX7 43 yX7_setting, Cond.instanceMethod yX7_setting, Cond.selects RX7 yX7_setting yX7_setting, Cond.code yX7_setting cX7_setting 2 (some .int), Cond.methodLink RX7 54 yX7_oldest, Cond.instanceMethod yX7_oldest, Cond.selects RX7 yX7_oldest yX7_oldest, Cond.code yX7_oldest cX7_oldest 4 (some .int), Cond.methodLink RX7 57 yX7_flushes, Cond.instanceMethod yX7_flushes, Cond.selects RX7 yX7_flushes yX7_flushes, Cond.code yX7_flushes cX7_flushes 2 none, Cond.methodLink RX7 39 yX7_lays, Cond.instanceMethod yX7_lays]
def wsX7_flushesToo_r2 : List Cond := [Cond.selects RX7 yX7_lays yX7_lays, Cond.code yX7_lays cX7_lays 3 none, Cond.methodLink RX7 35 yX7_counts, Cond.instanceMethod yX7_counts, Cond.selects RX7 yX7_counts yX7_counts, Cond.code yX7_counts cX7_counts 2 none]
def wsX7_flushesToo : List Cond := .code yX7_flushesToo cX7_flushesToo 2 (some .int) :: ((wsX7_flushesToo_r1 ++ wsX7_flushesToo_r2) ++ wsX70)
def wsX7_turns : List Cond := .code yX7_turns cX7_turns 2 none :: ([.fieldLink RX7 7 "BatteryCachesModel" "all" "[I"] ++ wsX70)
def wsX7_touches_r1 : List Cond := [Cond.fieldLink RX7 7 "BatteryCachesModel" "all" "[I", Cond.methodLink RX7 60 yX7_holder, Cond.instanceMethod yX7_holder, Cond.selects RX7 yX7_holder yX7_holder, Cond.initialized RX7, Cond.code yX7_holder cX7_holder 3 (some .int), Cond.methodLink RX7 35 yX7_counts, Cond.instanceMethod yX7_counts, Cond.selects RX7 yX7_counts yX7_counts, Cond.code yX7_counts cX7_counts 2 none, Cond.methodLink RX7 54 yX7_oldest, Cond.instanceMethod yX7_oldest, Cond.selects RX7 yX7_oldest yX7_oldest, Cond.code yX7_oldest cX7_oldest 4 (some .int), Cond.methodLink RX7 57 yX7_flushes, Cond.instanceMethod yX7_flushes, Cond.selects RX7 yX7_flushes yX7_flushes, Cond.code yX7_flushes cX7_flushes 2 none, Cond.methodLink RX7 39 yX7_lays, Cond.instanceMethod yX7_lays, Cond.selects RX7 yX7_lays yX7_lays, Cond.code yX7_lays cX7_lays 3 none, Cond.methodLink RX7 63 yX7_turns, Cond.instanceMethod yX7_turns]
def wsX7_touches_r2 : List Cond := [Cond.selects RX7 yX7_turns yX7_turns, Cond.code yX7_turns cX7_turns 2 none]
def wsX7_touches : List Cond := .code yX7_touches cX7_touches 3 (some .int) :: ((wsX7_touches_r1 ++ wsX7_touches_r2) ++ wsX70)
def wsX7_doRead_r1 : List Cond := [Cond.fieldLink RX7 7 "BatteryCachesModel" "all" "[I", Cond.constant RX7 73 (-1000001), Cond.methodLink RX7 66 yX7_isPlace, Cond.static yX7_isPlace, Cond.initialized RX7, Cond.code yX7_isPlace cX7_isPlace 1 (some .boolean), Cond.constantLong RX7 27 (63), Cond.methodLink RX7 29 yX7_in, Cond.static yX7_in, Cond.code yX7_in cX7_in 6 (some .boolean), Cond.methodLink RX7 70 yX7_touches, Cond.instanceMethod yX7_touches, Cond.selects RX7 yX7_touches yX7_touches, Cond.code yX7_touches cX7_touches 3 (some .int), Cond.methodLink RX7 60 yX7_holder, Cond.instanceMethod yX7_holder, Cond.selects RX7 yX7_holder yX7_holder, Cond.code yX7_holder cX7_holder 3 (some .int), Cond.methodLink RX7 35 yX7_counts, Cond.instanceMethod yX7_counts, Cond.selects RX7 yX7_counts yX7_counts, Cond.code yX7_counts cX7_counts 2 none, Cond.methodLink RX7 54 yX7_oldest, Cond.instanceMethod yX7_oldest]
def wsX7_doRead_r2 : List Cond := [Cond.selects RX7 yX7_oldest yX7_oldest, Cond.code yX7_oldest cX7_oldest 4 (some .int), Cond.methodLink RX7 57 yX7_flushes, Cond.instanceMethod yX7_flushes, Cond.selects RX7 yX7_flushes yX7_flushes, Cond.code yX7_flushes cX7_flushes 2 none, Cond.methodLink RX7 39 yX7_lays, Cond.instanceMethod yX7_lays, Cond.selects RX7 yX7_lays yX7_lays, Cond.code yX7_lays cX7_lays 3 none, Cond.methodLink RX7 63 yX7_turns, Cond.instanceMethod yX7_turns, Cond.selects RX7 yX7_turns yX7_turns, Cond.code yX7_turns cX7_turns 2 none]
def wsX7_doRead : List Cond := .code yX7_doRead cX7_doRead 2 (some .int) :: ((wsX7_doRead_r1 ++ wsX7_doRead_r2) ++ wsX70)
def wsX7_doWrite_r1 : List Cond := [Cond.constantLong RX7 74 (999), Cond.constant RX7 73 (-1000001), Cond.fieldLink RX7 7 "BatteryCachesModel" "all" "[I", Cond.methodLink RX7 66 yX7_isPlace, Cond.static yX7_isPlace, Cond.initialized RX7, Cond.code yX7_isPlace cX7_isPlace 1 (some .boolean), Cond.constantLong RX7 27 (63), Cond.methodLink RX7 29 yX7_in, Cond.static yX7_in, Cond.code yX7_in cX7_in 6 (some .boolean), Cond.methodLink RX7 70 yX7_touches, Cond.instanceMethod yX7_touches, Cond.selects RX7 yX7_touches yX7_touches, Cond.code yX7_touches cX7_touches 3 (some .int), Cond.methodLink RX7 60 yX7_holder, Cond.instanceMethod yX7_holder, Cond.selects RX7 yX7_holder yX7_holder, Cond.code yX7_holder cX7_holder 3 (some .int), Cond.methodLink RX7 35 yX7_counts, Cond.instanceMethod yX7_counts, Cond.selects RX7 yX7_counts yX7_counts, Cond.code yX7_counts cX7_counts 2 none, Cond.methodLink RX7 54 yX7_oldest]
def wsX7_doWrite_r2 : List Cond := [Cond.instanceMethod yX7_oldest, Cond.selects RX7 yX7_oldest yX7_oldest, Cond.code yX7_oldest cX7_oldest 4 (some .int), Cond.methodLink RX7 57 yX7_flushes, Cond.instanceMethod yX7_flushes, Cond.selects RX7 yX7_flushes yX7_flushes, Cond.code yX7_flushes cX7_flushes 2 none, Cond.methodLink RX7 39 yX7_lays, Cond.instanceMethod yX7_lays, Cond.selects RX7 yX7_lays yX7_lays, Cond.code yX7_lays cX7_lays 3 none, Cond.methodLink RX7 63 yX7_turns, Cond.instanceMethod yX7_turns, Cond.selects RX7 yX7_turns yX7_turns, Cond.code yX7_turns cX7_turns 2 none, Cond.methodLink RX7 47 yX7_many, Cond.instanceMethod yX7_many, Cond.selects RX7 yX7_many yX7_many, Cond.code yX7_many cX7_many 4 (some .int), Cond.methodLink RX7 50 yX7_allowance, Cond.instanceMethod yX7_allowance, Cond.selects RX7 yX7_allowance yX7_allowance, Cond.code yX7_allowance cX7_allowance 2 (some .int), Cond.methodLink RX7 43 yX7_setting]
def wsX7_doWrite_r3 : List Cond := [Cond.instanceMethod yX7_setting, Cond.selects RX7 yX7_setting yX7_setting, Cond.code yX7_setting cX7_setting 2 (some .int)]
def wsX7_doWrite : List Cond := .code yX7_doWrite cX7_doWrite 4 (some .int) :: ((wsX7_doWrite_r1 ++ (wsX7_doWrite_r2 ++ wsX7_doWrite_r3)) ++ wsX70)
def wsX7_capacity : List Cond := .code yX7_capacity cX7_capacity 1 (some .int) :: ([.fieldLink RX7 7 "BatteryCachesModel" "all" "[I"] ++ wsX70)
def wsX7_charges : List Cond := .code yX7_charges cX7_charges 2 none :: ([.fieldLink RX7 7 "BatteryCachesModel" "all" "[I", .methodLink RX7 43 yX7_setting, .instanceMethod yX7_setting, .selects RX7 yX7_setting yX7_setting, .initialized RX7, .code yX7_setting cX7_setting 2 (some .int), .methodLink RX7 76 yX7_capacity, .instanceMethod yX7_capacity, .selects RX7 yX7_capacity yX7_capacity, .code yX7_capacity cX7_capacity 1 (some .int)] ++ wsX70)
def wsX7_drains : List Cond := .code yX7_drains cX7_drains 2 none :: ([.fieldLink RX7 7 "BatteryCachesModel" "all" "[I"] ++ wsX70)
def wsX7_learnsOn : List Cond := .code yX7_learnsOn cX7_learnsOn 1 none :: ([.fieldLink RX7 7 "BatteryCachesModel" "all" "[I", .methodLink RX7 43 yX7_setting, .instanceMethod yX7_setting, .selects RX7 yX7_setting yX7_setting, .initialized RX7, .code yX7_setting cX7_setting 2 (some .int), .methodLink RX7 79 yX7_drains, .instanceMethod yX7_drains, .selects RX7 yX7_drains yX7_drains, .code yX7_drains cX7_drains 2 none, .methodLink RX7 82 yX7_charges, .instanceMethod yX7_charges, .selects RX7 yX7_charges yX7_charges, .code yX7_charges cX7_charges 2 none, .methodLink RX7 76 yX7_capacity, .instanceMethod yX7_capacity, .selects RX7 yX7_capacity yX7_capacity, .code yX7_capacity cX7_capacity 1 (some .int), .methodLink RX7 35 yX7_counts, .instanceMethod yX7_counts, .selects RX7 yX7_counts yX7_counts, .code yX7_counts cX7_counts 2 none] ++ wsX70)
def wsX7_ticksOn_r1 : List Cond := [Cond.fieldLink RX7 7 "BatteryCachesModel" "all" "[I", Cond.methodLink RX7 35 yX7_counts, Cond.instanceMethod yX7_counts, Cond.selects RX7 yX7_counts yX7_counts, Cond.initialized RX7, Cond.code yX7_counts cX7_counts 2 none, Cond.methodLink RX7 85 yX7_learnsOn, Cond.instanceMethod yX7_learnsOn, Cond.selects RX7 yX7_learnsOn yX7_learnsOn, Cond.code yX7_learnsOn cX7_learnsOn 1 none, Cond.methodLink RX7 43 yX7_setting, Cond.instanceMethod yX7_setting, Cond.selects RX7 yX7_setting yX7_setting, Cond.code yX7_setting cX7_setting 2 (some .int), Cond.methodLink RX7 79 yX7_drains, Cond.instanceMethod yX7_drains, Cond.selects RX7 yX7_drains yX7_drains, Cond.code yX7_drains cX7_drains 2 none, Cond.methodLink RX7 82 yX7_charges, Cond.instanceMethod yX7_charges, Cond.selects RX7 yX7_charges yX7_charges, Cond.code yX7_charges cX7_charges 2 none, Cond.methodLink RX7 76 yX7_capacity, Cond.instanceMethod yX7_capacity]
def wsX7_ticksOn_r2 : List Cond := [Cond.selects RX7 yX7_capacity yX7_capacity, Cond.code yX7_capacity cX7_capacity 1 (some .int), Cond.methodLink RX7 88 yX7_flushesToo, Cond.instanceMethod yX7_flushesToo, Cond.selects RX7 yX7_flushesToo yX7_flushesToo, Cond.code yX7_flushesToo cX7_flushesToo 2 (some .int), Cond.methodLink RX7 47 yX7_many, Cond.instanceMethod yX7_many, Cond.selects RX7 yX7_many yX7_many, Cond.code yX7_many cX7_many 4 (some .int), Cond.methodLink RX7 50 yX7_allowance, Cond.instanceMethod yX7_allowance, Cond.selects RX7 yX7_allowance yX7_allowance, Cond.code yX7_allowance cX7_allowance 2 (some .int), Cond.methodLink RX7 54 yX7_oldest, Cond.instanceMethod yX7_oldest, Cond.selects RX7 yX7_oldest yX7_oldest, Cond.code yX7_oldest cX7_oldest 4 (some .int), Cond.methodLink RX7 57 yX7_flushes, Cond.instanceMethod yX7_flushes, Cond.selects RX7 yX7_flushes yX7_flushes, Cond.code yX7_flushes cX7_flushes 2 none, Cond.methodLink RX7 39 yX7_lays, Cond.instanceMethod yX7_lays]
def wsX7_ticksOn_r3 : List Cond := [Cond.selects RX7 yX7_lays yX7_lays, Cond.code yX7_lays cX7_lays 3 none]
def wsX7_ticksOn : List Cond := .code yX7_ticksOn cX7_ticksOn 1 (some .int) :: ((wsX7_ticksOn_r1 ++ (wsX7_ticksOn_r2 ++ wsX7_ticksOn_r3)) ++ wsX70)
def wsX7_doTick_r1 : List Cond := [Cond.constantLong RX7 91 (99), Cond.constant RX7 73 (-1000001), Cond.methodLink RX7 29 yX7_in, Cond.static yX7_in, Cond.initialized RX7, Cond.code yX7_in cX7_in 6 (some .boolean), Cond.methodLink RX7 93 yX7_ticksOn, Cond.instanceMethod yX7_ticksOn, Cond.selects RX7 yX7_ticksOn yX7_ticksOn, Cond.code yX7_ticksOn cX7_ticksOn 1 (some .int), Cond.fieldLink RX7 7 "BatteryCachesModel" "all" "[I", Cond.methodLink RX7 35 yX7_counts, Cond.instanceMethod yX7_counts, Cond.selects RX7 yX7_counts yX7_counts, Cond.code yX7_counts cX7_counts 2 none, Cond.methodLink RX7 85 yX7_learnsOn, Cond.instanceMethod yX7_learnsOn, Cond.selects RX7 yX7_learnsOn yX7_learnsOn, Cond.code yX7_learnsOn cX7_learnsOn 1 none, Cond.methodLink RX7 43 yX7_setting, Cond.instanceMethod yX7_setting, Cond.selects RX7 yX7_setting yX7_setting, Cond.code yX7_setting cX7_setting 2 (some .int), Cond.methodLink RX7 79 yX7_drains]
def wsX7_doTick_r2 : List Cond := [Cond.instanceMethod yX7_drains, Cond.selects RX7 yX7_drains yX7_drains, Cond.code yX7_drains cX7_drains 2 none, Cond.methodLink RX7 82 yX7_charges, Cond.instanceMethod yX7_charges, Cond.selects RX7 yX7_charges yX7_charges, Cond.code yX7_charges cX7_charges 2 none, Cond.methodLink RX7 76 yX7_capacity, Cond.instanceMethod yX7_capacity, Cond.selects RX7 yX7_capacity yX7_capacity, Cond.code yX7_capacity cX7_capacity 1 (some .int), Cond.methodLink RX7 88 yX7_flushesToo, Cond.instanceMethod yX7_flushesToo, Cond.selects RX7 yX7_flushesToo yX7_flushesToo, Cond.code yX7_flushesToo cX7_flushesToo 2 (some .int), Cond.methodLink RX7 47 yX7_many, Cond.instanceMethod yX7_many, Cond.selects RX7 yX7_many yX7_many, Cond.code yX7_many cX7_many 4 (some .int), Cond.methodLink RX7 50 yX7_allowance, Cond.instanceMethod yX7_allowance, Cond.selects RX7 yX7_allowance yX7_allowance, Cond.code yX7_allowance cX7_allowance 2 (some .int), Cond.methodLink RX7 54 yX7_oldest]
def wsX7_doTick_r3 : List Cond := [Cond.instanceMethod yX7_oldest, Cond.selects RX7 yX7_oldest yX7_oldest, Cond.code yX7_oldest cX7_oldest 4 (some .int), Cond.methodLink RX7 57 yX7_flushes, Cond.instanceMethod yX7_flushes, Cond.selects RX7 yX7_flushes yX7_flushes, Cond.code yX7_flushes cX7_flushes 2 none, Cond.methodLink RX7 39 yX7_lays, Cond.instanceMethod yX7_lays, Cond.selects RX7 yX7_lays yX7_lays, Cond.code yX7_lays cX7_lays 3 none]
def wsX7_doTick : List Cond := .code yX7_doTick cX7_doTick 4 (some .int) :: ((wsX7_doTick_r1 ++ (wsX7_doTick_r2 ++ wsX7_doTick_r3)) ++ wsX70)
def wsX7_doLoad_r1 : List Cond := [Cond.constantLong RX7 74 (999), Cond.constant RX7 73 (-1000001), Cond.methodLink RX7 29 yX7_in, Cond.static yX7_in, Cond.initialized RX7, Cond.code yX7_in cX7_in 6 (some .boolean), Cond.methodLink RX7 79 yX7_drains, Cond.instanceMethod yX7_drains, Cond.selects RX7 yX7_drains yX7_drains, Cond.code yX7_drains cX7_drains 2 none, Cond.fieldLink RX7 7 "BatteryCachesModel" "all" "[I", Cond.methodLink RX7 88 yX7_flushesToo, Cond.instanceMethod yX7_flushesToo, Cond.selects RX7 yX7_flushesToo yX7_flushesToo, Cond.code yX7_flushesToo cX7_flushesToo 2 (some .int), Cond.methodLink RX7 47 yX7_many, Cond.instanceMethod yX7_many, Cond.selects RX7 yX7_many yX7_many, Cond.code yX7_many cX7_many 4 (some .int), Cond.methodLink RX7 50 yX7_allowance, Cond.instanceMethod yX7_allowance, Cond.selects RX7 yX7_allowance yX7_allowance, Cond.code yX7_allowance cX7_allowance 2 (some .int), Cond.methodLink RX7 43 yX7_setting]
def wsX7_doLoad_r2 : List Cond := [Cond.instanceMethod yX7_setting, Cond.selects RX7 yX7_setting yX7_setting, Cond.code yX7_setting cX7_setting 2 (some .int), Cond.methodLink RX7 54 yX7_oldest, Cond.instanceMethod yX7_oldest, Cond.selects RX7 yX7_oldest yX7_oldest, Cond.code yX7_oldest cX7_oldest 4 (some .int), Cond.methodLink RX7 57 yX7_flushes, Cond.instanceMethod yX7_flushes, Cond.selects RX7 yX7_flushes yX7_flushes, Cond.code yX7_flushes cX7_flushes 2 none, Cond.methodLink RX7 39 yX7_lays, Cond.instanceMethod yX7_lays, Cond.selects RX7 yX7_lays yX7_lays, Cond.code yX7_lays cX7_lays 3 none, Cond.methodLink RX7 35 yX7_counts, Cond.instanceMethod yX7_counts, Cond.selects RX7 yX7_counts yX7_counts, Cond.code yX7_counts cX7_counts 2 none]
def wsX7_doLoad : List Cond := .code yX7_doLoad cX7_doLoad 2 (some .int) :: ((wsX7_doLoad_r1 ++ wsX7_doLoad_r2) ++ wsX70)
def wsX7_doLearn_r1 : List Cond := [Cond.fieldLink RX7 7 "BatteryCachesModel" "all" "[I", Cond.constant RX7 96 (-1000002), Cond.methodLink RX7 88 yX7_flushesToo, Cond.instanceMethod yX7_flushesToo, Cond.selects RX7 yX7_flushesToo yX7_flushesToo, Cond.initialized RX7, Cond.code yX7_flushesToo cX7_flushesToo 2 (some .int), Cond.methodLink RX7 47 yX7_many, Cond.instanceMethod yX7_many, Cond.selects RX7 yX7_many yX7_many, Cond.code yX7_many cX7_many 4 (some .int), Cond.methodLink RX7 50 yX7_allowance, Cond.instanceMethod yX7_allowance, Cond.selects RX7 yX7_allowance yX7_allowance, Cond.code yX7_allowance cX7_allowance 2 (some .int), Cond.methodLink RX7 43 yX7_setting, Cond.instanceMethod yX7_setting, Cond.selects RX7 yX7_setting yX7_setting, Cond.code yX7_setting cX7_setting 2 (some .int), Cond.methodLink RX7 54 yX7_oldest, Cond.instanceMethod yX7_oldest, Cond.selects RX7 yX7_oldest yX7_oldest, Cond.code yX7_oldest cX7_oldest 4 (some .int), Cond.methodLink RX7 57 yX7_flushes]
def wsX7_doLearn_r2 : List Cond := [Cond.instanceMethod yX7_flushes, Cond.selects RX7 yX7_flushes yX7_flushes, Cond.code yX7_flushes cX7_flushes 2 none, Cond.methodLink RX7 39 yX7_lays, Cond.instanceMethod yX7_lays, Cond.selects RX7 yX7_lays yX7_lays, Cond.code yX7_lays cX7_lays 3 none, Cond.methodLink RX7 35 yX7_counts, Cond.instanceMethod yX7_counts, Cond.selects RX7 yX7_counts yX7_counts, Cond.code yX7_counts cX7_counts 2 none]
def wsX7_doLearn : List Cond := .code yX7_doLearn cX7_doLearn 1 (some .int) :: ((wsX7_doLearn_r1 ++ wsX7_doLearn_r2) ++ wsX70)
def wsX7_doCut_r1 : List Cond := [Cond.fieldLink RX7 7 "BatteryCachesModel" "all" "[I", Cond.methodLink RX7 43 yX7_setting, Cond.instanceMethod yX7_setting, Cond.selects RX7 yX7_setting yX7_setting, Cond.initialized RX7, Cond.code yX7_setting cX7_setting 2 (some .int), Cond.methodLink RX7 47 yX7_many, Cond.instanceMethod yX7_many, Cond.selects RX7 yX7_many yX7_many, Cond.code yX7_many cX7_many 4 (some .int), Cond.methodLink RX7 54 yX7_oldest, Cond.instanceMethod yX7_oldest, Cond.selects RX7 yX7_oldest yX7_oldest, Cond.code yX7_oldest cX7_oldest 4 (some .int), Cond.methodLink RX7 57 yX7_flushes, Cond.instanceMethod yX7_flushes, Cond.selects RX7 yX7_flushes yX7_flushes, Cond.code yX7_flushes cX7_flushes 2 none, Cond.methodLink RX7 39 yX7_lays, Cond.instanceMethod yX7_lays, Cond.selects RX7 yX7_lays yX7_lays, Cond.code yX7_lays cX7_lays 3 none, Cond.methodLink RX7 35 yX7_counts, Cond.instanceMethod yX7_counts]
def wsX7_doCut_r2 : List Cond := [Cond.selects RX7 yX7_counts yX7_counts, Cond.code yX7_counts cX7_counts 2 none]
def wsX7_doCut : List Cond := .code yX7_doCut cX7_doCut 3 (some .int) :: ((wsX7_doCut_r1 ++ wsX7_doCut_r2) ++ wsX70)
def wsX7_doFlush_r1 : List Cond := [Cond.constant RX7 73 (-1000001), Cond.fieldLink RX7 7 "BatteryCachesModel" "all" "[I", Cond.constant RX7 96 (-1000002), Cond.methodLink RX7 97 yX7_isLine, Cond.static yX7_isLine, Cond.initialized RX7, Cond.code yX7_isLine cX7_isLine 1 (some .boolean), Cond.constantLong RX7 33 (7), Cond.methodLink RX7 29 yX7_in, Cond.static yX7_in, Cond.code yX7_in cX7_in 6 (some .boolean), Cond.methodLink RX7 57 yX7_flushes, Cond.instanceMethod yX7_flushes, Cond.selects RX7 yX7_flushes yX7_flushes, Cond.code yX7_flushes cX7_flushes 2 none, Cond.methodLink RX7 39 yX7_lays, Cond.instanceMethod yX7_lays, Cond.selects RX7 yX7_lays yX7_lays, Cond.code yX7_lays cX7_lays 3 none, Cond.methodLink RX7 35 yX7_counts, Cond.instanceMethod yX7_counts, Cond.selects RX7 yX7_counts yX7_counts, Cond.code yX7_counts cX7_counts 2 none, Cond.methodLink RX7 47 yX7_many]
def wsX7_doFlush_r2 : List Cond := [Cond.instanceMethod yX7_many, Cond.selects RX7 yX7_many yX7_many, Cond.code yX7_many cX7_many 4 (some .int)]
def wsX7_doFlush : List Cond := .code yX7_doFlush cX7_doFlush 2 (some .int) :: ((wsX7_doFlush_r1 ++ wsX7_doFlush_r2) ++ wsX70)
def wsX7_doSet : List Cond := .code yX7_doSet cX7_doSet 5 (some .int) :: ([.constantLong RX7 100 (500), .constantLong RX7 102 (200), .constant RX7 73 (-1000001), .fieldLink RX7 7 "BatteryCachesModel" "all" "[I", .methodLink RX7 29 yX7_in, .static yX7_in, .initialized RX7, .code yX7_in cX7_in 6 (some .boolean)] ++ wsX70)
def wsX7_read_r1 : List Cond := [Cond.methodLink RX7 104 yX7_keep, Cond.instanceMethod yX7_keep, Cond.selects RX7 yX7_keep yX7_keep, Cond.initialized RX7, Cond.code yX7_keep cX7_keep 2 none, Cond.fieldLink RX7 13 "BatteryCachesModel" "kept" "[I", Cond.fieldLink RX7 7 "BatteryCachesModel" "all" "[I", Cond.methodLink RX7 107 yX7_doRead, Cond.instanceMethod yX7_doRead, Cond.selects RX7 yX7_doRead yX7_doRead, Cond.code yX7_doRead cX7_doRead 2 (some .int), Cond.constant RX7 73 (-1000001), Cond.methodLink RX7 66 yX7_isPlace, Cond.static yX7_isPlace, Cond.code yX7_isPlace cX7_isPlace 1 (some .boolean), Cond.constantLong RX7 27 (63), Cond.methodLink RX7 29 yX7_in, Cond.static yX7_in, Cond.code yX7_in cX7_in 6 (some .boolean), Cond.methodLink RX7 70 yX7_touches, Cond.instanceMethod yX7_touches, Cond.selects RX7 yX7_touches yX7_touches, Cond.code yX7_touches cX7_touches 3 (some .int), Cond.methodLink RX7 60 yX7_holder]
def wsX7_read_r2 : List Cond := [Cond.instanceMethod yX7_holder, Cond.selects RX7 yX7_holder yX7_holder, Cond.code yX7_holder cX7_holder 3 (some .int), Cond.methodLink RX7 35 yX7_counts, Cond.instanceMethod yX7_counts, Cond.selects RX7 yX7_counts yX7_counts, Cond.code yX7_counts cX7_counts 2 none, Cond.methodLink RX7 54 yX7_oldest, Cond.instanceMethod yX7_oldest, Cond.selects RX7 yX7_oldest yX7_oldest, Cond.code yX7_oldest cX7_oldest 4 (some .int), Cond.methodLink RX7 57 yX7_flushes, Cond.instanceMethod yX7_flushes, Cond.selects RX7 yX7_flushes yX7_flushes, Cond.code yX7_flushes cX7_flushes 2 none, Cond.methodLink RX7 39 yX7_lays, Cond.instanceMethod yX7_lays, Cond.selects RX7 yX7_lays yX7_lays, Cond.code yX7_lays cX7_lays 3 none, Cond.methodLink RX7 63 yX7_turns, Cond.instanceMethod yX7_turns, Cond.selects RX7 yX7_turns yX7_turns, Cond.code yX7_turns cX7_turns 2 none, Cond.methodLink RX7 110 yX7_changed]
def wsX7_read_r3 : List Cond := [Cond.instanceMethod yX7_changed, Cond.selects RX7 yX7_changed yX7_changed, Cond.code yX7_changed cX7_changed 3 (some .int), Cond.constant RX7 22 (-1000000), Cond.fieldLink RX7 23 "BatteryCachesModel" "historyLong" "I", Cond.fieldLink RX7 16 "BatteryCachesModel" "history" "[I"]
def wsX7_read : List Cond := .code yX7_read cX7_read 2 (some .int) :: ((wsX7_read_r1 ++ (wsX7_read_r2 ++ wsX7_read_r3)) ++ wsX70)
def wsX7_write_r1 : List Cond := [Cond.methodLink RX7 104 yX7_keep, Cond.instanceMethod yX7_keep, Cond.selects RX7 yX7_keep yX7_keep, Cond.initialized RX7, Cond.code yX7_keep cX7_keep 2 none, Cond.fieldLink RX7 13 "BatteryCachesModel" "kept" "[I", Cond.fieldLink RX7 7 "BatteryCachesModel" "all" "[I", Cond.methodLink RX7 113 yX7_doWrite, Cond.instanceMethod yX7_doWrite, Cond.selects RX7 yX7_doWrite yX7_doWrite, Cond.code yX7_doWrite cX7_doWrite 4 (some .int), Cond.constantLong RX7 74 (999), Cond.constant RX7 73 (-1000001), Cond.methodLink RX7 66 yX7_isPlace, Cond.static yX7_isPlace, Cond.code yX7_isPlace cX7_isPlace 1 (some .boolean), Cond.constantLong RX7 27 (63), Cond.methodLink RX7 29 yX7_in, Cond.static yX7_in, Cond.code yX7_in cX7_in 6 (some .boolean), Cond.methodLink RX7 70 yX7_touches, Cond.instanceMethod yX7_touches, Cond.selects RX7 yX7_touches yX7_touches, Cond.code yX7_touches cX7_touches 3 (some .int)]
def wsX7_write_r2 : List Cond := [Cond.methodLink RX7 60 yX7_holder, Cond.instanceMethod yX7_holder, Cond.selects RX7 yX7_holder yX7_holder, Cond.code yX7_holder cX7_holder 3 (some .int), Cond.methodLink RX7 35 yX7_counts, Cond.instanceMethod yX7_counts, Cond.selects RX7 yX7_counts yX7_counts, Cond.code yX7_counts cX7_counts 2 none, Cond.methodLink RX7 54 yX7_oldest, Cond.instanceMethod yX7_oldest, Cond.selects RX7 yX7_oldest yX7_oldest, Cond.code yX7_oldest cX7_oldest 4 (some .int), Cond.methodLink RX7 57 yX7_flushes, Cond.instanceMethod yX7_flushes, Cond.selects RX7 yX7_flushes yX7_flushes, Cond.code yX7_flushes cX7_flushes 2 none, Cond.methodLink RX7 39 yX7_lays, Cond.instanceMethod yX7_lays, Cond.selects RX7 yX7_lays yX7_lays, Cond.code yX7_lays cX7_lays 3 none, Cond.methodLink RX7 63 yX7_turns, Cond.instanceMethod yX7_turns, Cond.selects RX7 yX7_turns yX7_turns, Cond.code yX7_turns cX7_turns 2 none]
def wsX7_write_r3 : List Cond := [Cond.methodLink RX7 47 yX7_many, Cond.instanceMethod yX7_many, Cond.selects RX7 yX7_many yX7_many, Cond.code yX7_many cX7_many 4 (some .int), Cond.methodLink RX7 50 yX7_allowance, Cond.instanceMethod yX7_allowance, Cond.selects RX7 yX7_allowance yX7_allowance, Cond.code yX7_allowance cX7_allowance 2 (some .int), Cond.methodLink RX7 43 yX7_setting, Cond.instanceMethod yX7_setting, Cond.selects RX7 yX7_setting yX7_setting, Cond.code yX7_setting cX7_setting 2 (some .int), Cond.methodLink RX7 110 yX7_changed, Cond.instanceMethod yX7_changed, Cond.selects RX7 yX7_changed yX7_changed, Cond.code yX7_changed cX7_changed 3 (some .int), Cond.constant RX7 22 (-1000000), Cond.fieldLink RX7 23 "BatteryCachesModel" "historyLong" "I", Cond.fieldLink RX7 16 "BatteryCachesModel" "history" "[I"]
def wsX7_write : List Cond := .code yX7_write cX7_write 3 (some .int) :: ((wsX7_write_r1 ++ (wsX7_write_r2 ++ wsX7_write_r3)) ++ wsX70)
def wsX7_flush_r1 : List Cond := [Cond.methodLink RX7 104 yX7_keep, Cond.instanceMethod yX7_keep, Cond.selects RX7 yX7_keep yX7_keep, Cond.initialized RX7, Cond.code yX7_keep cX7_keep 2 none, Cond.fieldLink RX7 13 "BatteryCachesModel" "kept" "[I", Cond.fieldLink RX7 7 "BatteryCachesModel" "all" "[I", Cond.methodLink RX7 117 yX7_doFlush, Cond.instanceMethod yX7_doFlush, Cond.selects RX7 yX7_doFlush yX7_doFlush, Cond.code yX7_doFlush cX7_doFlush 2 (some .int), Cond.constant RX7 73 (-1000001), Cond.constant RX7 96 (-1000002), Cond.methodLink RX7 97 yX7_isLine, Cond.static yX7_isLine, Cond.code yX7_isLine cX7_isLine 1 (some .boolean), Cond.constantLong RX7 33 (7), Cond.methodLink RX7 29 yX7_in, Cond.static yX7_in, Cond.code yX7_in cX7_in 6 (some .boolean), Cond.methodLink RX7 57 yX7_flushes, Cond.instanceMethod yX7_flushes, Cond.selects RX7 yX7_flushes yX7_flushes, Cond.code yX7_flushes cX7_flushes 2 none]
def wsX7_flush_r2 : List Cond := [Cond.methodLink RX7 39 yX7_lays, Cond.instanceMethod yX7_lays, Cond.selects RX7 yX7_lays yX7_lays, Cond.code yX7_lays cX7_lays 3 none, Cond.methodLink RX7 35 yX7_counts, Cond.instanceMethod yX7_counts, Cond.selects RX7 yX7_counts yX7_counts, Cond.code yX7_counts cX7_counts 2 none, Cond.methodLink RX7 47 yX7_many, Cond.instanceMethod yX7_many, Cond.selects RX7 yX7_many yX7_many, Cond.code yX7_many cX7_many 4 (some .int), Cond.methodLink RX7 110 yX7_changed, Cond.instanceMethod yX7_changed, Cond.selects RX7 yX7_changed yX7_changed, Cond.code yX7_changed cX7_changed 3 (some .int), Cond.constant RX7 22 (-1000000), Cond.fieldLink RX7 23 "BatteryCachesModel" "historyLong" "I", Cond.fieldLink RX7 16 "BatteryCachesModel" "history" "[I"]
def wsX7_flush : List Cond := .code yX7_flush cX7_flush 2 (some .int) :: ((wsX7_flush_r1 ++ wsX7_flush_r2) ++ wsX70)
def wsX7_tick_r1 : List Cond := [Cond.methodLink RX7 104 yX7_keep, Cond.instanceMethod yX7_keep, Cond.selects RX7 yX7_keep yX7_keep, Cond.initialized RX7, Cond.code yX7_keep cX7_keep 2 none, Cond.fieldLink RX7 13 "BatteryCachesModel" "kept" "[I", Cond.fieldLink RX7 7 "BatteryCachesModel" "all" "[I", Cond.methodLink RX7 120 yX7_doTick, Cond.instanceMethod yX7_doTick, Cond.selects RX7 yX7_doTick yX7_doTick, Cond.code yX7_doTick cX7_doTick 4 (some .int), Cond.constantLong RX7 91 (99), Cond.constant RX7 73 (-1000001), Cond.methodLink RX7 29 yX7_in, Cond.static yX7_in, Cond.code yX7_in cX7_in 6 (some .boolean), Cond.methodLink RX7 93 yX7_ticksOn, Cond.instanceMethod yX7_ticksOn, Cond.selects RX7 yX7_ticksOn yX7_ticksOn, Cond.code yX7_ticksOn cX7_ticksOn 1 (some .int), Cond.methodLink RX7 35 yX7_counts, Cond.instanceMethod yX7_counts, Cond.selects RX7 yX7_counts yX7_counts, Cond.code yX7_counts cX7_counts 2 none]
def wsX7_tick_r2 : List Cond := [Cond.methodLink RX7 85 yX7_learnsOn, Cond.instanceMethod yX7_learnsOn, Cond.selects RX7 yX7_learnsOn yX7_learnsOn, Cond.code yX7_learnsOn cX7_learnsOn 1 none, Cond.methodLink RX7 43 yX7_setting, Cond.instanceMethod yX7_setting, Cond.selects RX7 yX7_setting yX7_setting, Cond.code yX7_setting cX7_setting 2 (some .int), Cond.methodLink RX7 79 yX7_drains, Cond.instanceMethod yX7_drains, Cond.selects RX7 yX7_drains yX7_drains, Cond.code yX7_drains cX7_drains 2 none, Cond.methodLink RX7 82 yX7_charges, Cond.instanceMethod yX7_charges, Cond.selects RX7 yX7_charges yX7_charges, Cond.code yX7_charges cX7_charges 2 none, Cond.methodLink RX7 76 yX7_capacity, Cond.instanceMethod yX7_capacity, Cond.selects RX7 yX7_capacity yX7_capacity, Cond.code yX7_capacity cX7_capacity 1 (some .int), Cond.methodLink RX7 88 yX7_flushesToo, Cond.instanceMethod yX7_flushesToo, Cond.selects RX7 yX7_flushesToo yX7_flushesToo, Cond.code yX7_flushesToo cX7_flushesToo 2 (some .int)]
def wsX7_tick_r3 : List Cond := [Cond.methodLink RX7 47 yX7_many, Cond.instanceMethod yX7_many, Cond.selects RX7 yX7_many yX7_many, Cond.code yX7_many cX7_many 4 (some .int), Cond.methodLink RX7 50 yX7_allowance, Cond.instanceMethod yX7_allowance, Cond.selects RX7 yX7_allowance yX7_allowance, Cond.code yX7_allowance cX7_allowance 2 (some .int), Cond.methodLink RX7 54 yX7_oldest, Cond.instanceMethod yX7_oldest, Cond.selects RX7 yX7_oldest yX7_oldest, Cond.code yX7_oldest cX7_oldest 4 (some .int), Cond.methodLink RX7 57 yX7_flushes, Cond.instanceMethod yX7_flushes, Cond.selects RX7 yX7_flushes yX7_flushes, Cond.code yX7_flushes cX7_flushes 2 none, Cond.methodLink RX7 39 yX7_lays, Cond.instanceMethod yX7_lays, Cond.selects RX7 yX7_lays yX7_lays, Cond.code yX7_lays cX7_lays 3 none, Cond.methodLink RX7 110 yX7_changed, Cond.instanceMethod yX7_changed, Cond.selects RX7 yX7_changed yX7_changed, Cond.code yX7_changed cX7_changed 3 (some .int)]
def wsX7_tick_r4 : List Cond := [Cond.constant RX7 22 (-1000000), Cond.fieldLink RX7 23 "BatteryCachesModel" "historyLong" "I", Cond.fieldLink RX7 16 "BatteryCachesModel" "history" "[I"]
def wsX7_tick : List Cond := .code yX7_tick cX7_tick 2 (some .int) :: ((wsX7_tick_r1 ++ (wsX7_tick_r2 ++ (wsX7_tick_r3 ++ wsX7_tick_r4))) ++ wsX70)
def wsX7_load_r1 : List Cond := [Cond.methodLink RX7 104 yX7_keep, Cond.instanceMethod yX7_keep, Cond.selects RX7 yX7_keep yX7_keep, Cond.initialized RX7, Cond.code yX7_keep cX7_keep 2 none, Cond.fieldLink RX7 13 "BatteryCachesModel" "kept" "[I", Cond.fieldLink RX7 7 "BatteryCachesModel" "all" "[I", Cond.methodLink RX7 123 yX7_doLoad, Cond.instanceMethod yX7_doLoad, Cond.selects RX7 yX7_doLoad yX7_doLoad, Cond.code yX7_doLoad cX7_doLoad 2 (some .int), Cond.constantLong RX7 74 (999), Cond.constant RX7 73 (-1000001), Cond.methodLink RX7 29 yX7_in, Cond.static yX7_in, Cond.code yX7_in cX7_in 6 (some .boolean), Cond.methodLink RX7 79 yX7_drains, Cond.instanceMethod yX7_drains, Cond.selects RX7 yX7_drains yX7_drains, Cond.code yX7_drains cX7_drains 2 none, Cond.methodLink RX7 88 yX7_flushesToo, Cond.instanceMethod yX7_flushesToo, Cond.selects RX7 yX7_flushesToo yX7_flushesToo, Cond.code yX7_flushesToo cX7_flushesToo 2 (some .int)]
def wsX7_load_r2 : List Cond := [Cond.methodLink RX7 47 yX7_many, Cond.instanceMethod yX7_many, Cond.selects RX7 yX7_many yX7_many, Cond.code yX7_many cX7_many 4 (some .int), Cond.methodLink RX7 50 yX7_allowance, Cond.instanceMethod yX7_allowance, Cond.selects RX7 yX7_allowance yX7_allowance, Cond.code yX7_allowance cX7_allowance 2 (some .int), Cond.methodLink RX7 43 yX7_setting, Cond.instanceMethod yX7_setting, Cond.selects RX7 yX7_setting yX7_setting, Cond.code yX7_setting cX7_setting 2 (some .int), Cond.methodLink RX7 54 yX7_oldest, Cond.instanceMethod yX7_oldest, Cond.selects RX7 yX7_oldest yX7_oldest, Cond.code yX7_oldest cX7_oldest 4 (some .int), Cond.methodLink RX7 57 yX7_flushes, Cond.instanceMethod yX7_flushes, Cond.selects RX7 yX7_flushes yX7_flushes, Cond.code yX7_flushes cX7_flushes 2 none, Cond.methodLink RX7 39 yX7_lays, Cond.instanceMethod yX7_lays, Cond.selects RX7 yX7_lays yX7_lays, Cond.code yX7_lays cX7_lays 3 none]
def wsX7_load_r3 : List Cond := [Cond.methodLink RX7 35 yX7_counts, Cond.instanceMethod yX7_counts, Cond.selects RX7 yX7_counts yX7_counts, Cond.code yX7_counts cX7_counts 2 none, Cond.methodLink RX7 110 yX7_changed, Cond.instanceMethod yX7_changed, Cond.selects RX7 yX7_changed yX7_changed, Cond.code yX7_changed cX7_changed 3 (some .int), Cond.constant RX7 22 (-1000000), Cond.fieldLink RX7 23 "BatteryCachesModel" "historyLong" "I", Cond.fieldLink RX7 16 "BatteryCachesModel" "history" "[I"]
def wsX7_load : List Cond := .code yX7_load cX7_load 2 (some .int) :: ((wsX7_load_r1 ++ (wsX7_load_r2 ++ wsX7_load_r3)) ++ wsX70)
def wsX7_learn_r1 : List Cond := [Cond.methodLink RX7 104 yX7_keep, Cond.instanceMethod yX7_keep, Cond.selects RX7 yX7_keep yX7_keep, Cond.initialized RX7, Cond.code yX7_keep cX7_keep 2 none, Cond.fieldLink RX7 13 "BatteryCachesModel" "kept" "[I", Cond.fieldLink RX7 7 "BatteryCachesModel" "all" "[I", Cond.methodLink RX7 126 yX7_doLearn, Cond.instanceMethod yX7_doLearn, Cond.selects RX7 yX7_doLearn yX7_doLearn, Cond.code yX7_doLearn cX7_doLearn 1 (some .int), Cond.constant RX7 96 (-1000002), Cond.methodLink RX7 88 yX7_flushesToo, Cond.instanceMethod yX7_flushesToo, Cond.selects RX7 yX7_flushesToo yX7_flushesToo, Cond.code yX7_flushesToo cX7_flushesToo 2 (some .int), Cond.methodLink RX7 47 yX7_many, Cond.instanceMethod yX7_many, Cond.selects RX7 yX7_many yX7_many, Cond.code yX7_many cX7_many 4 (some .int), Cond.methodLink RX7 50 yX7_allowance, Cond.instanceMethod yX7_allowance, Cond.selects RX7 yX7_allowance yX7_allowance, Cond.code yX7_allowance cX7_allowance 2 (some .int)]
def wsX7_learn_r2 : List Cond := [Cond.methodLink RX7 43 yX7_setting, Cond.instanceMethod yX7_setting, Cond.selects RX7 yX7_setting yX7_setting, Cond.code yX7_setting cX7_setting 2 (some .int), Cond.methodLink RX7 54 yX7_oldest, Cond.instanceMethod yX7_oldest, Cond.selects RX7 yX7_oldest yX7_oldest, Cond.code yX7_oldest cX7_oldest 4 (some .int), Cond.methodLink RX7 57 yX7_flushes, Cond.instanceMethod yX7_flushes, Cond.selects RX7 yX7_flushes yX7_flushes, Cond.code yX7_flushes cX7_flushes 2 none, Cond.methodLink RX7 39 yX7_lays, Cond.instanceMethod yX7_lays, Cond.selects RX7 yX7_lays yX7_lays, Cond.code yX7_lays cX7_lays 3 none, Cond.methodLink RX7 35 yX7_counts, Cond.instanceMethod yX7_counts, Cond.selects RX7 yX7_counts yX7_counts, Cond.code yX7_counts cX7_counts 2 none, Cond.methodLink RX7 110 yX7_changed, Cond.instanceMethod yX7_changed, Cond.selects RX7 yX7_changed yX7_changed, Cond.code yX7_changed cX7_changed 3 (some .int)]
def wsX7_learn_r3 : List Cond := [Cond.constant RX7 22 (-1000000), Cond.fieldLink RX7 23 "BatteryCachesModel" "historyLong" "I", Cond.fieldLink RX7 16 "BatteryCachesModel" "history" "[I"]
def wsX7_learn : List Cond := .code yX7_learn cX7_learn 1 (some .int) :: ((wsX7_learn_r1 ++ (wsX7_learn_r2 ++ wsX7_learn_r3)) ++ wsX70)
def wsX7_cut_r1 : List Cond := [Cond.methodLink RX7 104 yX7_keep, Cond.instanceMethod yX7_keep, Cond.selects RX7 yX7_keep yX7_keep, Cond.initialized RX7, Cond.code yX7_keep cX7_keep 2 none, Cond.fieldLink RX7 13 "BatteryCachesModel" "kept" "[I", Cond.fieldLink RX7 7 "BatteryCachesModel" "all" "[I", Cond.methodLink RX7 129 yX7_doCut, Cond.instanceMethod yX7_doCut, Cond.selects RX7 yX7_doCut yX7_doCut, Cond.code yX7_doCut cX7_doCut 3 (some .int), Cond.methodLink RX7 43 yX7_setting, Cond.instanceMethod yX7_setting, Cond.selects RX7 yX7_setting yX7_setting, Cond.code yX7_setting cX7_setting 2 (some .int), Cond.methodLink RX7 47 yX7_many, Cond.instanceMethod yX7_many, Cond.selects RX7 yX7_many yX7_many, Cond.code yX7_many cX7_many 4 (some .int), Cond.methodLink RX7 54 yX7_oldest, Cond.instanceMethod yX7_oldest, Cond.selects RX7 yX7_oldest yX7_oldest, Cond.code yX7_oldest cX7_oldest 4 (some .int), Cond.methodLink RX7 57 yX7_flushes]
def wsX7_cut_r2 : List Cond := [Cond.instanceMethod yX7_flushes, Cond.selects RX7 yX7_flushes yX7_flushes, Cond.code yX7_flushes cX7_flushes 2 none, Cond.methodLink RX7 39 yX7_lays, Cond.instanceMethod yX7_lays, Cond.selects RX7 yX7_lays yX7_lays, Cond.code yX7_lays cX7_lays 3 none, Cond.methodLink RX7 35 yX7_counts, Cond.instanceMethod yX7_counts, Cond.selects RX7 yX7_counts yX7_counts, Cond.code yX7_counts cX7_counts 2 none, Cond.methodLink RX7 110 yX7_changed, Cond.instanceMethod yX7_changed, Cond.selects RX7 yX7_changed yX7_changed, Cond.code yX7_changed cX7_changed 3 (some .int), Cond.constant RX7 22 (-1000000), Cond.fieldLink RX7 23 "BatteryCachesModel" "historyLong" "I", Cond.fieldLink RX7 16 "BatteryCachesModel" "history" "[I"]
def wsX7_cut : List Cond := .code yX7_cut cX7_cut 1 (some .int) :: ((wsX7_cut_r1 ++ wsX7_cut_r2) ++ wsX70)
def wsX7_set : List Cond := .code yX7_set cX7_set 3 (some .int) :: ([.methodLink RX7 104 yX7_keep, .instanceMethod yX7_keep, .selects RX7 yX7_keep yX7_keep, .initialized RX7, .code yX7_keep cX7_keep 2 none, .fieldLink RX7 13 "BatteryCachesModel" "kept" "[I", .fieldLink RX7 7 "BatteryCachesModel" "all" "[I", .methodLink RX7 132 yX7_doSet, .instanceMethod yX7_doSet, .selects RX7 yX7_doSet yX7_doSet, .code yX7_doSet cX7_doSet 5 (some .int), .constantLong RX7 100 (500), .constantLong RX7 102 (200), .constant RX7 73 (-1000001), .methodLink RX7 29 yX7_in, .static yX7_in, .code yX7_in cX7_in 6 (some .boolean), .methodLink RX7 110 yX7_changed, .instanceMethod yX7_changed, .selects RX7 yX7_changed yX7_changed, .code yX7_changed cX7_changed 3 (some .int), .constant RX7 22 (-1000000), .fieldLink RX7 23 "BatteryCachesModel" "historyLong" "I", .fieldLink RX7 16 "BatteryCachesModel" "history" "[I"] ++ wsX70)
def wsX7_lowerTurns : List Cond := .code yX7_lowerTurns cX7_lowerTurns 4 (some .int) :: ([.fieldLink RX7 7 "BatteryCachesModel" "all" "[I"] ++ wsX70)
def wsX7_lineOf : List Cond := .code yX7_lineOf cX7_lineOf 3 (some .int) :: ([.constantLong RX7 135 (4), .constant RX7 73 (-1000001), .fieldLink RX7 7 "BatteryCachesModel" "all" "[I", .constant RX7 137 (-1000004), .methodLink RX7 97 yX7_isLine, .static yX7_isLine, .initialized RX7, .code yX7_isLine cX7_isLine 1 (some .boolean), .constantLong RX7 33 (7), .methodLink RX7 29 yX7_in, .static yX7_in, .code yX7_in cX7_in 6 (some .boolean), .methodLink RX7 138 yX7_lowerTurns, .instanceMethod yX7_lowerTurns, .selects RX7 yX7_lowerTurns yX7_lowerTurns, .code yX7_lowerTurns cX7_lowerTurns 4 (some .int)] ++ wsX70)
def wsX7_placeOf : List Cond := .code yX7_placeOf cX7_placeOf 4 (some .int) :: ([.constantLong RX7 141 (3), .constant RX7 73 (-1000001), .fieldLink RX7 7 "BatteryCachesModel" "all" "[I", .constant RX7 137 (-1000004), .methodLink RX7 66 yX7_isPlace, .static yX7_isPlace, .initialized RX7, .code yX7_isPlace cX7_isPlace 1 (some .boolean), .constantLong RX7 27 (63), .methodLink RX7 29 yX7_in, .static yX7_in, .code yX7_in cX7_in 6 (some .boolean), .methodLink RX7 60 yX7_holder, .instanceMethod yX7_holder, .selects RX7 yX7_holder yX7_holder, .code yX7_holder cX7_holder 3 (some .int)] ++ wsX70)
def wsX7_saved : List Cond := .code yX7_saved cX7_saved 2 (some .int) :: ([.fieldLink RX7 7 "BatteryCachesModel" "all" "[I", .methodLink RX7 43 yX7_setting, .instanceMethod yX7_setting, .selects RX7 yX7_setting yX7_setting, .initialized RX7, .code yX7_setting cX7_setting 2 (some .int), .methodLink RX7 47 yX7_many, .instanceMethod yX7_many, .selects RX7 yX7_many yX7_many, .code yX7_many cX7_many 4 (some .int)] ++ wsX70)
def wsX7_battery : List Cond := .code yX7_battery cX7_battery 2 (some .int) :: ([.fieldLink RX7 7 "BatteryCachesModel" "all" "[I", .constant RX7 73 (-1000001), .methodLink RX7 76 yX7_capacity, .instanceMethod yX7_capacity, .selects RX7 yX7_capacity yX7_capacity, .initialized RX7, .code yX7_capacity cX7_capacity 1 (some .int), .methodLink RX7 50 yX7_allowance, .instanceMethod yX7_allowance, .selects RX7 yX7_allowance yX7_allowance, .code yX7_allowance cX7_allowance 2 (some .int), .methodLink RX7 43 yX7_setting, .instanceMethod yX7_setting, .selects RX7 yX7_setting yX7_setting, .code yX7_setting cX7_setting 2 (some .int), .methodLink RX7 143 yX7_saved, .instanceMethod yX7_saved, .selects RX7 yX7_saved yX7_saved, .code yX7_saved cX7_saved 2 (some .int), .methodLink RX7 47 yX7_many, .instanceMethod yX7_many, .selects RX7 yX7_many yX7_many, .code yX7_many cX7_many 4 (some .int)] ++ wsX70)
def wsX7_setOf : List Cond := .code yX7_setOf cX7_setOf 4 (some .int) :: ([.fieldLink RX7 7 "BatteryCachesModel" "all" "[I"] ++ wsX70)
def wsX7_dirtyBefore : List Cond := .code yX7_dirtyBefore cX7_dirtyBefore 4 (some .int) :: ([.fieldLink RX7 7 "BatteryCachesModel" "all" "[I"] ++ wsX70)
def wsX7_losable : List Cond := .code yX7_losable cX7_losable 3 (some .int) :: ([.fieldLink RX7 7 "BatteryCachesModel" "all" "[I", .methodLink RX7 146 yX7_dirtyBefore, .instanceMethod yX7_dirtyBefore, .selects RX7 yX7_dirtyBefore yX7_dirtyBefore, .initialized RX7, .code yX7_dirtyBefore cX7_dirtyBefore 4 (some .int), .methodLink RX7 143 yX7_saved, .instanceMethod yX7_saved, .selects RX7 yX7_saved yX7_saved, .code yX7_saved cX7_saved 2 (some .int), .methodLink RX7 43 yX7_setting, .instanceMethod yX7_setting, .selects RX7 yX7_setting yX7_setting, .code yX7_setting cX7_setting 2 (some .int), .methodLink RX7 47 yX7_many, .instanceMethod yX7_many, .selects RX7 yX7_many yX7_many, .code yX7_many cX7_many 4 (some .int)] ++ wsX70)
def wsX7_lines_r1 : List Cond := [Cond.constantLong RX7 141 (3), Cond.constant RX7 73 (-1000001), Cond.methodLink RX7 29 yX7_in, Cond.static yX7_in, Cond.initialized RX7, Cond.code yX7_in cX7_in 6 (some .boolean), Cond.methodLink RX7 149 yX7_losable, Cond.instanceMethod yX7_losable, Cond.selects RX7 yX7_losable yX7_losable, Cond.code yX7_losable cX7_losable 3 (some .int), Cond.fieldLink RX7 7 "BatteryCachesModel" "all" "[I", Cond.methodLink RX7 146 yX7_dirtyBefore, Cond.instanceMethod yX7_dirtyBefore, Cond.selects RX7 yX7_dirtyBefore yX7_dirtyBefore, Cond.code yX7_dirtyBefore cX7_dirtyBefore 4 (some .int), Cond.methodLink RX7 143 yX7_saved, Cond.instanceMethod yX7_saved, Cond.selects RX7 yX7_saved yX7_saved, Cond.code yX7_saved cX7_saved 2 (some .int), Cond.methodLink RX7 43 yX7_setting, Cond.instanceMethod yX7_setting, Cond.selects RX7 yX7_setting yX7_setting, Cond.code yX7_setting cX7_setting 2 (some .int), Cond.methodLink RX7 47 yX7_many]
def wsX7_lines_r2 : List Cond := [Cond.instanceMethod yX7_many, Cond.selects RX7 yX7_many yX7_many, Cond.code yX7_many cX7_many 4 (some .int), Cond.methodLink RX7 152 yX7_setOf, Cond.instanceMethod yX7_setOf, Cond.selects RX7 yX7_setOf yX7_setOf, Cond.code yX7_setOf cX7_setOf 4 (some .int)]
def wsX7_lines : List Cond := .code yX7_lines cX7_lines 2 (some .int) :: ((wsX7_lines_r1 ++ wsX7_lines_r2) ++ wsX70)
def wsX7_wouldFlush_r1 : List Cond := [Cond.methodLink RX7 104 yX7_keep, Cond.instanceMethod yX7_keep, Cond.selects RX7 yX7_keep yX7_keep, Cond.initialized RX7, Cond.code yX7_keep cX7_keep 2 none, Cond.fieldLink RX7 13 "BatteryCachesModel" "kept" "[I", Cond.fieldLink RX7 7 "BatteryCachesModel" "all" "[I", Cond.methodLink RX7 123 yX7_doLoad, Cond.instanceMethod yX7_doLoad, Cond.selects RX7 yX7_doLoad yX7_doLoad, Cond.code yX7_doLoad cX7_doLoad 2 (some .int), Cond.constantLong RX7 74 (999), Cond.constant RX7 73 (-1000001), Cond.methodLink RX7 29 yX7_in, Cond.static yX7_in, Cond.code yX7_in cX7_in 6 (some .boolean), Cond.methodLink RX7 79 yX7_drains, Cond.instanceMethod yX7_drains, Cond.selects RX7 yX7_drains yX7_drains, Cond.code yX7_drains cX7_drains 2 none, Cond.methodLink RX7 88 yX7_flushesToo, Cond.instanceMethod yX7_flushesToo, Cond.selects RX7 yX7_flushesToo yX7_flushesToo, Cond.code yX7_flushesToo cX7_flushesToo 2 (some .int)]
def wsX7_wouldFlush_r2 : List Cond := [Cond.methodLink RX7 47 yX7_many, Cond.instanceMethod yX7_many, Cond.selects RX7 yX7_many yX7_many, Cond.code yX7_many cX7_many 4 (some .int), Cond.methodLink RX7 50 yX7_allowance, Cond.instanceMethod yX7_allowance, Cond.selects RX7 yX7_allowance yX7_allowance, Cond.code yX7_allowance cX7_allowance 2 (some .int), Cond.methodLink RX7 43 yX7_setting, Cond.instanceMethod yX7_setting, Cond.selects RX7 yX7_setting yX7_setting, Cond.code yX7_setting cX7_setting 2 (some .int), Cond.methodLink RX7 54 yX7_oldest, Cond.instanceMethod yX7_oldest, Cond.selects RX7 yX7_oldest yX7_oldest, Cond.code yX7_oldest cX7_oldest 4 (some .int), Cond.methodLink RX7 57 yX7_flushes, Cond.instanceMethod yX7_flushes, Cond.selects RX7 yX7_flushes yX7_flushes, Cond.code yX7_flushes cX7_flushes 2 none, Cond.methodLink RX7 39 yX7_lays, Cond.instanceMethod yX7_lays, Cond.selects RX7 yX7_lays yX7_lays, Cond.code yX7_lays cX7_lays 3 none]
def wsX7_wouldFlush_r3 : List Cond := [Cond.methodLink RX7 35 yX7_counts, Cond.instanceMethod yX7_counts, Cond.selects RX7 yX7_counts yX7_counts, Cond.code yX7_counts cX7_counts 2 none, Cond.methodLink RX7 155 yX7_giveBack, Cond.instanceMethod yX7_giveBack, Cond.selects RX7 yX7_giveBack yX7_giveBack, Cond.code yX7_giveBack cX7_giveBack 2 none]
def wsX7_wouldFlush : List Cond := .code yX7_wouldFlush cX7_wouldFlush 3 (some .int) :: ((wsX7_wouldFlush_r1 ++ (wsX7_wouldFlush_r2 ++ wsX7_wouldFlush_r3)) ++ wsX70)
def wsX7_critical_r1 : List Cond := [Cond.constant RX7 137 (-1000004), Cond.methodLink RX7 158 yX7_wouldFlush, Cond.instanceMethod yX7_wouldFlush, Cond.selects RX7 yX7_wouldFlush yX7_wouldFlush, Cond.initialized RX7, Cond.code yX7_wouldFlush cX7_wouldFlush 3 (some .int), Cond.methodLink RX7 104 yX7_keep, Cond.instanceMethod yX7_keep, Cond.selects RX7 yX7_keep yX7_keep, Cond.code yX7_keep cX7_keep 2 none, Cond.fieldLink RX7 13 "BatteryCachesModel" "kept" "[I", Cond.fieldLink RX7 7 "BatteryCachesModel" "all" "[I", Cond.methodLink RX7 123 yX7_doLoad, Cond.instanceMethod yX7_doLoad, Cond.selects RX7 yX7_doLoad yX7_doLoad, Cond.code yX7_doLoad cX7_doLoad 2 (some .int), Cond.constantLong RX7 74 (999), Cond.constant RX7 73 (-1000001), Cond.methodLink RX7 29 yX7_in, Cond.static yX7_in, Cond.code yX7_in cX7_in 6 (some .boolean), Cond.methodLink RX7 79 yX7_drains, Cond.instanceMethod yX7_drains, Cond.selects RX7 yX7_drains yX7_drains]
def wsX7_critical_r2 : List Cond := [Cond.code yX7_drains cX7_drains 2 none, Cond.methodLink RX7 88 yX7_flushesToo, Cond.instanceMethod yX7_flushesToo, Cond.selects RX7 yX7_flushesToo yX7_flushesToo, Cond.code yX7_flushesToo cX7_flushesToo 2 (some .int), Cond.methodLink RX7 47 yX7_many, Cond.instanceMethod yX7_many, Cond.selects RX7 yX7_many yX7_many, Cond.code yX7_many cX7_many 4 (some .int), Cond.methodLink RX7 50 yX7_allowance, Cond.instanceMethod yX7_allowance, Cond.selects RX7 yX7_allowance yX7_allowance, Cond.code yX7_allowance cX7_allowance 2 (some .int), Cond.methodLink RX7 43 yX7_setting, Cond.instanceMethod yX7_setting, Cond.selects RX7 yX7_setting yX7_setting, Cond.code yX7_setting cX7_setting 2 (some .int), Cond.methodLink RX7 54 yX7_oldest, Cond.instanceMethod yX7_oldest, Cond.selects RX7 yX7_oldest yX7_oldest, Cond.code yX7_oldest cX7_oldest 4 (some .int), Cond.methodLink RX7 57 yX7_flushes, Cond.instanceMethod yX7_flushes, Cond.selects RX7 yX7_flushes yX7_flushes]
def wsX7_critical_r3 : List Cond := [Cond.code yX7_flushes cX7_flushes 2 none, Cond.methodLink RX7 39 yX7_lays, Cond.instanceMethod yX7_lays, Cond.selects RX7 yX7_lays yX7_lays, Cond.code yX7_lays cX7_lays 3 none, Cond.methodLink RX7 35 yX7_counts, Cond.instanceMethod yX7_counts, Cond.selects RX7 yX7_counts yX7_counts, Cond.code yX7_counts cX7_counts 2 none, Cond.methodLink RX7 155 yX7_giveBack, Cond.instanceMethod yX7_giveBack, Cond.selects RX7 yX7_giveBack yX7_giveBack, Cond.code yX7_giveBack cX7_giveBack 2 none]
def wsX7_critical : List Cond := .code yX7_critical cX7_critical 2 (some .int) :: ((wsX7_critical_r1 ++ (wsX7_critical_r2 ++ wsX7_critical_r3)) ++ wsX70)
def wsX7_ticksUntil_r1 : List Cond := [Cond.constantLong RX7 161 (8), Cond.constant RX7 73 (-1000001), Cond.constant RX7 137 (-1000004), Cond.methodLink RX7 29 yX7_in, Cond.static yX7_in, Cond.initialized RX7, Cond.code yX7_in cX7_in 6 (some .boolean), Cond.methodLink RX7 104 yX7_keep, Cond.instanceMethod yX7_keep, Cond.selects RX7 yX7_keep yX7_keep, Cond.code yX7_keep cX7_keep 2 none, Cond.fieldLink RX7 13 "BatteryCachesModel" "kept" "[I", Cond.fieldLink RX7 7 "BatteryCachesModel" "all" "[I", Cond.methodLink RX7 50 yX7_allowance, Cond.instanceMethod yX7_allowance, Cond.selects RX7 yX7_allowance yX7_allowance, Cond.code yX7_allowance cX7_allowance 2 (some .int), Cond.methodLink RX7 43 yX7_setting, Cond.instanceMethod yX7_setting, Cond.selects RX7 yX7_setting yX7_setting, Cond.code yX7_setting cX7_setting 2 (some .int), Cond.methodLink RX7 93 yX7_ticksOn, Cond.instanceMethod yX7_ticksOn, Cond.selects RX7 yX7_ticksOn yX7_ticksOn]
def wsX7_ticksUntil_r2 : List Cond := [Cond.code yX7_ticksOn cX7_ticksOn 1 (some .int), Cond.methodLink RX7 35 yX7_counts, Cond.instanceMethod yX7_counts, Cond.selects RX7 yX7_counts yX7_counts, Cond.code yX7_counts cX7_counts 2 none, Cond.methodLink RX7 85 yX7_learnsOn, Cond.instanceMethod yX7_learnsOn, Cond.selects RX7 yX7_learnsOn yX7_learnsOn, Cond.code yX7_learnsOn cX7_learnsOn 1 none, Cond.methodLink RX7 79 yX7_drains, Cond.instanceMethod yX7_drains, Cond.selects RX7 yX7_drains yX7_drains, Cond.code yX7_drains cX7_drains 2 none, Cond.methodLink RX7 82 yX7_charges, Cond.instanceMethod yX7_charges, Cond.selects RX7 yX7_charges yX7_charges, Cond.code yX7_charges cX7_charges 2 none, Cond.methodLink RX7 76 yX7_capacity, Cond.instanceMethod yX7_capacity, Cond.selects RX7 yX7_capacity yX7_capacity, Cond.code yX7_capacity cX7_capacity 1 (some .int), Cond.methodLink RX7 88 yX7_flushesToo, Cond.instanceMethod yX7_flushesToo, Cond.selects RX7 yX7_flushesToo yX7_flushesToo]
def wsX7_ticksUntil_r3 : List Cond := [Cond.code yX7_flushesToo cX7_flushesToo 2 (some .int), Cond.methodLink RX7 47 yX7_many, Cond.instanceMethod yX7_many, Cond.selects RX7 yX7_many yX7_many, Cond.code yX7_many cX7_many 4 (some .int), Cond.methodLink RX7 54 yX7_oldest, Cond.instanceMethod yX7_oldest, Cond.selects RX7 yX7_oldest yX7_oldest, Cond.code yX7_oldest cX7_oldest 4 (some .int), Cond.methodLink RX7 57 yX7_flushes, Cond.instanceMethod yX7_flushes, Cond.selects RX7 yX7_flushes yX7_flushes, Cond.code yX7_flushes cX7_flushes 2 none, Cond.methodLink RX7 39 yX7_lays, Cond.instanceMethod yX7_lays, Cond.selects RX7 yX7_lays yX7_lays, Cond.code yX7_lays cX7_lays 3 none, Cond.methodLink RX7 155 yX7_giveBack, Cond.instanceMethod yX7_giveBack, Cond.selects RX7 yX7_giveBack yX7_giveBack, Cond.code yX7_giveBack cX7_giveBack 2 none]
def wsX7_ticksUntil : List Cond := .code yX7_ticksUntil cX7_ticksUntil 4 (some .int) :: ((wsX7_ticksUntil_r1 ++ (wsX7_ticksUntil_r2 ++ wsX7_ticksUntil_r3)) ++ wsX70)
def wsX7_apart : List Cond := .code yX7_apart cX7_apart 4 (some .int) :: ([.fieldLink RX7 7 "BatteryCachesModel" "all" "[I"] ++ wsX70)
def wsX7_nearest : List Cond := .code yX7_nearest cX7_nearest 4 (some .int) :: ([.fieldLink RX7 7 "BatteryCachesModel" "all" "[I", .methodLink RX7 163 yX7_apart, .instanceMethod yX7_apart, .selects RX7 yX7_apart yX7_apart, .initialized RX7, .code yX7_apart cX7_apart 4 (some .int)] ++ wsX70)
def wsX7_pair : List Cond := .code yX7_pair cX7_pair 5 (some .int) :: ([.constant RX7 73 (-1000001), .constant RX7 137 (-1000004), .fieldLink RX7 7 "BatteryCachesModel" "all" "[I", .methodLink RX7 29 yX7_in, .static yX7_in, .initialized RX7, .code yX7_in cX7_in 6 (some .boolean), .methodLink RX7 47 yX7_many, .instanceMethod yX7_many, .selects RX7 yX7_many yX7_many, .code yX7_many cX7_many 4 (some .int), .methodLink RX7 166 yX7_nearest, .instanceMethod yX7_nearest, .selects RX7 yX7_nearest yX7_nearest, .code yX7_nearest cX7_nearest 4 (some .int), .methodLink RX7 163 yX7_apart, .instanceMethod yX7_apart, .selects RX7 yX7_apart yX7_apart, .code yX7_apart cX7_apart 4 (some .int)] ++ wsX70)
def wsX7_count : List Cond := .code yX7_count cX7_count 2 (some .int) :: ([.constantLong RX7 161 (8), .fieldLink RX7 7 "BatteryCachesModel" "all" "[I", .fieldLink RX7 23 "BatteryCachesModel" "historyLong" "I", .fieldLink RX7 169 "BatteryCachesModel" "textLong" "I", .constantLong RX7 172 (20), .constantLong RX7 174 (23), .constant RX7 73 (-1000001), .methodLink RX7 29 yX7_in, .static yX7_in, .initialized RX7, .code yX7_in cX7_in 6 (some .boolean)] ++ wsX70)
def wsX7_undo : List Cond := .code yX7_undo cX7_undo 2 (some .int) :: ([.fieldLink RX7 23 "BatteryCachesModel" "historyLong" "I", .constant RX7 96 (-1000002), .fieldLink RX7 7 "BatteryCachesModel" "all" "[I", .fieldLink RX7 16 "BatteryCachesModel" "history" "[I"] ++ wsX70)
def wsX7_type : List Cond := .code yX7_type cX7_type 2 (some .int) :: ([.constantLong RX7 176 (32), .constantLong RX7 178 (126), .constant RX7 73 (-1000001), .fieldLink RX7 169 "BatteryCachesModel" "textLong" "I", .constant RX7 180 (-1000003), .fieldLink RX7 19 "BatteryCachesModel" "text" "[I", .methodLink RX7 29 yX7_in, .static yX7_in, .initialized RX7, .code yX7_in cX7_in 6 (some .boolean)] ++ wsX70)
def wsX7_clearText : List Cond := .code yX7_clearText cX7_clearText 2 (some .int) :: ([.fieldLink RX7 169 "BatteryCachesModel" "textLong" "I"] ++ wsX70)
def wsX7_isHere : List Cond := .code yX7_isHere cX7_isHere 3 (some .boolean) :: ([.fieldLink RX7 181 "BatteryCachesModel" "at" "I", .fieldLink RX7 169 "BatteryCachesModel" "textLong" "I", .fieldLink RX7 19 "BatteryCachesModel" "text" "[I", .methodLink RX7 29 yX7_in, .static yX7_in, .initialized RX7, .code yX7_in cX7_in 6 (some .boolean)] ++ wsX70)
def wsX7_takes : List Cond := .code yX7_takes cX7_takes 3 (some .boolean) :: ([.fieldLink RX7 181 "BatteryCachesModel" "at" "I", .methodLink RX7 184 yX7_isHere, .instanceMethod yX7_isHere, .selects RX7 yX7_isHere yX7_isHere, .initialized RX7, .code yX7_isHere cX7_isHere 3 (some .boolean), .fieldLink RX7 169 "BatteryCachesModel" "textLong" "I", .fieldLink RX7 19 "BatteryCachesModel" "text" "[I", .methodLink RX7 29 yX7_in, .static yX7_in, .code yX7_in cX7_in 6 (some .boolean)] ++ wsX70)
def wsX7_takesNumber : List Cond := .code yX7_takesNumber cX7_takesNumber 2 (some .boolean) :: ([.fieldLink RX7 181 "BatteryCachesModel" "at" "I", .fieldLink RX7 188 "BatteryCachesModel" "number" "I", .fieldLink RX7 19 "BatteryCachesModel" "text" "[I", .methodLink RX7 184 yX7_isHere, .instanceMethod yX7_isHere, .selects RX7 yX7_isHere yX7_isHere, .initialized RX7, .code yX7_isHere cX7_isHere 3 (some .boolean), .fieldLink RX7 169 "BatteryCachesModel" "textLong" "I", .methodLink RX7 29 yX7_in, .static yX7_in, .code yX7_in cX7_in 6 (some .boolean)] ++ wsX70)
def wsX7_isOrder : List Cond := .code yX7_isOrder cX7_isOrder 1 (some .boolean) :: ([])
def wsX7_readsOrder_r1 : List Cond := [Cond.fieldLink RX7 191 "BatteryCachesModel" "from" "I", Cond.fieldLink RX7 181 "BatteryCachesModel" "at" "I", Cond.fieldLink RX7 19 "BatteryCachesModel" "text" "[I", Cond.fieldLink RX7 188 "BatteryCachesModel" "number" "I", Cond.fieldLink RX7 201 "BatteryCachesModel" "first" "I", Cond.fieldLink RX7 207 "BatteryCachesModel" "second" "I", Cond.methodLink RX7 194 yX7_isOrder, Cond.static yX7_isOrder, Cond.initialized RX7, Cond.code yX7_isOrder cX7_isOrder 1 (some .boolean), Cond.methodLink RX7 197 yX7_takesNumber, Cond.instanceMethod yX7_takesNumber, Cond.selects RX7 yX7_takesNumber yX7_takesNumber, Cond.code yX7_takesNumber cX7_takesNumber 2 (some .boolean), Cond.methodLink RX7 184 yX7_isHere, Cond.instanceMethod yX7_isHere, Cond.selects RX7 yX7_isHere yX7_isHere, Cond.code yX7_isHere cX7_isHere 3 (some .boolean), Cond.fieldLink RX7 169 "BatteryCachesModel" "textLong" "I", Cond.methodLink RX7 29 yX7_in, Cond.static yX7_in, Cond.code yX7_in cX7_in 6 (some .boolean), Cond.methodLink RX7 204 yX7_takes, Cond.instanceMethod yX7_takes]
def wsX7_readsOrder_r2 : List Cond := [Cond.selects RX7 yX7_takes yX7_takes, Cond.code yX7_takes cX7_takes 3 (some .boolean)]
def wsX7_readsOrder : List Cond := .code yX7_readsOrder cX7_readsOrder 2 (some .boolean) :: ((wsX7_readsOrder_r1 ++ wsX7_readsOrder_r2) ++ wsX70)
def wsX7_isInRange : List Cond := .code yX7_isInRange cX7_isInRange 2 (some .boolean) :: ([.fieldLink RX7 19 "BatteryCachesModel" "text" "[I", .fieldLink RX7 191 "BatteryCachesModel" "from" "I", .fieldLink RX7 201 "BatteryCachesModel" "first" "I", .constantLong RX7 91 (99), .constantLong RX7 74 (999), .methodLink RX7 66 yX7_isPlace, .static yX7_isPlace, .initialized RX7, .code yX7_isPlace cX7_isPlace 1 (some .boolean), .constantLong RX7 27 (63), .methodLink RX7 29 yX7_in, .static yX7_in, .code yX7_in cX7_in 6 (some .boolean)] ++ wsX70)
def wsX7_doOrder_r1 : List Cond := [Cond.fieldLink RX7 19 "BatteryCachesModel" "text" "[I", Cond.fieldLink RX7 191 "BatteryCachesModel" "from" "I", Cond.fieldLink RX7 201 "BatteryCachesModel" "first" "I", Cond.fieldLink RX7 207 "BatteryCachesModel" "second" "I", Cond.methodLink RX7 107 yX7_doRead, Cond.instanceMethod yX7_doRead, Cond.selects RX7 yX7_doRead yX7_doRead, Cond.initialized RX7, Cond.code yX7_doRead cX7_doRead 2 (some .int), Cond.fieldLink RX7 7 "BatteryCachesModel" "all" "[I", Cond.constant RX7 73 (-1000001), Cond.methodLink RX7 66 yX7_isPlace, Cond.static yX7_isPlace, Cond.code yX7_isPlace cX7_isPlace 1 (some .boolean), Cond.constantLong RX7 27 (63), Cond.methodLink RX7 29 yX7_in, Cond.static yX7_in, Cond.code yX7_in cX7_in 6 (some .boolean), Cond.methodLink RX7 70 yX7_touches, Cond.instanceMethod yX7_touches, Cond.selects RX7 yX7_touches yX7_touches, Cond.code yX7_touches cX7_touches 3 (some .int), Cond.methodLink RX7 60 yX7_holder, Cond.instanceMethod yX7_holder]
def wsX7_doOrder_r2 : List Cond := [Cond.selects RX7 yX7_holder yX7_holder, Cond.code yX7_holder cX7_holder 3 (some .int), Cond.methodLink RX7 35 yX7_counts, Cond.instanceMethod yX7_counts, Cond.selects RX7 yX7_counts yX7_counts, Cond.code yX7_counts cX7_counts 2 none, Cond.methodLink RX7 54 yX7_oldest, Cond.instanceMethod yX7_oldest, Cond.selects RX7 yX7_oldest yX7_oldest, Cond.code yX7_oldest cX7_oldest 4 (some .int), Cond.methodLink RX7 57 yX7_flushes, Cond.instanceMethod yX7_flushes, Cond.selects RX7 yX7_flushes yX7_flushes, Cond.code yX7_flushes cX7_flushes 2 none, Cond.methodLink RX7 39 yX7_lays, Cond.instanceMethod yX7_lays, Cond.selects RX7 yX7_lays yX7_lays, Cond.code yX7_lays cX7_lays 3 none, Cond.methodLink RX7 63 yX7_turns, Cond.instanceMethod yX7_turns, Cond.selects RX7 yX7_turns yX7_turns, Cond.code yX7_turns cX7_turns 2 none, Cond.methodLink RX7 113 yX7_doWrite, Cond.instanceMethod yX7_doWrite]
def wsX7_doOrder_r3 : List Cond := [Cond.selects RX7 yX7_doWrite yX7_doWrite, Cond.code yX7_doWrite cX7_doWrite 4 (some .int), Cond.constantLong RX7 74 (999), Cond.methodLink RX7 47 yX7_many, Cond.instanceMethod yX7_many, Cond.selects RX7 yX7_many yX7_many, Cond.code yX7_many cX7_many 4 (some .int), Cond.methodLink RX7 50 yX7_allowance, Cond.instanceMethod yX7_allowance, Cond.selects RX7 yX7_allowance yX7_allowance, Cond.code yX7_allowance cX7_allowance 2 (some .int), Cond.methodLink RX7 43 yX7_setting, Cond.instanceMethod yX7_setting, Cond.selects RX7 yX7_setting yX7_setting, Cond.code yX7_setting cX7_setting 2 (some .int), Cond.methodLink RX7 120 yX7_doTick, Cond.instanceMethod yX7_doTick, Cond.selects RX7 yX7_doTick yX7_doTick, Cond.code yX7_doTick cX7_doTick 4 (some .int), Cond.constantLong RX7 91 (99), Cond.methodLink RX7 93 yX7_ticksOn, Cond.instanceMethod yX7_ticksOn, Cond.selects RX7 yX7_ticksOn yX7_ticksOn, Cond.code yX7_ticksOn cX7_ticksOn 1 (some .int)]
def wsX7_doOrder_r4 : List Cond := [Cond.methodLink RX7 85 yX7_learnsOn, Cond.instanceMethod yX7_learnsOn, Cond.selects RX7 yX7_learnsOn yX7_learnsOn, Cond.code yX7_learnsOn cX7_learnsOn 1 none, Cond.methodLink RX7 79 yX7_drains, Cond.instanceMethod yX7_drains, Cond.selects RX7 yX7_drains yX7_drains, Cond.code yX7_drains cX7_drains 2 none, Cond.methodLink RX7 82 yX7_charges, Cond.instanceMethod yX7_charges, Cond.selects RX7 yX7_charges yX7_charges, Cond.code yX7_charges cX7_charges 2 none, Cond.methodLink RX7 76 yX7_capacity, Cond.instanceMethod yX7_capacity, Cond.selects RX7 yX7_capacity yX7_capacity, Cond.code yX7_capacity cX7_capacity 1 (some .int), Cond.methodLink RX7 88 yX7_flushesToo, Cond.instanceMethod yX7_flushesToo, Cond.selects RX7 yX7_flushesToo yX7_flushesToo, Cond.code yX7_flushesToo cX7_flushesToo 2 (some .int), Cond.methodLink RX7 123 yX7_doLoad, Cond.instanceMethod yX7_doLoad, Cond.selects RX7 yX7_doLoad yX7_doLoad, Cond.code yX7_doLoad cX7_doLoad 2 (some .int)]
def wsX7_doOrder_r5 : List Cond := [Cond.methodLink RX7 129 yX7_doCut, Cond.instanceMethod yX7_doCut, Cond.selects RX7 yX7_doCut yX7_doCut, Cond.code yX7_doCut cX7_doCut 3 (some .int), Cond.methodLink RX7 126 yX7_doLearn, Cond.instanceMethod yX7_doLearn, Cond.selects RX7 yX7_doLearn yX7_doLearn, Cond.code yX7_doLearn cX7_doLearn 1 (some .int), Cond.constant RX7 96 (-1000002)]
def wsX7_doOrder : List Cond := .code yX7_doOrder cX7_doOrder 1 (some .int) :: ((wsX7_doOrder_r1 ++ (wsX7_doOrder_r2 ++ (wsX7_doOrder_r3 ++ (wsX7_doOrder_r4 ++ wsX7_doOrder_r5)))) ++ wsX70)
def wsX7_notes : List Cond := .code yX7_notes cX7_notes 3 (some .boolean) :: ([.fieldLink RX7 210 "BatteryCachesModel" "why" "I", .fieldLink RX7 213 "BatteryCachesModel" "cause" "I"] ++ wsX70)
def wsX7_doesAll_r1 : List Cond := [Cond.fieldLink RX7 191 "BatteryCachesModel" "from" "I", Cond.fieldLink RX7 216 "BatteryCachesModel" "done" "I", Cond.fieldLink RX7 169 "BatteryCachesModel" "textLong" "I", Cond.fieldLink RX7 181 "BatteryCachesModel" "at" "I", Cond.fieldLink RX7 201 "BatteryCachesModel" "first" "I", Cond.constant RX7 22 (-1000000), Cond.constant RX7 137 (-1000004), Cond.methodLink RX7 219 yX7_readsOrder, Cond.instanceMethod yX7_readsOrder, Cond.selects RX7 yX7_readsOrder yX7_readsOrder, Cond.initialized RX7, Cond.code yX7_readsOrder cX7_readsOrder 2 (some .boolean), Cond.fieldLink RX7 19 "BatteryCachesModel" "text" "[I", Cond.fieldLink RX7 188 "BatteryCachesModel" "number" "I", Cond.fieldLink RX7 207 "BatteryCachesModel" "second" "I", Cond.methodLink RX7 194 yX7_isOrder, Cond.static yX7_isOrder, Cond.code yX7_isOrder cX7_isOrder 1 (some .boolean), Cond.methodLink RX7 197 yX7_takesNumber, Cond.instanceMethod yX7_takesNumber, Cond.selects RX7 yX7_takesNumber yX7_takesNumber, Cond.code yX7_takesNumber cX7_takesNumber 2 (some .boolean), Cond.methodLink RX7 184 yX7_isHere, Cond.instanceMethod yX7_isHere]
def wsX7_doesAll_r2 : List Cond := [Cond.selects RX7 yX7_isHere yX7_isHere, Cond.code yX7_isHere cX7_isHere 3 (some .boolean), Cond.methodLink RX7 29 yX7_in, Cond.static yX7_in, Cond.code yX7_in cX7_in 6 (some .boolean), Cond.methodLink RX7 204 yX7_takes, Cond.instanceMethod yX7_takes, Cond.selects RX7 yX7_takes yX7_takes, Cond.code yX7_takes cX7_takes 3 (some .boolean), Cond.methodLink RX7 222 yX7_notes, Cond.instanceMethod yX7_notes, Cond.selects RX7 yX7_notes yX7_notes, Cond.code yX7_notes cX7_notes 3 (some .boolean), Cond.fieldLink RX7 210 "BatteryCachesModel" "why" "I", Cond.fieldLink RX7 213 "BatteryCachesModel" "cause" "I", Cond.methodLink RX7 225 yX7_isInRange, Cond.instanceMethod yX7_isInRange, Cond.selects RX7 yX7_isInRange yX7_isInRange, Cond.code yX7_isInRange cX7_isInRange 2 (some .boolean), Cond.constantLong RX7 91 (99), Cond.constantLong RX7 74 (999), Cond.methodLink RX7 66 yX7_isPlace, Cond.static yX7_isPlace, Cond.code yX7_isPlace cX7_isPlace 1 (some .boolean)]
def wsX7_doesAll_r3 : List Cond := [Cond.constantLong RX7 27 (63), Cond.methodLink RX7 228 yX7_doOrder, Cond.instanceMethod yX7_doOrder, Cond.selects RX7 yX7_doOrder yX7_doOrder, Cond.code yX7_doOrder cX7_doOrder 1 (some .int), Cond.methodLink RX7 107 yX7_doRead, Cond.instanceMethod yX7_doRead, Cond.selects RX7 yX7_doRead yX7_doRead, Cond.code yX7_doRead cX7_doRead 2 (some .int), Cond.fieldLink RX7 7 "BatteryCachesModel" "all" "[I", Cond.constant RX7 73 (-1000001), Cond.methodLink RX7 70 yX7_touches, Cond.instanceMethod yX7_touches, Cond.selects RX7 yX7_touches yX7_touches, Cond.code yX7_touches cX7_touches 3 (some .int), Cond.methodLink RX7 60 yX7_holder, Cond.instanceMethod yX7_holder, Cond.selects RX7 yX7_holder yX7_holder, Cond.code yX7_holder cX7_holder 3 (some .int), Cond.methodLink RX7 35 yX7_counts, Cond.instanceMethod yX7_counts, Cond.selects RX7 yX7_counts yX7_counts, Cond.code yX7_counts cX7_counts 2 none, Cond.methodLink RX7 54 yX7_oldest]
def wsX7_doesAll_r4 : List Cond := [Cond.instanceMethod yX7_oldest, Cond.selects RX7 yX7_oldest yX7_oldest, Cond.code yX7_oldest cX7_oldest 4 (some .int), Cond.methodLink RX7 57 yX7_flushes, Cond.instanceMethod yX7_flushes, Cond.selects RX7 yX7_flushes yX7_flushes, Cond.code yX7_flushes cX7_flushes 2 none, Cond.methodLink RX7 39 yX7_lays, Cond.instanceMethod yX7_lays, Cond.selects RX7 yX7_lays yX7_lays, Cond.code yX7_lays cX7_lays 3 none, Cond.methodLink RX7 63 yX7_turns, Cond.instanceMethod yX7_turns, Cond.selects RX7 yX7_turns yX7_turns, Cond.code yX7_turns cX7_turns 2 none, Cond.methodLink RX7 113 yX7_doWrite, Cond.instanceMethod yX7_doWrite, Cond.selects RX7 yX7_doWrite yX7_doWrite, Cond.code yX7_doWrite cX7_doWrite 4 (some .int), Cond.methodLink RX7 47 yX7_many, Cond.instanceMethod yX7_many, Cond.selects RX7 yX7_many yX7_many, Cond.code yX7_many cX7_many 4 (some .int), Cond.methodLink RX7 50 yX7_allowance]
def wsX7_doesAll_r5 : List Cond := [Cond.instanceMethod yX7_allowance, Cond.selects RX7 yX7_allowance yX7_allowance, Cond.code yX7_allowance cX7_allowance 2 (some .int), Cond.methodLink RX7 43 yX7_setting, Cond.instanceMethod yX7_setting, Cond.selects RX7 yX7_setting yX7_setting, Cond.code yX7_setting cX7_setting 2 (some .int), Cond.methodLink RX7 120 yX7_doTick, Cond.instanceMethod yX7_doTick, Cond.selects RX7 yX7_doTick yX7_doTick, Cond.code yX7_doTick cX7_doTick 4 (some .int), Cond.methodLink RX7 93 yX7_ticksOn, Cond.instanceMethod yX7_ticksOn, Cond.selects RX7 yX7_ticksOn yX7_ticksOn, Cond.code yX7_ticksOn cX7_ticksOn 1 (some .int), Cond.methodLink RX7 85 yX7_learnsOn, Cond.instanceMethod yX7_learnsOn, Cond.selects RX7 yX7_learnsOn yX7_learnsOn, Cond.code yX7_learnsOn cX7_learnsOn 1 none, Cond.methodLink RX7 79 yX7_drains, Cond.instanceMethod yX7_drains, Cond.selects RX7 yX7_drains yX7_drains, Cond.code yX7_drains cX7_drains 2 none, Cond.methodLink RX7 82 yX7_charges]
def wsX7_doesAll_r6 : List Cond := [Cond.instanceMethod yX7_charges, Cond.selects RX7 yX7_charges yX7_charges, Cond.code yX7_charges cX7_charges 2 none, Cond.methodLink RX7 76 yX7_capacity, Cond.instanceMethod yX7_capacity, Cond.selects RX7 yX7_capacity yX7_capacity, Cond.code yX7_capacity cX7_capacity 1 (some .int), Cond.methodLink RX7 88 yX7_flushesToo, Cond.instanceMethod yX7_flushesToo, Cond.selects RX7 yX7_flushesToo yX7_flushesToo, Cond.code yX7_flushesToo cX7_flushesToo 2 (some .int), Cond.methodLink RX7 123 yX7_doLoad, Cond.instanceMethod yX7_doLoad, Cond.selects RX7 yX7_doLoad yX7_doLoad, Cond.code yX7_doLoad cX7_doLoad 2 (some .int), Cond.methodLink RX7 129 yX7_doCut, Cond.instanceMethod yX7_doCut, Cond.selects RX7 yX7_doCut yX7_doCut, Cond.code yX7_doCut cX7_doCut 3 (some .int), Cond.methodLink RX7 126 yX7_doLearn, Cond.instanceMethod yX7_doLearn, Cond.selects RX7 yX7_doLearn yX7_doLearn, Cond.code yX7_doLearn cX7_doLearn 1 (some .int), Cond.constant RX7 96 (-1000002)]
def wsX7_doesAll : List Cond := .code yX7_doesAll cX7_doesAll 2 (some .boolean) :: ((wsX7_doesAll_r1 ++ (wsX7_doesAll_r2 ++ (wsX7_doesAll_r3 ++ (wsX7_doesAll_r4 ++ (wsX7_doesAll_r5 ++ wsX7_doesAll_r6))))) ++ wsX70)
def wsX7_fault_r1 : List Cond := [Cond.constantLong RX7 231 (2), Cond.constant RX7 73 (-1000001), Cond.constant RX7 137 (-1000004), Cond.fieldLink RX7 191 "BatteryCachesModel" "from" "I", Cond.fieldLink RX7 210 "BatteryCachesModel" "why" "I", Cond.fieldLink RX7 213 "BatteryCachesModel" "cause" "I", Cond.methodLink RX7 29 yX7_in, Cond.static yX7_in, Cond.initialized RX7, Cond.code yX7_in cX7_in 6 (some .boolean), Cond.methodLink RX7 104 yX7_keep, Cond.instanceMethod yX7_keep, Cond.selects RX7 yX7_keep yX7_keep, Cond.code yX7_keep cX7_keep 2 none, Cond.fieldLink RX7 13 "BatteryCachesModel" "kept" "[I", Cond.fieldLink RX7 7 "BatteryCachesModel" "all" "[I", Cond.methodLink RX7 233 yX7_doesAll, Cond.instanceMethod yX7_doesAll, Cond.selects RX7 yX7_doesAll yX7_doesAll, Cond.code yX7_doesAll cX7_doesAll 2 (some .boolean), Cond.fieldLink RX7 216 "BatteryCachesModel" "done" "I", Cond.fieldLink RX7 169 "BatteryCachesModel" "textLong" "I", Cond.fieldLink RX7 181 "BatteryCachesModel" "at" "I", Cond.fieldLink RX7 201 "BatteryCachesModel" "first" "I"]
def wsX7_fault_r2 : List Cond := [Cond.constant RX7 22 (-1000000), Cond.methodLink RX7 219 yX7_readsOrder, Cond.instanceMethod yX7_readsOrder, Cond.selects RX7 yX7_readsOrder yX7_readsOrder, Cond.code yX7_readsOrder cX7_readsOrder 2 (some .boolean), Cond.fieldLink RX7 19 "BatteryCachesModel" "text" "[I", Cond.fieldLink RX7 188 "BatteryCachesModel" "number" "I", Cond.fieldLink RX7 207 "BatteryCachesModel" "second" "I", Cond.methodLink RX7 194 yX7_isOrder, Cond.static yX7_isOrder, Cond.code yX7_isOrder cX7_isOrder 1 (some .boolean), Cond.methodLink RX7 197 yX7_takesNumber, Cond.instanceMethod yX7_takesNumber, Cond.selects RX7 yX7_takesNumber yX7_takesNumber, Cond.code yX7_takesNumber cX7_takesNumber 2 (some .boolean), Cond.methodLink RX7 184 yX7_isHere, Cond.instanceMethod yX7_isHere, Cond.selects RX7 yX7_isHere yX7_isHere, Cond.code yX7_isHere cX7_isHere 3 (some .boolean), Cond.methodLink RX7 204 yX7_takes, Cond.instanceMethod yX7_takes, Cond.selects RX7 yX7_takes yX7_takes, Cond.code yX7_takes cX7_takes 3 (some .boolean), Cond.methodLink RX7 222 yX7_notes]
def wsX7_fault_r3 : List Cond := [Cond.instanceMethod yX7_notes, Cond.selects RX7 yX7_notes yX7_notes, Cond.code yX7_notes cX7_notes 3 (some .boolean), Cond.methodLink RX7 225 yX7_isInRange, Cond.instanceMethod yX7_isInRange, Cond.selects RX7 yX7_isInRange yX7_isInRange, Cond.code yX7_isInRange cX7_isInRange 2 (some .boolean), Cond.constantLong RX7 91 (99), Cond.constantLong RX7 74 (999), Cond.methodLink RX7 66 yX7_isPlace, Cond.static yX7_isPlace, Cond.code yX7_isPlace cX7_isPlace 1 (some .boolean), Cond.constantLong RX7 27 (63), Cond.methodLink RX7 228 yX7_doOrder, Cond.instanceMethod yX7_doOrder, Cond.selects RX7 yX7_doOrder yX7_doOrder, Cond.code yX7_doOrder cX7_doOrder 1 (some .int), Cond.methodLink RX7 107 yX7_doRead, Cond.instanceMethod yX7_doRead, Cond.selects RX7 yX7_doRead yX7_doRead, Cond.code yX7_doRead cX7_doRead 2 (some .int), Cond.methodLink RX7 70 yX7_touches, Cond.instanceMethod yX7_touches, Cond.selects RX7 yX7_touches yX7_touches]
def wsX7_fault_r4 : List Cond := [Cond.code yX7_touches cX7_touches 3 (some .int), Cond.methodLink RX7 60 yX7_holder, Cond.instanceMethod yX7_holder, Cond.selects RX7 yX7_holder yX7_holder, Cond.code yX7_holder cX7_holder 3 (some .int), Cond.methodLink RX7 35 yX7_counts, Cond.instanceMethod yX7_counts, Cond.selects RX7 yX7_counts yX7_counts, Cond.code yX7_counts cX7_counts 2 none, Cond.methodLink RX7 54 yX7_oldest, Cond.instanceMethod yX7_oldest, Cond.selects RX7 yX7_oldest yX7_oldest, Cond.code yX7_oldest cX7_oldest 4 (some .int), Cond.methodLink RX7 57 yX7_flushes, Cond.instanceMethod yX7_flushes, Cond.selects RX7 yX7_flushes yX7_flushes, Cond.code yX7_flushes cX7_flushes 2 none, Cond.methodLink RX7 39 yX7_lays, Cond.instanceMethod yX7_lays, Cond.selects RX7 yX7_lays yX7_lays, Cond.code yX7_lays cX7_lays 3 none, Cond.methodLink RX7 63 yX7_turns, Cond.instanceMethod yX7_turns, Cond.selects RX7 yX7_turns yX7_turns]
def wsX7_fault_r5 : List Cond := [Cond.code yX7_turns cX7_turns 2 none, Cond.methodLink RX7 113 yX7_doWrite, Cond.instanceMethod yX7_doWrite, Cond.selects RX7 yX7_doWrite yX7_doWrite, Cond.code yX7_doWrite cX7_doWrite 4 (some .int), Cond.methodLink RX7 47 yX7_many, Cond.instanceMethod yX7_many, Cond.selects RX7 yX7_many yX7_many, Cond.code yX7_many cX7_many 4 (some .int), Cond.methodLink RX7 50 yX7_allowance, Cond.instanceMethod yX7_allowance, Cond.selects RX7 yX7_allowance yX7_allowance, Cond.code yX7_allowance cX7_allowance 2 (some .int), Cond.methodLink RX7 43 yX7_setting, Cond.instanceMethod yX7_setting, Cond.selects RX7 yX7_setting yX7_setting, Cond.code yX7_setting cX7_setting 2 (some .int), Cond.methodLink RX7 120 yX7_doTick, Cond.instanceMethod yX7_doTick, Cond.selects RX7 yX7_doTick yX7_doTick, Cond.code yX7_doTick cX7_doTick 4 (some .int), Cond.methodLink RX7 93 yX7_ticksOn, Cond.instanceMethod yX7_ticksOn, Cond.selects RX7 yX7_ticksOn yX7_ticksOn]
def wsX7_fault_r6 : List Cond := [Cond.code yX7_ticksOn cX7_ticksOn 1 (some .int), Cond.methodLink RX7 85 yX7_learnsOn, Cond.instanceMethod yX7_learnsOn, Cond.selects RX7 yX7_learnsOn yX7_learnsOn, Cond.code yX7_learnsOn cX7_learnsOn 1 none, Cond.methodLink RX7 79 yX7_drains, Cond.instanceMethod yX7_drains, Cond.selects RX7 yX7_drains yX7_drains, Cond.code yX7_drains cX7_drains 2 none, Cond.methodLink RX7 82 yX7_charges, Cond.instanceMethod yX7_charges, Cond.selects RX7 yX7_charges yX7_charges, Cond.code yX7_charges cX7_charges 2 none, Cond.methodLink RX7 76 yX7_capacity, Cond.instanceMethod yX7_capacity, Cond.selects RX7 yX7_capacity yX7_capacity, Cond.code yX7_capacity cX7_capacity 1 (some .int), Cond.methodLink RX7 88 yX7_flushesToo, Cond.instanceMethod yX7_flushesToo, Cond.selects RX7 yX7_flushesToo yX7_flushesToo, Cond.code yX7_flushesToo cX7_flushesToo 2 (some .int), Cond.methodLink RX7 123 yX7_doLoad, Cond.instanceMethod yX7_doLoad, Cond.selects RX7 yX7_doLoad yX7_doLoad]
def wsX7_fault_r7 : List Cond := [Cond.code yX7_doLoad cX7_doLoad 2 (some .int), Cond.methodLink RX7 129 yX7_doCut, Cond.instanceMethod yX7_doCut, Cond.selects RX7 yX7_doCut yX7_doCut, Cond.code yX7_doCut cX7_doCut 3 (some .int), Cond.methodLink RX7 126 yX7_doLearn, Cond.instanceMethod yX7_doLearn, Cond.selects RX7 yX7_doLearn yX7_doLearn, Cond.code yX7_doLearn cX7_doLearn 1 (some .int), Cond.constant RX7 96 (-1000002), Cond.methodLink RX7 155 yX7_giveBack, Cond.instanceMethod yX7_giveBack, Cond.selects RX7 yX7_giveBack yX7_giveBack, Cond.code yX7_giveBack cX7_giveBack 2 none]
def wsX7_fault : List Cond := .code yX7_fault cX7_fault 3 (some .int) :: ((wsX7_fault_r1 ++ (wsX7_fault_r2 ++ (wsX7_fault_r3 ++ (wsX7_fault_r4 ++ (wsX7_fault_r5 ++ (wsX7_fault_r6 ++ wsX7_fault_r7)))))) ++ wsX70)
def wsX7_play_r1 : List Cond := [Cond.constant RX7 96 (-1000002), Cond.fieldLink RX7 216 "BatteryCachesModel" "done" "I", Cond.methodLink RX7 104 yX7_keep, Cond.instanceMethod yX7_keep, Cond.selects RX7 yX7_keep yX7_keep, Cond.initialized RX7, Cond.code yX7_keep cX7_keep 2 none, Cond.fieldLink RX7 13 "BatteryCachesModel" "kept" "[I", Cond.fieldLink RX7 7 "BatteryCachesModel" "all" "[I", Cond.methodLink RX7 233 yX7_doesAll, Cond.instanceMethod yX7_doesAll, Cond.selects RX7 yX7_doesAll yX7_doesAll, Cond.code yX7_doesAll cX7_doesAll 2 (some .boolean), Cond.fieldLink RX7 191 "BatteryCachesModel" "from" "I", Cond.fieldLink RX7 169 "BatteryCachesModel" "textLong" "I", Cond.fieldLink RX7 181 "BatteryCachesModel" "at" "I", Cond.fieldLink RX7 201 "BatteryCachesModel" "first" "I", Cond.constant RX7 22 (-1000000), Cond.constant RX7 137 (-1000004), Cond.methodLink RX7 219 yX7_readsOrder, Cond.instanceMethod yX7_readsOrder, Cond.selects RX7 yX7_readsOrder yX7_readsOrder, Cond.code yX7_readsOrder cX7_readsOrder 2 (some .boolean), Cond.fieldLink RX7 19 "BatteryCachesModel" "text" "[I"]
def wsX7_play_r2 : List Cond := [Cond.fieldLink RX7 188 "BatteryCachesModel" "number" "I", Cond.fieldLink RX7 207 "BatteryCachesModel" "second" "I", Cond.methodLink RX7 194 yX7_isOrder, Cond.static yX7_isOrder, Cond.code yX7_isOrder cX7_isOrder 1 (some .boolean), Cond.methodLink RX7 197 yX7_takesNumber, Cond.instanceMethod yX7_takesNumber, Cond.selects RX7 yX7_takesNumber yX7_takesNumber, Cond.code yX7_takesNumber cX7_takesNumber 2 (some .boolean), Cond.methodLink RX7 184 yX7_isHere, Cond.instanceMethod yX7_isHere, Cond.selects RX7 yX7_isHere yX7_isHere, Cond.code yX7_isHere cX7_isHere 3 (some .boolean), Cond.methodLink RX7 29 yX7_in, Cond.static yX7_in, Cond.code yX7_in cX7_in 6 (some .boolean), Cond.methodLink RX7 204 yX7_takes, Cond.instanceMethod yX7_takes, Cond.selects RX7 yX7_takes yX7_takes, Cond.code yX7_takes cX7_takes 3 (some .boolean), Cond.methodLink RX7 222 yX7_notes, Cond.instanceMethod yX7_notes, Cond.selects RX7 yX7_notes yX7_notes, Cond.code yX7_notes cX7_notes 3 (some .boolean)]
def wsX7_play_r3 : List Cond := [Cond.fieldLink RX7 210 "BatteryCachesModel" "why" "I", Cond.fieldLink RX7 213 "BatteryCachesModel" "cause" "I", Cond.methodLink RX7 225 yX7_isInRange, Cond.instanceMethod yX7_isInRange, Cond.selects RX7 yX7_isInRange yX7_isInRange, Cond.code yX7_isInRange cX7_isInRange 2 (some .boolean), Cond.constantLong RX7 91 (99), Cond.constantLong RX7 74 (999), Cond.methodLink RX7 66 yX7_isPlace, Cond.static yX7_isPlace, Cond.code yX7_isPlace cX7_isPlace 1 (some .boolean), Cond.constantLong RX7 27 (63), Cond.methodLink RX7 228 yX7_doOrder, Cond.instanceMethod yX7_doOrder, Cond.selects RX7 yX7_doOrder yX7_doOrder, Cond.code yX7_doOrder cX7_doOrder 1 (some .int), Cond.methodLink RX7 107 yX7_doRead, Cond.instanceMethod yX7_doRead, Cond.selects RX7 yX7_doRead yX7_doRead, Cond.code yX7_doRead cX7_doRead 2 (some .int), Cond.constant RX7 73 (-1000001), Cond.methodLink RX7 70 yX7_touches, Cond.instanceMethod yX7_touches, Cond.selects RX7 yX7_touches yX7_touches]
def wsX7_play_r4 : List Cond := [Cond.code yX7_touches cX7_touches 3 (some .int), Cond.methodLink RX7 60 yX7_holder, Cond.instanceMethod yX7_holder, Cond.selects RX7 yX7_holder yX7_holder, Cond.code yX7_holder cX7_holder 3 (some .int), Cond.methodLink RX7 35 yX7_counts, Cond.instanceMethod yX7_counts, Cond.selects RX7 yX7_counts yX7_counts, Cond.code yX7_counts cX7_counts 2 none, Cond.methodLink RX7 54 yX7_oldest, Cond.instanceMethod yX7_oldest, Cond.selects RX7 yX7_oldest yX7_oldest, Cond.code yX7_oldest cX7_oldest 4 (some .int), Cond.methodLink RX7 57 yX7_flushes, Cond.instanceMethod yX7_flushes, Cond.selects RX7 yX7_flushes yX7_flushes, Cond.code yX7_flushes cX7_flushes 2 none, Cond.methodLink RX7 39 yX7_lays, Cond.instanceMethod yX7_lays, Cond.selects RX7 yX7_lays yX7_lays, Cond.code yX7_lays cX7_lays 3 none, Cond.methodLink RX7 63 yX7_turns, Cond.instanceMethod yX7_turns, Cond.selects RX7 yX7_turns yX7_turns]
def wsX7_play_r5 : List Cond := [Cond.code yX7_turns cX7_turns 2 none, Cond.methodLink RX7 113 yX7_doWrite, Cond.instanceMethod yX7_doWrite, Cond.selects RX7 yX7_doWrite yX7_doWrite, Cond.code yX7_doWrite cX7_doWrite 4 (some .int), Cond.methodLink RX7 47 yX7_many, Cond.instanceMethod yX7_many, Cond.selects RX7 yX7_many yX7_many, Cond.code yX7_many cX7_many 4 (some .int), Cond.methodLink RX7 50 yX7_allowance, Cond.instanceMethod yX7_allowance, Cond.selects RX7 yX7_allowance yX7_allowance, Cond.code yX7_allowance cX7_allowance 2 (some .int), Cond.methodLink RX7 43 yX7_setting, Cond.instanceMethod yX7_setting, Cond.selects RX7 yX7_setting yX7_setting, Cond.code yX7_setting cX7_setting 2 (some .int), Cond.methodLink RX7 120 yX7_doTick, Cond.instanceMethod yX7_doTick, Cond.selects RX7 yX7_doTick yX7_doTick, Cond.code yX7_doTick cX7_doTick 4 (some .int), Cond.methodLink RX7 93 yX7_ticksOn, Cond.instanceMethod yX7_ticksOn, Cond.selects RX7 yX7_ticksOn yX7_ticksOn]
def wsX7_play_r6 : List Cond := [Cond.code yX7_ticksOn cX7_ticksOn 1 (some .int), Cond.methodLink RX7 85 yX7_learnsOn, Cond.instanceMethod yX7_learnsOn, Cond.selects RX7 yX7_learnsOn yX7_learnsOn, Cond.code yX7_learnsOn cX7_learnsOn 1 none, Cond.methodLink RX7 79 yX7_drains, Cond.instanceMethod yX7_drains, Cond.selects RX7 yX7_drains yX7_drains, Cond.code yX7_drains cX7_drains 2 none, Cond.methodLink RX7 82 yX7_charges, Cond.instanceMethod yX7_charges, Cond.selects RX7 yX7_charges yX7_charges, Cond.code yX7_charges cX7_charges 2 none, Cond.methodLink RX7 76 yX7_capacity, Cond.instanceMethod yX7_capacity, Cond.selects RX7 yX7_capacity yX7_capacity, Cond.code yX7_capacity cX7_capacity 1 (some .int), Cond.methodLink RX7 88 yX7_flushesToo, Cond.instanceMethod yX7_flushesToo, Cond.selects RX7 yX7_flushesToo yX7_flushesToo, Cond.code yX7_flushesToo cX7_flushesToo 2 (some .int), Cond.methodLink RX7 123 yX7_doLoad, Cond.instanceMethod yX7_doLoad, Cond.selects RX7 yX7_doLoad yX7_doLoad]
def wsX7_play_r7 : List Cond := [Cond.code yX7_doLoad cX7_doLoad 2 (some .int), Cond.methodLink RX7 129 yX7_doCut, Cond.instanceMethod yX7_doCut, Cond.selects RX7 yX7_doCut yX7_doCut, Cond.code yX7_doCut cX7_doCut 3 (some .int), Cond.methodLink RX7 126 yX7_doLearn, Cond.instanceMethod yX7_doLearn, Cond.selects RX7 yX7_doLearn yX7_doLearn, Cond.code yX7_doLearn cX7_doLearn 1 (some .int), Cond.methodLink RX7 155 yX7_giveBack, Cond.instanceMethod yX7_giveBack, Cond.selects RX7 yX7_giveBack yX7_giveBack, Cond.code yX7_giveBack cX7_giveBack 2 none, Cond.methodLink RX7 110 yX7_changed, Cond.instanceMethod yX7_changed, Cond.selects RX7 yX7_changed yX7_changed, Cond.code yX7_changed cX7_changed 3 (some .int), Cond.fieldLink RX7 23 "BatteryCachesModel" "historyLong" "I", Cond.fieldLink RX7 16 "BatteryCachesModel" "history" "[I"]
def wsX7_play : List Cond := .code yX7_play cX7_play 1 (some .int) :: ((wsX7_play_r1 ++ (wsX7_play_r2 ++ (wsX7_play_r3 ++ (wsX7_play_r4 ++ (wsX7_play_r5 ++ (wsX7_play_r6 ++ wsX7_play_r7)))))) ++ wsX70)
def wsJ9_abs_0f7a4 : List Cond := .code yJ9_abs_0f7a4 cJ9_abs_0f7a4 1 (some .int) :: ([])
def wsJ9_max_7cf53 : List Cond := .code yJ9_max_7cf53 cJ9_max_7cf53 2 (some .int) :: ([])
def wsJ9_min_7cf53 : List Cond := .code yJ9_min_7cf53 cJ9_min_7cf53 2 (some .int) :: ([])
theorem inJ6 : ∀ w ∈ wsJ60, w ∈ lw_tbl := by decide +kernel
theorem inJ9 : ∀ w ∈ wsJ90, w ∈ lw_tbl := by decide +kernel
theorem inJ10 : ∀ w ∈ wsJ100, w ∈ lw_tbl := by decide +kernel
theorem dX0_init_0 : decode cX0_init 0 = .ok (.aload_n 0, 1) := by decide +kernel
theorem dX0_init_1 : decode cX0_init 1 = .ok (.invokespecial 3, 3) := by decide +kernel
theorem dX0_init_4 : decode cX0_init 4 = .ok (.aload_n 0, 1) := by decide +kernel
theorem dX0_init_5 : decode cX0_init 5 = .ok (.sipush 1000, 3) := by decide +kernel
theorem dX0_init_8 : decode cX0_init 8 = .ok (.putfield 9, 3) := by decide +kernel
theorem dX0_init_11 : decode cX0_init 11 = .ok (.aload_n 0, 1) := by decide +kernel
theorem dX0_init_12 : decode cX0_init 12 = .ok (.iconst 0, 1) := by decide +kernel
theorem dX0_init_13 : decode cX0_init 13 = .ok (.putfield 15, 3) := by decide +kernel
theorem dX0_init_16 : decode cX0_init 16 = .ok (.aload_n 0, 1) := by decide +kernel
theorem dX0_init_17 : decode cX0_init 17 = .ok (.iconst 0, 1) := by decide +kernel
theorem dX0_init_18 : decode cX0_init 18 = .ok (.putfield 18, 3) := by decide +kernel
theorem dX0_init_21 : decode cX0_init 21 = .ok (.aload_n 0, 1) := by decide +kernel
theorem dX0_init_22 : decode cX0_init 22 = .ok (.bipush 100, 2) := by decide +kernel
theorem dX0_init_24 : decode cX0_init 24 = .ok (.putfield 21, 3) := by decide +kernel
theorem dX0_init_27 : decode cX0_init 27 = .ok (.aload_n 0, 1) := by decide +kernel
theorem dX0_init_28 : decode cX0_init 28 = .ok (.bipush 100, 2) := by decide +kernel
theorem dX0_init_30 : decode cX0_init 30 = .ok (.putfield 24, 3) := by decide +kernel
theorem dX0_init_33 : decode cX0_init 33 = .ok (.aload_n 0, 1) := by decide +kernel
theorem dX0_init_34 : decode cX0_init 34 = .ok (.bipush 20, 2) := by decide +kernel
theorem dX0_init_36 : decode cX0_init 36 = .ok (.putfield 27, 3) := by decide +kernel
theorem dX0_init_39 : decode cX0_init 39 = .ok (.aload_n 0, 1) := by decide +kernel
theorem dX0_init_40 : decode cX0_init 40 = .ok (.sipush 200, 3) := by decide +kernel
theorem dX0_init_43 : decode cX0_init 43 = .ok (.putfield 30, 3) := by decide +kernel
theorem dX0_init_46 : decode cX0_init 46 = .ok (.return_, 1) := by decide +kernel
theorem dX0_copyFrom_0 : decode cX0_copyFrom 0 = .ok (.aload_n 0, 1) := by decide +kernel
theorem dX0_copyFrom_1 : decode cX0_copyFrom 1 = .ok (.aload_n 1, 1) := by decide +kernel
theorem dX0_copyFrom_2 : decode cX0_copyFrom 2 = .ok (.getfield 9, 3) := by decide +kernel
theorem dX0_copyFrom_5 : decode cX0_copyFrom 5 = .ok (.putfield 9, 3) := by decide +kernel
theorem dX0_copyFrom_8 : decode cX0_copyFrom 8 = .ok (.aload_n 0, 1) := by decide +kernel
theorem dX0_copyFrom_9 : decode cX0_copyFrom 9 = .ok (.aload_n 1, 1) := by decide +kernel
theorem dX0_copyFrom_10 : decode cX0_copyFrom 10 = .ok (.getfield 15, 3) := by decide +kernel
theorem dX0_copyFrom_13 : decode cX0_copyFrom 13 = .ok (.putfield 15, 3) := by decide +kernel
theorem dX0_copyFrom_16 : decode cX0_copyFrom 16 = .ok (.aload_n 0, 1) := by decide +kernel
theorem dX0_copyFrom_17 : decode cX0_copyFrom 17 = .ok (.aload_n 1, 1) := by decide +kernel
theorem dX0_copyFrom_18 : decode cX0_copyFrom 18 = .ok (.getfield 18, 3) := by decide +kernel
theorem dX0_copyFrom_21 : decode cX0_copyFrom 21 = .ok (.putfield 18, 3) := by decide +kernel
theorem dX0_copyFrom_24 : decode cX0_copyFrom 24 = .ok (.aload_n 0, 1) := by decide +kernel
theorem dX0_copyFrom_25 : decode cX0_copyFrom 25 = .ok (.aload_n 1, 1) := by decide +kernel
theorem dX0_copyFrom_26 : decode cX0_copyFrom 26 = .ok (.getfield 21, 3) := by decide +kernel
theorem dX0_copyFrom_29 : decode cX0_copyFrom 29 = .ok (.putfield 21, 3) := by decide +kernel
theorem dX0_copyFrom_32 : decode cX0_copyFrom 32 = .ok (.aload_n 0, 1) := by decide +kernel
theorem dX0_copyFrom_33 : decode cX0_copyFrom 33 = .ok (.aload_n 1, 1) := by decide +kernel
theorem dX0_copyFrom_34 : decode cX0_copyFrom 34 = .ok (.getfield 24, 3) := by decide +kernel
theorem dX0_copyFrom_37 : decode cX0_copyFrom 37 = .ok (.putfield 24, 3) := by decide +kernel
theorem dX0_copyFrom_40 : decode cX0_copyFrom 40 = .ok (.aload_n 0, 1) := by decide +kernel
theorem dX0_copyFrom_41 : decode cX0_copyFrom 41 = .ok (.aload_n 1, 1) := by decide +kernel
theorem dX0_copyFrom_42 : decode cX0_copyFrom 42 = .ok (.getfield 27, 3) := by decide +kernel
theorem dX0_copyFrom_45 : decode cX0_copyFrom 45 = .ok (.putfield 27, 3) := by decide +kernel
theorem dX0_copyFrom_48 : decode cX0_copyFrom 48 = .ok (.aload_n 0, 1) := by decide +kernel
theorem dX0_copyFrom_49 : decode cX0_copyFrom 49 = .ok (.aload_n 1, 1) := by decide +kernel
theorem dX0_copyFrom_50 : decode cX0_copyFrom 50 = .ok (.getfield 30, 3) := by decide +kernel
theorem dX0_copyFrom_53 : decode cX0_copyFrom 53 = .ok (.putfield 30, 3) := by decide +kernel
theorem dX0_copyFrom_56 : decode cX0_copyFrom 56 = .ok (.return_, 1) := by decide +kernel
theorem dX0_setting_0 : decode cX0_setting 0 = .ok (.iload_n 1, 1) := by decide +kernel
theorem dX0_setting_1 : decode cX0_setting 1 = .ok (.tableswitch 42 0 2 #[27, 32, 37], 27) := by decide +kernel
theorem dX0_setting_28 : decode cX0_setting 28 = .ok (.aload_n 0, 1) := by decide +kernel
theorem dX0_setting_29 : decode cX0_setting 29 = .ok (.getfield 21, 3) := by decide +kernel
theorem dX0_setting_32 : decode cX0_setting 32 = .ok (.ireturn, 1) := by decide +kernel
theorem dX0_setting_33 : decode cX0_setting 33 = .ok (.aload_n 0, 1) := by decide +kernel
theorem dX0_setting_34 : decode cX0_setting 34 = .ok (.getfield 24, 3) := by decide +kernel
theorem dX0_setting_37 : decode cX0_setting 37 = .ok (.ireturn, 1) := by decide +kernel
theorem dX0_setting_38 : decode cX0_setting 38 = .ok (.aload_n 0, 1) := by decide +kernel
theorem dX0_setting_39 : decode cX0_setting 39 = .ok (.getfield 27, 3) := by decide +kernel
theorem dX0_setting_42 : decode cX0_setting 42 = .ok (.ireturn, 1) := by decide +kernel
theorem dX0_setting_43 : decode cX0_setting 43 = .ok (.aload_n 0, 1) := by decide +kernel
theorem dX0_setting_44 : decode cX0_setting 44 = .ok (.getfield 30, 3) := by decide +kernel
theorem dX0_setting_47 : decode cX0_setting 47 = .ok (.ireturn, 1) := by decide +kernel
theorem dX0_changeSetting_0 : decode cX0_changeSetting 0 = .ok (.iload_n 1, 1) := by decide +kernel
theorem dX0_changeSetting_1 : decode cX0_changeSetting 1 = .ok (.tableswitch 51 0 2 #[27, 35, 43], 27) := by decide +kernel
theorem dX0_changeSetting_28 : decode cX0_changeSetting 28 = .ok (.aload_n 0, 1) := by decide +kernel
theorem dX0_changeSetting_29 : decode cX0_changeSetting 29 = .ok (.iload_n 2, 1) := by decide +kernel
theorem dX0_changeSetting_30 : decode cX0_changeSetting 30 = .ok (.putfield 21, 3) := by decide +kernel
theorem dX0_changeSetting_33 : decode cX0_changeSetting 33 = .ok (.goto 24, 3) := by decide +kernel
theorem dX0_changeSetting_36 : decode cX0_changeSetting 36 = .ok (.aload_n 0, 1) := by decide +kernel
theorem dX0_changeSetting_37 : decode cX0_changeSetting 37 = .ok (.iload_n 2, 1) := by decide +kernel
theorem dX0_changeSetting_38 : decode cX0_changeSetting 38 = .ok (.putfield 24, 3) := by decide +kernel
theorem dX0_changeSetting_41 : decode cX0_changeSetting 41 = .ok (.goto 16, 3) := by decide +kernel
theorem dX0_changeSetting_44 : decode cX0_changeSetting 44 = .ok (.aload_n 0, 1) := by decide +kernel
theorem dX0_changeSetting_45 : decode cX0_changeSetting 45 = .ok (.iload_n 2, 1) := by decide +kernel
theorem dX0_changeSetting_46 : decode cX0_changeSetting 46 = .ok (.putfield 27, 3) := by decide +kernel
theorem dX0_changeSetting_49 : decode cX0_changeSetting 49 = .ok (.goto 8, 3) := by decide +kernel
theorem dX0_changeSetting_52 : decode cX0_changeSetting 52 = .ok (.aload_n 0, 1) := by decide +kernel
theorem dX0_changeSetting_53 : decode cX0_changeSetting 53 = .ok (.iload_n 2, 1) := by decide +kernel
theorem dX0_changeSetting_54 : decode cX0_changeSetting 54 = .ok (.putfield 30, 3) := by decide +kernel
theorem dX0_changeSetting_57 : decode cX0_changeSetting 57 = .ok (.return_, 1) := by decide +kernel
theorem dX0_capacity_0 : decode cX0_capacity 0 = .ok (.sipush 1000, 3) := by decide +kernel
theorem dX0_capacity_3 : decode cX0_capacity 3 = .ok (.bipush 10, 2) := by decide +kernel
theorem dX0_capacity_5 : decode cX0_capacity 5 = .ok (.aload_n 0, 1) := by decide +kernel
theorem dX0_capacity_6 : decode cX0_capacity 6 = .ok (.getfield 15, 3) := by decide +kernel
theorem dX0_capacity_9 : decode cX0_capacity 9 = .ok (.imul, 1) := by decide +kernel
theorem dX0_capacity_10 : decode cX0_capacity 10 = .ok (.isub, 1) := by decide +kernel
theorem dX0_capacity_11 : decode cX0_capacity 11 = .ok (.ireturn, 1) := by decide +kernel
set_option maxRecDepth 20000 in
theorem ggX0_allowance_X0_savable : GoodIn wsX0_allowance wsX0_savable := goodIn_r _ [6, 7, 8, 9, 10, 11, 12, 13, 14, 15, 16, 17, 18, 19, 20] (by decide +kernel) (by decide +kernel)
set_option maxRecDepth 20000 in
theorem gX0_allowance_X0_savable : GoodIn wsX0_allowance (wsV RX0 33 RX0 yX0_savable wsX0_savable) := goodIn_app (goodIn_of _ (by decide +kernel)) ggX0_allowance_X0_savable
theorem dX0_allowance_0 : decode cX0_allowance 0 = .ok (.aload_n 0, 1) := by decide +kernel
theorem dX0_allowance_1 : decode cX0_allowance 1 = .ok (.getfield 18, 3) := by decide +kernel
theorem dX0_allowance_4 : decode cX0_allowance 4 = .ok (.ifCond .ne 10, 3) := by decide +kernel
theorem dX0_allowance_7 : decode cX0_allowance 7 = .ok (.aload_n 0, 1) := by decide +kernel
theorem dX0_allowance_8 : decode cX0_allowance 8 = .ok (.invokevirtual 33, 3) := by decide +kernel
theorem dX0_allowance_11 : decode cX0_allowance 11 = .ok (.goto 4, 3) := by decide +kernel
theorem dX0_allowance_14 : decode cX0_allowance 14 = .ok (.iconst 0, 1) := by decide +kernel
theorem dX0_allowance_15 : decode cX0_allowance 15 = .ok (.ireturn, 1) := by decide +kernel
theorem dX0_savable_0 : decode cX0_savable 0 = .ok (.aload_n 0, 1) := by decide +kernel
theorem dX0_savable_1 : decode cX0_savable 1 = .ok (.getfield 9, 3) := by decide +kernel
theorem dX0_savable_4 : decode cX0_savable 4 = .ok (.aload_n 0, 1) := by decide +kernel
theorem dX0_savable_5 : decode cX0_savable 5 = .ok (.getfield 24, 3) := by decide +kernel
theorem dX0_savable_8 : decode cX0_savable 8 = .ok (.if_icmp .lt 11, 3) := by decide +kernel
theorem dX0_savable_11 : decode cX0_savable 11 = .ok (.aload_n 0, 1) := by decide +kernel
theorem dX0_savable_12 : decode cX0_savable 12 = .ok (.getfield 21, 3) := by decide +kernel
theorem dX0_savable_15 : decode cX0_savable 15 = .ok (.iconst 1, 1) := by decide +kernel
theorem dX0_savable_16 : decode cX0_savable 16 = .ok (.if_icmp .ge 5, 3) := by decide +kernel
theorem dX0_savable_19 : decode cX0_savable 19 = .ok (.iconst 0, 1) := by decide +kernel
theorem dX0_savable_20 : decode cX0_savable 20 = .ok (.ireturn, 1) := by decide +kernel
theorem dX0_savable_21 : decode cX0_savable 21 = .ok (.aload_n 0, 1) := by decide +kernel
theorem dX0_savable_22 : decode cX0_savable 22 = .ok (.getfield 9, 3) := by decide +kernel
theorem dX0_savable_25 : decode cX0_savable 25 = .ok (.aload_n 0, 1) := by decide +kernel
theorem dX0_savable_26 : decode cX0_savable 26 = .ok (.getfield 24, 3) := by decide +kernel
theorem dX0_savable_29 : decode cX0_savable 29 = .ok (.isub, 1) := by decide +kernel
theorem dX0_savable_30 : decode cX0_savable 30 = .ok (.aload_n 0, 1) := by decide +kernel
theorem dX0_savable_31 : decode cX0_savable 31 = .ok (.getfield 21, 3) := by decide +kernel
theorem dX0_savable_34 : decode cX0_savable 34 = .ok (.idiv, 1) := by decide +kernel
theorem dX0_savable_35 : decode cX0_savable 35 = .ok (.bipush 8, 2) := by decide +kernel
theorem dX0_savable_37 : decode cX0_savable 37 = .ok (.invokestatic 37, 3) := by decide +kernel
theorem dX0_savable_40 : decode cX0_savable 40 = .ok (.ireturn, 1) := by decide +kernel
theorem dX0_costToSave_0 : decode cX0_costToSave 0 = .ok (.aload_n 0, 1) := by decide +kernel
theorem dX0_costToSave_1 : decode cX0_costToSave 1 = .ok (.getfield 24, 3) := by decide +kernel
theorem dX0_costToSave_4 : decode cX0_costToSave 4 = .ok (.iload_n 1, 1) := by decide +kernel
theorem dX0_costToSave_5 : decode cX0_costToSave 5 = .ok (.aload_n 0, 1) := by decide +kernel
theorem dX0_costToSave_6 : decode cX0_costToSave 6 = .ok (.getfield 21, 3) := by decide +kernel
theorem dX0_costToSave_9 : decode cX0_costToSave 9 = .ok (.imul, 1) := by decide +kernel
theorem dX0_costToSave_10 : decode cX0_costToSave 10 = .ok (.iadd, 1) := by decide +kernel
theorem dX0_costToSave_11 : decode cX0_costToSave 11 = .ok (.ireturn, 1) := by decide +kernel
theorem dX0_useUp_0 : decode cX0_useUp 0 = .ok (.aload_n 0, 1) := by decide +kernel
theorem dX0_useUp_1 : decode cX0_useUp 1 = .ok (.aload_n 0, 1) := by decide +kernel
theorem dX0_useUp_2 : decode cX0_useUp 2 = .ok (.getfield 9, 3) := by decide +kernel
theorem dX0_useUp_5 : decode cX0_useUp 5 = .ok (.iload_n 1, 1) := by decide +kernel
theorem dX0_useUp_6 : decode cX0_useUp 6 = .ok (.isub, 1) := by decide +kernel
theorem dX0_useUp_7 : decode cX0_useUp 7 = .ok (.iconst 0, 1) := by decide +kernel
theorem dX0_useUp_8 : decode cX0_useUp 8 = .ok (.invokestatic 43, 3) := by decide +kernel
theorem dX0_useUp_11 : decode cX0_useUp 11 = .ok (.putfield 9, 3) := by decide +kernel
theorem dX0_useUp_14 : decode cX0_useUp 14 = .ok (.return_, 1) := by decide +kernel
set_option maxRecDepth 20000 in
theorem ggX0_saveAtCut_X0_costToSave : GoodIn wsX0_saveAtCut wsX0_costToSave := goodIn_r _ [6, 7, 8, 18, 19, 20, 21, 22, 23, 24] (by decide +kernel) (by decide +kernel)
set_option maxRecDepth 20000 in
theorem gX0_saveAtCut_X0_costToSave : GoodIn wsX0_saveAtCut (wsV RX0 46 RX0 yX0_costToSave wsX0_costToSave) := goodIn_app (goodIn_of _ (by decide +kernel)) ggX0_saveAtCut_X0_costToSave
set_option maxRecDepth 20000 in
theorem ggX0_saveAtCut_X0_useUp : GoodIn wsX0_saveAtCut wsX0_useUp := goodIn_r _ [12, 13, 14, 15, 16, 17, 18, 19, 20, 21, 22, 23, 24] (by decide +kernel) (by decide +kernel)
set_option maxRecDepth 20000 in
theorem gX0_saveAtCut_X0_useUp : GoodIn wsX0_saveAtCut (wsV RX0 50 RX0 yX0_useUp wsX0_useUp) := goodIn_app (goodIn_of _ (by decide +kernel)) ggX0_saveAtCut_X0_useUp
theorem dX0_saveAtCut_0 : decode cX0_saveAtCut 0 = .ok (.aload_n 0, 1) := by decide +kernel
theorem dX0_saveAtCut_1 : decode cX0_saveAtCut 1 = .ok (.aload_n 0, 1) := by decide +kernel
theorem dX0_saveAtCut_2 : decode cX0_saveAtCut 2 = .ok (.iload_n 1, 1) := by decide +kernel
theorem dX0_saveAtCut_3 : decode cX0_saveAtCut 3 = .ok (.invokevirtual 46, 3) := by decide +kernel
theorem dX0_saveAtCut_6 : decode cX0_saveAtCut 6 = .ok (.invokevirtual 50, 3) := by decide +kernel
theorem dX0_saveAtCut_9 : decode cX0_saveAtCut 9 = .ok (.aload_n 0, 1) := by decide +kernel
theorem dX0_saveAtCut_10 : decode cX0_saveAtCut 10 = .ok (.iconst 0, 1) := by decide +kernel
theorem dX0_saveAtCut_11 : decode cX0_saveAtCut 11 = .ok (.putfield 18, 3) := by decide +kernel
theorem dX0_saveAtCut_14 : decode cX0_saveAtCut 14 = .ok (.return_, 1) := by decide +kernel
set_option maxRecDepth 20000 in
theorem ggX0_passTick_X0_fallInCycle : GoodIn wsX0_passTick wsX0_fallInCycle := goodIn_r _ [12, 13, 2, 14, 4, 5, 6, 7, 1, 15, 16, 17, 11, 18, 19, 20, 21, 26, 27, 28, 29, 30, 31, 32] (by decide +kernel) (by decide +kernel)
set_option maxRecDepth 20000 in
theorem gX0_passTick_X0_fallInCycle : GoodIn wsX0_passTick (wsV RX0 54 RX0 yX0_fallInCycle wsX0_fallInCycle) := goodIn_app (goodIn_of _ (by decide +kernel)) ggX0_passTick_X0_fallInCycle
set_option maxRecDepth 20000 in
theorem ggX0_passTick_X0_capacity : GoodIn wsX0_passTick wsX0_capacity := goodIn_r _ [25, 14, 26, 27, 28, 29, 30, 31, 32] (by decide +kernel) (by decide +kernel)
set_option maxRecDepth 20000 in
theorem gX0_passTick_X0_capacity : GoodIn wsX0_passTick (wsV RX0 57 RX0 yX0_capacity wsX0_capacity) := goodIn_app (goodIn_of _ (by decide +kernel)) ggX0_passTick_X0_capacity
theorem dX0_passTick_0 : decode cX0_passTick 0 = .ok (.aload_n 0, 1) := by decide +kernel
theorem dX0_passTick_1 : decode cX0_passTick 1 = .ok (.getfield 18, 3) := by decide +kernel
theorem dX0_passTick_4 : decode cX0_passTick 4 = .ok (.iconst 1, 1) := by decide +kernel
theorem dX0_passTick_5 : decode cX0_passTick 5 = .ok (.if_icmp .ne 9, 3) := by decide +kernel
theorem dX0_passTick_8 : decode cX0_passTick 8 = .ok (.aload_n 0, 1) := by decide +kernel
theorem dX0_passTick_9 : decode cX0_passTick 9 = .ok (.invokevirtual 54, 3) := by decide +kernel
theorem dX0_passTick_12 : decode cX0_passTick 12 = .ok (.iconst 0, 1) := by decide +kernel
theorem dX0_passTick_13 : decode cX0_passTick 13 = .ok (.ireturn, 1) := by decide +kernel
theorem dX0_passTick_14 : decode cX0_passTick 14 = .ok (.aload_n 0, 1) := by decide +kernel
theorem dX0_passTick_15 : decode cX0_passTick 15 = .ok (.aload_n 0, 1) := by decide +kernel
theorem dX0_passTick_16 : decode cX0_passTick 16 = .ok (.getfield 9, 3) := by decide +kernel
theorem dX0_passTick_19 : decode cX0_passTick 19 = .ok (.aload_n 0, 1) := by decide +kernel
theorem dX0_passTick_20 : decode cX0_passTick 20 = .ok (.getfield 27, 3) := by decide +kernel
theorem dX0_passTick_23 : decode cX0_passTick 23 = .ok (.iadd, 1) := by decide +kernel
theorem dX0_passTick_24 : decode cX0_passTick 24 = .ok (.aload_n 0, 1) := by decide +kernel
theorem dX0_passTick_25 : decode cX0_passTick 25 = .ok (.invokevirtual 57, 3) := by decide +kernel
theorem dX0_passTick_28 : decode cX0_passTick 28 = .ok (.invokestatic 37, 3) := by decide +kernel
theorem dX0_passTick_31 : decode cX0_passTick 31 = .ok (.putfield 9, 3) := by decide +kernel
theorem dX0_passTick_34 : decode cX0_passTick 34 = .ok (.aload_n 0, 1) := by decide +kernel
theorem dX0_passTick_35 : decode cX0_passTick 35 = .ok (.getfield 18, 3) := by decide +kernel
theorem dX0_passTick_38 : decode cX0_passTick 38 = .ok (.iconst 2, 1) := by decide +kernel
theorem dX0_passTick_39 : decode cX0_passTick 39 = .ok (.if_icmp .ne 21, 3) := by decide +kernel
theorem dX0_passTick_42 : decode cX0_passTick 42 = .ok (.aload_n 0, 1) := by decide +kernel
theorem dX0_passTick_43 : decode cX0_passTick 43 = .ok (.getfield 9, 3) := by decide +kernel
theorem dX0_passTick_46 : decode cX0_passTick 46 = .ok (.aload_n 0, 1) := by decide +kernel
theorem dX0_passTick_47 : decode cX0_passTick 47 = .ok (.invokevirtual 57, 3) := by decide +kernel
theorem dX0_passTick_50 : decode cX0_passTick 50 = .ok (.if_icmp .ne 10, 3) := by decide +kernel
theorem dX0_passTick_53 : decode cX0_passTick 53 = .ok (.aload_n 0, 1) := by decide +kernel
theorem dX0_passTick_54 : decode cX0_passTick 54 = .ok (.iconst 0, 1) := by decide +kernel
theorem dX0_passTick_55 : decode cX0_passTick 55 = .ok (.putfield 18, 3) := by decide +kernel
theorem dX0_passTick_58 : decode cX0_passTick 58 = .ok (.iconst 1, 1) := by decide +kernel
theorem dX0_passTick_59 : decode cX0_passTick 59 = .ok (.ireturn, 1) := by decide +kernel
theorem dX0_passTick_60 : decode cX0_passTick 60 = .ok (.iconst 0, 1) := by decide +kernel
theorem dX0_passTick_61 : decode cX0_passTick 61 = .ok (.ireturn, 1) := by decide +kernel
set_option maxRecDepth 20000 in
theorem ggX0_fallInCycle_X0_useUp : GoodIn wsX0_fallInCycle wsX0_useUp := goodIn_r _ [13, 2, 14, 15, 6, 16, 17, 18, 19, 20, 21, 22, 23] (by decide +kernel) (by decide +kernel)
set_option maxRecDepth 20000 in
theorem gX0_fallInCycle_X0_useUp : GoodIn wsX0_fallInCycle (wsV RX0 50 RX0 yX0_useUp wsX0_useUp) := goodIn_app (goodIn_of _ (by decide +kernel)) ggX0_fallInCycle_X0_useUp
theorem dX0_fallInCycle_0 : decode cX0_fallInCycle 0 = .ok (.aload_n 0, 1) := by decide +kernel
theorem dX0_fallInCycle_1 : decode cX0_fallInCycle 1 = .ok (.aload_n 0, 1) := by decide +kernel
theorem dX0_fallInCycle_2 : decode cX0_fallInCycle 2 = .ok (.getfield 30, 3) := by decide +kernel
theorem dX0_fallInCycle_5 : decode cX0_fallInCycle 5 = .ok (.invokevirtual 50, 3) := by decide +kernel
theorem dX0_fallInCycle_8 : decode cX0_fallInCycle 8 = .ok (.aload_n 0, 1) := by decide +kernel
theorem dX0_fallInCycle_9 : decode cX0_fallInCycle 9 = .ok (.getfield 9, 3) := by decide +kernel
theorem dX0_fallInCycle_12 : decode cX0_fallInCycle 12 = .ok (.ifCond .ne 23, 3) := by decide +kernel
theorem dX0_fallInCycle_15 : decode cX0_fallInCycle 15 = .ok (.aload_n 0, 1) := by decide +kernel
theorem dX0_fallInCycle_16 : decode cX0_fallInCycle 16 = .ok (.aload_n 0, 1) := by decide +kernel
theorem dX0_fallInCycle_17 : decode cX0_fallInCycle 17 = .ok (.getfield 15, 3) := by decide +kernel
theorem dX0_fallInCycle_20 : decode cX0_fallInCycle 20 = .ok (.iconst 1, 1) := by decide +kernel
theorem dX0_fallInCycle_21 : decode cX0_fallInCycle 21 = .ok (.iadd, 1) := by decide +kernel
theorem dX0_fallInCycle_22 : decode cX0_fallInCycle 22 = .ok (.bipush 90, 2) := by decide +kernel
theorem dX0_fallInCycle_24 : decode cX0_fallInCycle 24 = .ok (.invokestatic 37, 3) := by decide +kernel
theorem dX0_fallInCycle_27 : decode cX0_fallInCycle 27 = .ok (.putfield 15, 3) := by decide +kernel
theorem dX0_fallInCycle_30 : decode cX0_fallInCycle 30 = .ok (.aload_n 0, 1) := by decide +kernel
theorem dX0_fallInCycle_31 : decode cX0_fallInCycle 31 = .ok (.iconst 2, 1) := by decide +kernel
theorem dX0_fallInCycle_32 : decode cX0_fallInCycle 32 = .ok (.putfield 18, 3) := by decide +kernel
theorem dX0_fallInCycle_35 : decode cX0_fallInCycle 35 = .ok (.return_, 1) := by decide +kernel
set_option maxRecDepth 20000 in
theorem ggX1_init_X4_init : GoodIn wsX1_init wsX4_init := goodIn_r _ [10, 11, 2, 3, 12, 13, 14, 15, 16, 17, 18, 19, 20, 21, 22, 23, 24, 25, 26, 27, 28, 29, 30, 31, 32, 33, 34, 35, 36, 37, 38, 39, 40, 41, 42, 62, 63, 64, 65, 66, 67, 68, 45, 46, 47, 48, 49, 50, 51, 52, 53, 54, 55, 56, 57, 58, 59, 60, 61] (by decide +kernel) (by decide +kernel)
set_option maxRecDepth 20000 in
theorem gX1_init_X4_init_n21 : GoodIn wsX1_init (wsX4_init) := ggX1_init_X4_init
theorem dX1_init_0 : decode cX1_init 0 = .ok (.aload_n 0, 1) := by decide +kernel
theorem dX1_init_1 : decode cX1_init 1 = .ok (.invokespecial 3, 3) := by decide +kernel
theorem dX1_init_4 : decode cX1_init 4 = .ok (.aload_n 0, 1) := by decide +kernel
theorem dX1_init_5 : decode cX1_init 5 = .ok (.iconst 4, 1) := by decide +kernel
theorem dX1_init_6 : decode cX1_init 6 = .ok (.anewarray 9, 3) := by decide +kernel
theorem dX1_init_9 : decode cX1_init 9 = .ok (.putfield 11, 3) := by decide +kernel
theorem dX1_init_12 : decode cX1_init 12 = .ok (.aload_n 0, 1) := by decide +kernel
theorem dX1_init_13 : decode cX1_init 13 = .ok (.iconst 0, 1) := by decide +kernel
theorem dX1_init_14 : decode cX1_init 14 = .ok (.putfield 17, 3) := by decide +kernel
theorem dX1_init_17 : decode cX1_init 17 = .ok (.iconst 0, 1) := by decide +kernel
theorem dX1_init_18 : decode cX1_init 18 = .ok (.istore_n 1, 1) := by decide +kernel
theorem dX1_init_19 : decode cX1_init 19 = .ok (.iload_n 1, 1) := by decide +kernel
theorem dX1_init_20 : decode cX1_init 20 = .ok (.iconst 4, 1) := by decide +kernel
theorem dX1_init_21 : decode cX1_init 21 = .ok (.if_icmp .ge 22, 3) := by decide +kernel
theorem dX1_init_24 : decode cX1_init 24 = .ok (.aload_n 0, 1) := by decide +kernel
theorem dX1_init_25 : decode cX1_init 25 = .ok (.getfield 11, 3) := by decide +kernel
theorem dX1_init_28 : decode cX1_init 28 = .ok (.iload_n 1, 1) := by decide +kernel
theorem dX1_init_29 : decode cX1_init 29 = .ok (.new 9, 3) := by decide +kernel
theorem dX1_init_32 : decode cX1_init 32 = .ok (.dup, 1) := by decide +kernel
theorem dX1_init_33 : decode cX1_init 33 = .ok (.invokespecial 21, 3) := by decide +kernel
theorem dX1_init_36 : decode cX1_init 36 = .ok (.aastore, 1) := by decide +kernel
theorem dX1_init_37 : decode cX1_init 37 = .ok (.iinc 1 1, 3) := by decide +kernel
theorem dX1_init_40 : decode cX1_init 40 = .ok (.goto (-21), 3) := by decide +kernel
theorem dX1_init_43 : decode cX1_init 43 = .ok (.return_, 1) := by decide +kernel
set_option maxRecDepth 20000 in
theorem ggX1_keep_X1_dropOldest : GoodIn wsX1_keep wsX1_dropOldest := goodIn_r _ [7, 2, 1, 54, 55] (by decide +kernel) (by decide +kernel)
set_option maxRecDepth 20000 in
theorem gX1_keep_X1_dropOldest : GoodIn wsX1_keep (wsV RX1 22 RX1 yX1_dropOldest wsX1_dropOldest) := goodIn_app (goodIn_of _ (by decide +kernel)) ggX1_keep_X1_dropOldest
set_option maxRecDepth 20000 in
theorem ggX1_keep_X6_isWithin : GoodIn wsX1_keep wsX6_isWithin := goodIn_r _ [10] (by decide +kernel) (by decide +kernel)
set_option maxRecDepth 20000 in
theorem gX1_keep_X6_isWithin_n25 : GoodIn wsX1_keep (wsX6_isWithin) := ggX1_keep_X6_isWithin
set_option maxRecDepth 20000 in
theorem ggX1_keep_X4_copy : GoodIn wsX1_keep wsX4_copy := goodIn_r _ [14, 15, 16, 17, 18, 19, 20, 21, 22, 23, 24, 25, 26, 27, 28, 29, 30, 31, 32, 33, 34, 35, 36, 37, 38, 39, 40, 41, 42, 43, 44, 9, 45, 46, 47, 48, 49, 50, 51, 52, 53, 56, 57, 58, 59, 60, 61, 62, 63, 64, 65, 66, 67, 68, 69, 70, 71, 72, 73, 74, 75, 76, 77, 78, 79] (by decide +kernel) (by decide +kernel)
set_option maxRecDepth 20000 in
theorem gX1_keep_X4_copy : GoodIn wsX1_keep (va_wsS RX1 29 yX4_copy wsX4_copy) := goodIn_app (goodIn_of _ (by decide +kernel)) ggX1_keep_X4_copy
theorem dX1_keep_0 : decode cX1_keep 0 = .ok (.aload_n 0, 1) := by decide +kernel
theorem dX1_keep_1 : decode cX1_keep 1 = .ok (.getfield 17, 3) := by decide +kernel
theorem dX1_keep_4 : decode cX1_keep 4 = .ok (.iconst 4, 1) := by decide +kernel
theorem dX1_keep_5 : decode cX1_keep 5 = .ok (.if_icmp .lt 7, 3) := by decide +kernel
theorem dX1_keep_8 : decode cX1_keep 8 = .ok (.aload_n 0, 1) := by decide +kernel
theorem dX1_keep_9 : decode cX1_keep 9 = .ok (.invokevirtual 22, 3) := by decide +kernel
theorem dX1_keep_12 : decode cX1_keep 12 = .ok (.aload_n 0, 1) := by decide +kernel
theorem dX1_keep_13 : decode cX1_keep 13 = .ok (.getfield 17, 3) := by decide +kernel
theorem dX1_keep_16 : decode cX1_keep 16 = .ok (.iconst 0, 1) := by decide +kernel
theorem dX1_keep_17 : decode cX1_keep 17 = .ok (.iconst 3, 1) := by decide +kernel
theorem dX1_keep_18 : decode cX1_keep 18 = .ok (.invokestatic 25, 3) := by decide +kernel
theorem dX1_keep_21 : decode cX1_keep 21 = .ok (.ifCond .eq 26, 3) := by decide +kernel
theorem dX1_keep_24 : decode cX1_keep 24 = .ok (.aload_n 1, 1) := by decide +kernel
theorem dX1_keep_25 : decode cX1_keep 25 = .ok (.aload_n 0, 1) := by decide +kernel
theorem dX1_keep_26 : decode cX1_keep 26 = .ok (.getfield 11, 3) := by decide +kernel
theorem dX1_keep_29 : decode cX1_keep 29 = .ok (.aload_n 0, 1) := by decide +kernel
theorem dX1_keep_30 : decode cX1_keep 30 = .ok (.getfield 17, 3) := by decide +kernel
theorem dX1_keep_33 : decode cX1_keep 33 = .ok (.aaload, 1) := by decide +kernel
theorem dX1_keep_34 : decode cX1_keep 34 = .ok (.invokestatic 29, 3) := by decide +kernel
theorem dX1_keep_37 : decode cX1_keep 37 = .ok (.aload_n 0, 1) := by decide +kernel
theorem dX1_keep_38 : decode cX1_keep 38 = .ok (.dup, 1) := by decide +kernel
theorem dX1_keep_39 : decode cX1_keep 39 = .ok (.getfield 17, 3) := by decide +kernel
theorem dX1_keep_42 : decode cX1_keep 42 = .ok (.iconst 1, 1) := by decide +kernel
theorem dX1_keep_43 : decode cX1_keep 43 = .ok (.iadd, 1) := by decide +kernel
theorem dX1_keep_44 : decode cX1_keep 44 = .ok (.putfield 17, 3) := by decide +kernel
theorem dX1_keep_47 : decode cX1_keep 47 = .ok (.return_, 1) := by decide +kernel
set_option maxRecDepth 20000 in
theorem ggX1_restore_X6_isWithin : GoodIn wsX1_restore wsX6_isWithin := goodIn_r _ [5] (by decide +kernel) (by decide +kernel)
set_option maxRecDepth 20000 in
theorem gX1_restore_X6_isWithin_n25 : GoodIn wsX1_restore (wsX6_isWithin) := ggX1_restore_X6_isWithin
set_option maxRecDepth 20000 in
theorem ggX1_restore_X4_copy : GoodIn wsX1_restore wsX4_copy := goodIn_r _ [9, 10, 11, 12, 13, 14, 15, 16, 17, 18, 19, 20, 21, 22, 23, 24, 25, 26, 27, 28, 29, 30, 31, 32, 33, 34, 35, 36, 37, 38, 39, 4, 40, 41, 42, 43, 44, 45, 46, 47, 48, 51, 52, 53, 54, 55, 56, 57, 58, 59, 60, 61, 62, 63, 64, 65, 66, 67, 68, 69, 70, 71, 72, 73, 74] (by decide +kernel) (by decide +kernel)
set_option maxRecDepth 20000 in
theorem gX1_restore_X4_copy : GoodIn wsX1_restore (va_wsS RX1 29 yX4_copy wsX4_copy) := goodIn_app (goodIn_of _ (by decide +kernel)) ggX1_restore_X4_copy
theorem dX1_restore_0 : decode cX1_restore 0 = .ok (.aload_n 0, 1) := by decide +kernel
theorem dX1_restore_1 : decode cX1_restore 1 = .ok (.getfield 17, 3) := by decide +kernel
theorem dX1_restore_4 : decode cX1_restore 4 = .ok (.iconst 1, 1) := by decide +kernel
theorem dX1_restore_5 : decode cX1_restore 5 = .ok (.iconst 4, 1) := by decide +kernel
theorem dX1_restore_6 : decode cX1_restore 6 = .ok (.invokestatic 25, 3) := by decide +kernel
theorem dX1_restore_9 : decode cX1_restore 9 = .ok (.ifCond .eq 26, 3) := by decide +kernel
theorem dX1_restore_12 : decode cX1_restore 12 = .ok (.aload_n 0, 1) := by decide +kernel
theorem dX1_restore_13 : decode cX1_restore 13 = .ok (.dup, 1) := by decide +kernel
theorem dX1_restore_14 : decode cX1_restore 14 = .ok (.getfield 17, 3) := by decide +kernel
theorem dX1_restore_17 : decode cX1_restore 17 = .ok (.iconst 1, 1) := by decide +kernel
theorem dX1_restore_18 : decode cX1_restore 18 = .ok (.isub, 1) := by decide +kernel
theorem dX1_restore_19 : decode cX1_restore 19 = .ok (.putfield 17, 3) := by decide +kernel
theorem dX1_restore_22 : decode cX1_restore 22 = .ok (.aload_n 0, 1) := by decide +kernel
theorem dX1_restore_23 : decode cX1_restore 23 = .ok (.getfield 11, 3) := by decide +kernel
theorem dX1_restore_26 : decode cX1_restore 26 = .ok (.aload_n 0, 1) := by decide +kernel
theorem dX1_restore_27 : decode cX1_restore 27 = .ok (.getfield 17, 3) := by decide +kernel
theorem dX1_restore_30 : decode cX1_restore 30 = .ok (.aaload, 1) := by decide +kernel
theorem dX1_restore_31 : decode cX1_restore 31 = .ok (.aload_n 1, 1) := by decide +kernel
theorem dX1_restore_32 : decode cX1_restore 32 = .ok (.invokestatic 29, 3) := by decide +kernel
theorem dX1_restore_35 : decode cX1_restore 35 = .ok (.return_, 1) := by decide +kernel
theorem dX1_dropOldest_0 : decode cX1_dropOldest 0 = .ok (.aload_n 0, 1) := by decide +kernel
theorem dX1_dropOldest_1 : decode cX1_dropOldest 1 = .ok (.getfield 11, 3) := by decide +kernel
theorem dX1_dropOldest_4 : decode cX1_dropOldest 4 = .ok (.iconst 0, 1) := by decide +kernel
theorem dX1_dropOldest_5 : decode cX1_dropOldest 5 = .ok (.aaload, 1) := by decide +kernel
theorem dX1_dropOldest_6 : decode cX1_dropOldest 6 = .ok (.astore_n 1, 1) := by decide +kernel
theorem dX1_dropOldest_7 : decode cX1_dropOldest 7 = .ok (.iconst 1, 1) := by decide +kernel
theorem dX1_dropOldest_8 : decode cX1_dropOldest 8 = .ok (.istore_n 2, 1) := by decide +kernel
theorem dX1_dropOldest_9 : decode cX1_dropOldest 9 = .ok (.iload_n 2, 1) := by decide +kernel
theorem dX1_dropOldest_10 : decode cX1_dropOldest 10 = .ok (.iconst 4, 1) := by decide +kernel
theorem dX1_dropOldest_11 : decode cX1_dropOldest 11 = .ok (.if_icmp .ge 23, 3) := by decide +kernel
theorem dX1_dropOldest_14 : decode cX1_dropOldest 14 = .ok (.aload_n 0, 1) := by decide +kernel
theorem dX1_dropOldest_15 : decode cX1_dropOldest 15 = .ok (.getfield 11, 3) := by decide +kernel
theorem dX1_dropOldest_18 : decode cX1_dropOldest 18 = .ok (.iload_n 2, 1) := by decide +kernel
theorem dX1_dropOldest_19 : decode cX1_dropOldest 19 = .ok (.iconst 1, 1) := by decide +kernel
theorem dX1_dropOldest_20 : decode cX1_dropOldest 20 = .ok (.isub, 1) := by decide +kernel
theorem dX1_dropOldest_21 : decode cX1_dropOldest 21 = .ok (.aload_n 0, 1) := by decide +kernel
theorem dX1_dropOldest_22 : decode cX1_dropOldest 22 = .ok (.getfield 11, 3) := by decide +kernel
theorem dX1_dropOldest_25 : decode cX1_dropOldest 25 = .ok (.iload_n 2, 1) := by decide +kernel
theorem dX1_dropOldest_26 : decode cX1_dropOldest 26 = .ok (.aaload, 1) := by decide +kernel
theorem dX1_dropOldest_27 : decode cX1_dropOldest 27 = .ok (.aastore, 1) := by decide +kernel
theorem dX1_dropOldest_28 : decode cX1_dropOldest 28 = .ok (.iinc 2 1, 3) := by decide +kernel
theorem dX1_dropOldest_31 : decode cX1_dropOldest 31 = .ok (.goto (-22), 3) := by decide +kernel
theorem dX1_dropOldest_34 : decode cX1_dropOldest 34 = .ok (.aload_n 0, 1) := by decide +kernel
theorem dX1_dropOldest_35 : decode cX1_dropOldest 35 = .ok (.getfield 11, 3) := by decide +kernel
theorem dX1_dropOldest_38 : decode cX1_dropOldest 38 = .ok (.iconst 3, 1) := by decide +kernel
theorem dX1_dropOldest_39 : decode cX1_dropOldest 39 = .ok (.aload_n 1, 1) := by decide +kernel
theorem dX1_dropOldest_40 : decode cX1_dropOldest 40 = .ok (.aastore, 1) := by decide +kernel
theorem dX1_dropOldest_41 : decode cX1_dropOldest 41 = .ok (.aload_n 0, 1) := by decide +kernel
theorem dX1_dropOldest_42 : decode cX1_dropOldest 42 = .ok (.iconst 3, 1) := by decide +kernel
theorem dX1_dropOldest_43 : decode cX1_dropOldest 43 = .ok (.putfield 17, 3) := by decide +kernel
theorem dX1_dropOldest_46 : decode cX1_dropOldest 46 = .ok (.return_, 1) := by decide +kernel
theorem dX2_init_0 : decode cX2_init 0 = .ok (.aload_n 0, 1) := by decide +kernel
theorem dX2_init_1 : decode cX2_init 1 = .ok (.invokespecial 3, 3) := by decide +kernel
theorem dX2_init_4 : decode cX2_init 4 = .ok (.aload_n 0, 1) := by decide +kernel
theorem dX2_init_5 : decode cX2_init 5 = .ok (.iconst 0, 1) := by decide +kernel
theorem dX2_init_6 : decode cX2_init 6 = .ok (.putfield 9, 3) := by decide +kernel
theorem dX2_init_9 : decode cX2_init 9 = .ok (.aload_n 0, 1) := by decide +kernel
theorem dX2_init_10 : decode cX2_init 10 = .ok (.iconst 0, 1) := by decide +kernel
theorem dX2_init_11 : decode cX2_init 11 = .ok (.putfield 15, 3) := by decide +kernel
theorem dX2_init_14 : decode cX2_init 14 = .ok (.aload_n 0, 1) := by decide +kernel
theorem dX2_init_15 : decode cX2_init 15 = .ok (.iconst (-1), 1) := by decide +kernel
theorem dX2_init_16 : decode cX2_init 16 = .ok (.putfield 18, 3) := by decide +kernel
theorem dX2_init_19 : decode cX2_init 19 = .ok (.aload_n 0, 1) := by decide +kernel
theorem dX2_init_20 : decode cX2_init 20 = .ok (.iconst 0, 1) := by decide +kernel
theorem dX2_init_21 : decode cX2_init 21 = .ok (.putfield 21, 3) := by decide +kernel
theorem dX2_init_24 : decode cX2_init 24 = .ok (.aload_n 0, 1) := by decide +kernel
theorem dX2_init_25 : decode cX2_init 25 = .ok (.iconst 0, 1) := by decide +kernel
theorem dX2_init_26 : decode cX2_init 26 = .ok (.putfield 24, 3) := by decide +kernel
theorem dX2_init_29 : decode cX2_init 29 = .ok (.aload_n 0, 1) := by decide +kernel
theorem dX2_init_30 : decode cX2_init 30 = .ok (.iconst 0, 1) := by decide +kernel
theorem dX2_init_31 : decode cX2_init 31 = .ok (.putfield 27, 3) := by decide +kernel
theorem dX2_init_34 : decode cX2_init 34 = .ok (.aload_n 0, 1) := by decide +kernel
theorem dX2_init_35 : decode cX2_init 35 = .ok (.iconst 0, 1) := by decide +kernel
theorem dX2_init_36 : decode cX2_init 36 = .ok (.putfield 30, 3) := by decide +kernel
theorem dX2_init_39 : decode cX2_init 39 = .ok (.return_, 1) := by decide +kernel
theorem dX2_beginText_0 : decode cX2_beginText 0 = .ok (.aload_n 0, 1) := by decide +kernel
theorem dX2_beginText_1 : decode cX2_beginText 1 = .ok (.iconst 0, 1) := by decide +kernel
theorem dX2_beginText_2 : decode cX2_beginText 2 = .ok (.putfield 15, 3) := by decide +kernel
theorem dX2_beginText_5 : decode cX2_beginText 5 = .ok (.aload_n 0, 1) := by decide +kernel
theorem dX2_beginText_6 : decode cX2_beginText 6 = .ok (.iconst 0, 1) := by decide +kernel
theorem dX2_beginText_7 : decode cX2_beginText 7 = .ok (.putfield 27, 3) := by decide +kernel
theorem dX2_beginText_10 : decode cX2_beginText 10 = .ok (.return_, 1) := by decide +kernel
set_option maxRecDepth 20000 in
theorem ggX2_readNext_X2_hasForm : GoodIn wsX2_readNext wsX2_hasForm := goodIn_r _ [10, 1, 11, 5, 12, 13, 14, 15, 16, 17, 18, 19, 20, 21, 9, 22, 23, 24, 25, 26, 27, 28, 29, 30, 31, 32, 33, 34, 41, 42, 43, 44, 45, 46, 47, 48, 49] (by decide +kernel) (by decide +kernel)
set_option maxRecDepth 20000 in
theorem gX2_readNext_X2_hasForm : GoodIn wsX2_readNext (wsV RX2 33 RX2 yX2_hasForm wsX2_hasForm) := goodIn_app (goodIn_of _ (by decide +kernel)) ggX2_readNext_X2_hasForm
set_option maxRecDepth 20000 in
theorem ggX2_readNext_X2_isInRange : GoodIn wsX2_readNext wsX2_isInRange := goodIn_r _ [38, 11, 5, 39, 24, 40, 23, 25, 41, 42, 43, 44, 45, 46, 47] (by decide +kernel) (by decide +kernel)
set_option maxRecDepth 20000 in
theorem gX2_readNext_X2_isInRange : GoodIn wsX2_readNext (wsV RX2 37 RX2 yX2_isInRange wsX2_isInRange) := goodIn_app (goodIn_of _ (by decide +kernel)) ggX2_readNext_X2_isInRange
theorem dX2_readNext_0 : decode cX2_readNext 0 = .ok (.aload_n 0, 1) := by decide +kernel
theorem dX2_readNext_1 : decode cX2_readNext 1 = .ok (.aload_n 0, 1) := by decide +kernel
theorem dX2_readNext_2 : decode cX2_readNext 2 = .ok (.getfield 15, 3) := by decide +kernel
theorem dX2_readNext_5 : decode cX2_readNext 5 = .ok (.putfield 9, 3) := by decide +kernel
theorem dX2_readNext_8 : decode cX2_readNext 8 = .ok (.aload_n 0, 1) := by decide +kernel
theorem dX2_readNext_9 : decode cX2_readNext 9 = .ok (.aload_n 1, 1) := by decide +kernel
theorem dX2_readNext_10 : decode cX2_readNext 10 = .ok (.invokevirtual 33, 3) := by decide +kernel
theorem dX2_readNext_13 : decode cX2_readNext 13 = .ok (.ifCond .ne 24, 3) := by decide +kernel
theorem dX2_readNext_16 : decode cX2_readNext 16 = .ok (.aload_n 0, 1) := by decide +kernel
theorem dX2_readNext_17 : decode cX2_readNext 17 = .ok (.iconst 1, 1) := by decide +kernel
theorem dX2_readNext_18 : decode cX2_readNext 18 = .ok (.putfield 27, 3) := by decide +kernel
theorem dX2_readNext_21 : decode cX2_readNext 21 = .ok (.aload_n 0, 1) := by decide +kernel
theorem dX2_readNext_22 : decode cX2_readNext 22 = .ok (.aload_n 0, 1) := by decide +kernel
theorem dX2_readNext_23 : decode cX2_readNext 23 = .ok (.getfield 15, 3) := by decide +kernel
theorem dX2_readNext_26 : decode cX2_readNext 26 = .ok (.aload_n 0, 1) := by decide +kernel
theorem dX2_readNext_27 : decode cX2_readNext 27 = .ok (.getfield 9, 3) := by decide +kernel
theorem dX2_readNext_30 : decode cX2_readNext 30 = .ok (.isub, 1) := by decide +kernel
theorem dX2_readNext_31 : decode cX2_readNext 31 = .ok (.putfield 30, 3) := by decide +kernel
theorem dX2_readNext_34 : decode cX2_readNext 34 = .ok (.goto 23, 3) := by decide +kernel
theorem dX2_readNext_37 : decode cX2_readNext 37 = .ok (.aload_n 0, 1) := by decide +kernel
theorem dX2_readNext_38 : decode cX2_readNext 38 = .ok (.invokevirtual 37, 3) := by decide +kernel
theorem dX2_readNext_41 : decode cX2_readNext 41 = .ok (.ifCond .ne 16, 3) := by decide +kernel
theorem dX2_readNext_44 : decode cX2_readNext 44 = .ok (.aload_n 0, 1) := by decide +kernel
theorem dX2_readNext_45 : decode cX2_readNext 45 = .ok (.iconst 2, 1) := by decide +kernel
theorem dX2_readNext_46 : decode cX2_readNext 46 = .ok (.putfield 27, 3) := by decide +kernel
theorem dX2_readNext_49 : decode cX2_readNext 49 = .ok (.aload_n 0, 1) := by decide +kernel
theorem dX2_readNext_50 : decode cX2_readNext 50 = .ok (.aload_n 0, 1) := by decide +kernel
theorem dX2_readNext_51 : decode cX2_readNext 51 = .ok (.getfield 21, 3) := by decide +kernel
theorem dX2_readNext_54 : decode cX2_readNext 54 = .ok (.putfield 30, 3) := by decide +kernel
theorem dX2_readNext_57 : decode cX2_readNext 57 = .ok (.return_, 1) := by decide +kernel
set_option maxRecDepth 20000 in
theorem ggX2_hasForm_X5_at : GoodIn wsX2_hasForm wsX5_at := goodIn_r _ [8, 9, 10, 35, 36] (by decide +kernel) (by decide +kernel)
set_option maxRecDepth 20000 in
theorem gX2_hasForm_X5_at : GoodIn wsX2_hasForm (wsV RX2 41 RX5 yX5_at wsX5_at) := goodIn_app (goodIn_of _ (by decide +kernel)) ggX2_hasForm_X5_at
set_option maxRecDepth 20000 in
theorem ggX2_hasForm_X2_readNumber : GoodIn wsX2_hasForm wsX2_readNumber := goodIn_r _ [15, 1, 4, 5, 6, 7, 8, 9, 10, 16, 17, 18, 28, 29, 30, 31, 32, 33, 34, 35, 36] (by decide +kernel) (by decide +kernel)
set_option maxRecDepth 20000 in
theorem gX2_hasForm_X2_readNumber : GoodIn wsX2_hasForm (wsV RX2 47 RX2 yX2_readNumber wsX2_readNumber) := goodIn_app (goodIn_of _ (by decide +kernel)) ggX2_hasForm_X2_readNumber
set_option maxRecDepth 20000 in
theorem ggX2_hasForm_X2_readSign : GoodIn wsX2_hasForm wsX2_readSign := goodIn_r _ [22, 1, 4, 5, 6, 7, 8, 9, 10, 28, 29, 30, 31, 32, 33, 34, 35, 36] (by decide +kernel) (by decide +kernel)
set_option maxRecDepth 20000 in
theorem gX2_hasForm_X2_readSign : GoodIn wsX2_hasForm (wsV RX2 51 RX2 yX2_readSign wsX2_readSign) := goodIn_app (goodIn_of _ (by decide +kernel)) ggX2_hasForm_X2_readSign
set_option maxRecDepth 20000 in
theorem ggX2_hasForm_X2_hasFormOfWrite : GoodIn wsX2_hasForm wsX2_hasFormOfWrite := goodIn_r _ [26, 3, 27, 11, 12, 13, 14, 15, 1, 4, 5, 6, 7, 8, 9, 10, 16, 17, 18, 19, 20, 21, 22, 28, 29, 30, 31, 32, 33, 34, 35, 36] (by decide +kernel) (by decide +kernel)
set_option maxRecDepth 20000 in
theorem gX2_hasForm_X2_hasFormOfWrite : GoodIn wsX2_hasForm (wsV RX2 55 RX2 yX2_hasFormOfWrite wsX2_hasFormOfWrite) := goodIn_app (goodIn_of _ (by decide +kernel)) ggX2_hasForm_X2_hasFormOfWrite
theorem dX2_hasForm_0 : decode cX2_hasForm 0 = .ok (.aload_n 0, 1) := by decide +kernel
theorem dX2_hasForm_1 : decode cX2_hasForm 1 = .ok (.aload_n 1, 1) := by decide +kernel
theorem dX2_hasForm_2 : decode cX2_hasForm 2 = .ok (.aload_n 0, 1) := by decide +kernel
theorem dX2_hasForm_3 : decode cX2_hasForm 3 = .ok (.getfield 15, 3) := by decide +kernel
theorem dX2_hasForm_6 : decode cX2_hasForm 6 = .ok (.invokevirtual 41, 3) := by decide +kernel
theorem dX2_hasForm_9 : decode cX2_hasForm 9 = .ok (.putfield 18, 3) := by decide +kernel
theorem dX2_hasForm_12 : decode cX2_hasForm 12 = .ok (.aload_n 0, 1) := by decide +kernel
theorem dX2_hasForm_13 : decode cX2_hasForm 13 = .ok (.getfield 18, 3) := by decide +kernel
theorem dX2_hasForm_16 : decode cX2_hasForm 16 = .ok (.lookupswitch 137 #[(99, 119), (103, 119), (108, 60), (114, 60), (116, 60), (119, 103)], 60) := by decide +kernel
theorem dX2_hasForm_76 : decode cX2_hasForm 76 = .ok (.aload_n 0, 1) := by decide +kernel
theorem dX2_hasForm_77 : decode cX2_hasForm 77 = .ok (.dup, 1) := by decide +kernel
theorem dX2_hasForm_78 : decode cX2_hasForm 78 = .ok (.getfield 15, 3) := by decide +kernel
theorem dX2_hasForm_81 : decode cX2_hasForm 81 = .ok (.iconst 1, 1) := by decide +kernel
theorem dX2_hasForm_82 : decode cX2_hasForm 82 = .ok (.iadd, 1) := by decide +kernel
theorem dX2_hasForm_83 : decode cX2_hasForm 83 = .ok (.putfield 15, 3) := by decide +kernel
theorem dX2_hasForm_86 : decode cX2_hasForm 86 = .ok (.aload_n 0, 1) := by decide +kernel
theorem dX2_hasForm_87 : decode cX2_hasForm 87 = .ok (.aload_n 0, 1) := by decide +kernel
theorem dX2_hasForm_88 : decode cX2_hasForm 88 = .ok (.aload_n 1, 1) := by decide +kernel
theorem dX2_hasForm_89 : decode cX2_hasForm 89 = .ok (.invokevirtual 47, 3) := by decide +kernel
theorem dX2_hasForm_92 : decode cX2_hasForm 92 = .ok (.putfield 21, 3) := by decide +kernel
theorem dX2_hasForm_95 : decode cX2_hasForm 95 = .ok (.aload_n 0, 1) := by decide +kernel
theorem dX2_hasForm_96 : decode cX2_hasForm 96 = .ok (.getfield 21, 3) := by decide +kernel
theorem dX2_hasForm_99 : decode cX2_hasForm 99 = .ok (.iconst (-1), 1) := by decide +kernel
theorem dX2_hasForm_100 : decode cX2_hasForm 100 = .ok (.if_icmp .eq 17, 3) := by decide +kernel
theorem dX2_hasForm_103 : decode cX2_hasForm 103 = .ok (.aload_n 0, 1) := by decide +kernel
theorem dX2_hasForm_104 : decode cX2_hasForm 104 = .ok (.aload_n 1, 1) := by decide +kernel
theorem dX2_hasForm_105 : decode cX2_hasForm 105 = .ok (.bipush 59, 2) := by decide +kernel
theorem dX2_hasForm_107 : decode cX2_hasForm 107 = .ok (.invokevirtual 51, 3) := by decide +kernel
theorem dX2_hasForm_110 : decode cX2_hasForm 110 = .ok (.ifCond .eq 7, 3) := by decide +kernel
theorem dX2_hasForm_113 : decode cX2_hasForm 113 = .ok (.iconst 1, 1) := by decide +kernel
theorem dX2_hasForm_114 : decode cX2_hasForm 114 = .ok (.goto 4, 3) := by decide +kernel
theorem dX2_hasForm_117 : decode cX2_hasForm 117 = .ok (.iconst 0, 1) := by decide +kernel
theorem dX2_hasForm_118 : decode cX2_hasForm 118 = .ok (.ireturn, 1) := by decide +kernel
theorem dX2_hasForm_119 : decode cX2_hasForm 119 = .ok (.aload_n 0, 1) := by decide +kernel
theorem dX2_hasForm_120 : decode cX2_hasForm 120 = .ok (.dup, 1) := by decide +kernel
theorem dX2_hasForm_121 : decode cX2_hasForm 121 = .ok (.getfield 15, 3) := by decide +kernel
theorem dX2_hasForm_124 : decode cX2_hasForm 124 = .ok (.iconst 1, 1) := by decide +kernel
theorem dX2_hasForm_125 : decode cX2_hasForm 125 = .ok (.iadd, 1) := by decide +kernel
theorem dX2_hasForm_126 : decode cX2_hasForm 126 = .ok (.putfield 15, 3) := by decide +kernel
theorem dX2_hasForm_129 : decode cX2_hasForm 129 = .ok (.aload_n 0, 1) := by decide +kernel
theorem dX2_hasForm_130 : decode cX2_hasForm 130 = .ok (.aload_n 1, 1) := by decide +kernel
theorem dX2_hasForm_131 : decode cX2_hasForm 131 = .ok (.invokevirtual 55, 3) := by decide +kernel
theorem dX2_hasForm_134 : decode cX2_hasForm 134 = .ok (.ireturn, 1) := by decide +kernel
theorem dX2_hasForm_135 : decode cX2_hasForm 135 = .ok (.aload_n 0, 1) := by decide +kernel
theorem dX2_hasForm_136 : decode cX2_hasForm 136 = .ok (.dup, 1) := by decide +kernel
theorem dX2_hasForm_137 : decode cX2_hasForm 137 = .ok (.getfield 15, 3) := by decide +kernel
theorem dX2_hasForm_140 : decode cX2_hasForm 140 = .ok (.iconst 1, 1) := by decide +kernel
theorem dX2_hasForm_141 : decode cX2_hasForm 141 = .ok (.iadd, 1) := by decide +kernel
theorem dX2_hasForm_142 : decode cX2_hasForm 142 = .ok (.putfield 15, 3) := by decide +kernel
theorem dX2_hasForm_145 : decode cX2_hasForm 145 = .ok (.aload_n 0, 1) := by decide +kernel
theorem dX2_hasForm_146 : decode cX2_hasForm 146 = .ok (.aload_n 1, 1) := by decide +kernel
theorem dX2_hasForm_147 : decode cX2_hasForm 147 = .ok (.bipush 59, 2) := by decide +kernel
theorem dX2_hasForm_149 : decode cX2_hasForm 149 = .ok (.invokevirtual 51, 3) := by decide +kernel
theorem dX2_hasForm_152 : decode cX2_hasForm 152 = .ok (.ireturn, 1) := by decide +kernel
theorem dX2_hasForm_153 : decode cX2_hasForm 153 = .ok (.iconst 0, 1) := by decide +kernel
theorem dX2_hasForm_154 : decode cX2_hasForm 154 = .ok (.ireturn, 1) := by decide +kernel
set_option maxRecDepth 20000 in
theorem ggX2_hasFormOfWrite_X2_readNumber : GoodIn wsX2_hasFormOfWrite wsX2_readNumber := goodIn_r _ [7, 8, 9, 10, 11, 12, 13, 14, 15, 16, 17, 18, 23, 24, 25, 26, 27, 28, 29, 30, 31] (by decide +kernel) (by decide +kernel)
set_option maxRecDepth 20000 in
theorem gX2_hasFormOfWrite_X2_readNumber : GoodIn wsX2_hasFormOfWrite (wsV RX2 47 RX2 yX2_readNumber wsX2_readNumber) := goodIn_app (goodIn_of _ (by decide +kernel)) ggX2_hasFormOfWrite_X2_readNumber
set_option maxRecDepth 20000 in
theorem ggX2_hasFormOfWrite_X2_readSign : GoodIn wsX2_hasFormOfWrite wsX2_readSign := goodIn_r _ [22, 8, 9, 10, 11, 12, 13, 14, 15, 23, 24, 25, 26, 27, 28, 29, 30, 31] (by decide +kernel) (by decide +kernel)
set_option maxRecDepth 20000 in
theorem gX2_hasFormOfWrite_X2_readSign : GoodIn wsX2_hasFormOfWrite (wsV RX2 51 RX2 yX2_readSign wsX2_readSign) := goodIn_app (goodIn_of _ (by decide +kernel)) ggX2_hasFormOfWrite_X2_readSign
theorem dX2_hasFormOfWrite_0 : decode cX2_hasFormOfWrite 0 = .ok (.aload_n 0, 1) := by decide +kernel
theorem dX2_hasFormOfWrite_1 : decode cX2_hasFormOfWrite 1 = .ok (.aload_n 0, 1) := by decide +kernel
theorem dX2_hasFormOfWrite_2 : decode cX2_hasFormOfWrite 2 = .ok (.aload_n 1, 1) := by decide +kernel
theorem dX2_hasFormOfWrite_3 : decode cX2_hasFormOfWrite 3 = .ok (.invokevirtual 47, 3) := by decide +kernel
theorem dX2_hasFormOfWrite_6 : decode cX2_hasFormOfWrite 6 = .ok (.putfield 21, 3) := by decide +kernel
theorem dX2_hasFormOfWrite_9 : decode cX2_hasFormOfWrite 9 = .ok (.aload_n 0, 1) := by decide +kernel
theorem dX2_hasFormOfWrite_10 : decode cX2_hasFormOfWrite 10 = .ok (.getfield 21, 3) := by decide +kernel
theorem dX2_hasFormOfWrite_13 : decode cX2_hasFormOfWrite 13 = .ok (.iconst (-1), 1) := by decide +kernel
theorem dX2_hasFormOfWrite_14 : decode cX2_hasFormOfWrite 14 = .ok (.if_icmp .eq 13, 3) := by decide +kernel
theorem dX2_hasFormOfWrite_17 : decode cX2_hasFormOfWrite 17 = .ok (.aload_n 0, 1) := by decide +kernel
theorem dX2_hasFormOfWrite_18 : decode cX2_hasFormOfWrite 18 = .ok (.aload_n 1, 1) := by decide +kernel
theorem dX2_hasFormOfWrite_19 : decode cX2_hasFormOfWrite 19 = .ok (.bipush 61, 2) := by decide +kernel
theorem dX2_hasFormOfWrite_21 : decode cX2_hasFormOfWrite 21 = .ok (.invokevirtual 51, 3) := by decide +kernel
theorem dX2_hasFormOfWrite_24 : decode cX2_hasFormOfWrite 24 = .ok (.ifCond .ne 5, 3) := by decide +kernel
theorem dX2_hasFormOfWrite_27 : decode cX2_hasFormOfWrite 27 = .ok (.iconst 0, 1) := by decide +kernel
theorem dX2_hasFormOfWrite_28 : decode cX2_hasFormOfWrite 28 = .ok (.ireturn, 1) := by decide +kernel
theorem dX2_hasFormOfWrite_29 : decode cX2_hasFormOfWrite 29 = .ok (.aload_n 0, 1) := by decide +kernel
theorem dX2_hasFormOfWrite_30 : decode cX2_hasFormOfWrite 30 = .ok (.aload_n 0, 1) := by decide +kernel
theorem dX2_hasFormOfWrite_31 : decode cX2_hasFormOfWrite 31 = .ok (.aload_n 1, 1) := by decide +kernel
theorem dX2_hasFormOfWrite_32 : decode cX2_hasFormOfWrite 32 = .ok (.invokevirtual 47, 3) := by decide +kernel
theorem dX2_hasFormOfWrite_35 : decode cX2_hasFormOfWrite 35 = .ok (.putfield 24, 3) := by decide +kernel
theorem dX2_hasFormOfWrite_38 : decode cX2_hasFormOfWrite 38 = .ok (.aload_n 0, 1) := by decide +kernel
theorem dX2_hasFormOfWrite_39 : decode cX2_hasFormOfWrite 39 = .ok (.getfield 24, 3) := by decide +kernel
theorem dX2_hasFormOfWrite_42 : decode cX2_hasFormOfWrite 42 = .ok (.iconst (-1), 1) := by decide +kernel
theorem dX2_hasFormOfWrite_43 : decode cX2_hasFormOfWrite 43 = .ok (.if_icmp .eq 17, 3) := by decide +kernel
theorem dX2_hasFormOfWrite_46 : decode cX2_hasFormOfWrite 46 = .ok (.aload_n 0, 1) := by decide +kernel
theorem dX2_hasFormOfWrite_47 : decode cX2_hasFormOfWrite 47 = .ok (.aload_n 1, 1) := by decide +kernel
theorem dX2_hasFormOfWrite_48 : decode cX2_hasFormOfWrite 48 = .ok (.bipush 59, 2) := by decide +kernel
theorem dX2_hasFormOfWrite_50 : decode cX2_hasFormOfWrite 50 = .ok (.invokevirtual 51, 3) := by decide +kernel
theorem dX2_hasFormOfWrite_53 : decode cX2_hasFormOfWrite 53 = .ok (.ifCond .eq 7, 3) := by decide +kernel
theorem dX2_hasFormOfWrite_56 : decode cX2_hasFormOfWrite 56 = .ok (.iconst 1, 1) := by decide +kernel
theorem dX2_hasFormOfWrite_57 : decode cX2_hasFormOfWrite 57 = .ok (.goto 4, 3) := by decide +kernel
theorem dX2_hasFormOfWrite_60 : decode cX2_hasFormOfWrite 60 = .ok (.iconst 0, 1) := by decide +kernel
theorem dX2_hasFormOfWrite_61 : decode cX2_hasFormOfWrite 61 = .ok (.ireturn, 1) := by decide +kernel
set_option maxRecDepth 20000 in
theorem ggX2_readNumber_X5_at : GoodIn wsX2_readNumber wsX5_at := goodIn_r _ [6, 7, 8, 19, 20] (by decide +kernel) (by decide +kernel)
set_option maxRecDepth 20000 in
theorem gX2_readNumber_X5_at : GoodIn wsX2_readNumber (wsV RX2 41 RX5 yX5_at wsX5_at) := goodIn_app (goodIn_of _ (by decide +kernel)) ggX2_readNumber_X5_at
set_option maxRecDepth 20000 in
theorem ggX2_readNumber_X6_isWithin : GoodIn wsX2_readNumber wsX6_isWithin := goodIn_r _ [11] (by decide +kernel) (by decide +kernel)
set_option maxRecDepth 20000 in
theorem gX2_readNumber_X6_isWithin_n58 : GoodIn wsX2_readNumber (wsX6_isWithin) := ggX2_readNumber_X6_isWithin
theorem dX2_readNumber_0 : decode cX2_readNumber 0 = .ok (.iconst 0, 1) := by decide +kernel
theorem dX2_readNumber_1 : decode cX2_readNumber 1 = .ok (.istore_n 2, 1) := by decide +kernel
theorem dX2_readNumber_2 : decode cX2_readNumber 2 = .ok (.iconst 0, 1) := by decide +kernel
theorem dX2_readNumber_3 : decode cX2_readNumber 3 = .ok (.istore_n 3, 1) := by decide +kernel
theorem dX2_readNumber_4 : decode cX2_readNumber 4 = .ok (.iload_n 2, 1) := by decide +kernel
theorem dX2_readNumber_5 : decode cX2_readNumber 5 = .ok (.iconst 3, 1) := by decide +kernel
theorem dX2_readNumber_6 : decode cX2_readNumber 6 = .ok (.if_icmp .ge 54, 3) := by decide +kernel
theorem dX2_readNumber_9 : decode cX2_readNumber 9 = .ok (.aload_n 1, 1) := by decide +kernel
theorem dX2_readNumber_10 : decode cX2_readNumber 10 = .ok (.aload_n 0, 1) := by decide +kernel
theorem dX2_readNumber_11 : decode cX2_readNumber 11 = .ok (.getfield 15, 3) := by decide +kernel
theorem dX2_readNumber_14 : decode cX2_readNumber 14 = .ok (.invokevirtual 41, 3) := by decide +kernel
theorem dX2_readNumber_17 : decode cX2_readNumber 17 = .ok (.bipush 48, 2) := by decide +kernel
theorem dX2_readNumber_19 : decode cX2_readNumber 19 = .ok (.bipush 57, 2) := by decide +kernel
theorem dX2_readNumber_21 : decode cX2_readNumber 21 = .ok (.invokestatic 58, 3) := by decide +kernel
theorem dX2_readNumber_24 : decode cX2_readNumber 24 = .ok (.ifCond .eq 36, 3) := by decide +kernel
theorem dX2_readNumber_27 : decode cX2_readNumber 27 = .ok (.bipush 10, 2) := by decide +kernel
theorem dX2_readNumber_29 : decode cX2_readNumber 29 = .ok (.iload_n 3, 1) := by decide +kernel
theorem dX2_readNumber_30 : decode cX2_readNumber 30 = .ok (.imul, 1) := by decide +kernel
theorem dX2_readNumber_31 : decode cX2_readNumber 31 = .ok (.aload_n 1, 1) := by decide +kernel
theorem dX2_readNumber_32 : decode cX2_readNumber 32 = .ok (.aload_n 0, 1) := by decide +kernel
theorem dX2_readNumber_33 : decode cX2_readNumber 33 = .ok (.getfield 15, 3) := by decide +kernel
theorem dX2_readNumber_36 : decode cX2_readNumber 36 = .ok (.invokevirtual 41, 3) := by decide +kernel
theorem dX2_readNumber_39 : decode cX2_readNumber 39 = .ok (.iadd, 1) := by decide +kernel
theorem dX2_readNumber_40 : decode cX2_readNumber 40 = .ok (.bipush 48, 2) := by decide +kernel
theorem dX2_readNumber_42 : decode cX2_readNumber 42 = .ok (.isub, 1) := by decide +kernel
theorem dX2_readNumber_43 : decode cX2_readNumber 43 = .ok (.istore_n 3, 1) := by decide +kernel
theorem dX2_readNumber_44 : decode cX2_readNumber 44 = .ok (.aload_n 0, 1) := by decide +kernel
theorem dX2_readNumber_45 : decode cX2_readNumber 45 = .ok (.dup, 1) := by decide +kernel
theorem dX2_readNumber_46 : decode cX2_readNumber 46 = .ok (.getfield 15, 3) := by decide +kernel
theorem dX2_readNumber_49 : decode cX2_readNumber 49 = .ok (.iconst 1, 1) := by decide +kernel
theorem dX2_readNumber_50 : decode cX2_readNumber 50 = .ok (.iadd, 1) := by decide +kernel
theorem dX2_readNumber_51 : decode cX2_readNumber 51 = .ok (.putfield 15, 3) := by decide +kernel
theorem dX2_readNumber_54 : decode cX2_readNumber 54 = .ok (.iinc 2 1, 3) := by decide +kernel
theorem dX2_readNumber_57 : decode cX2_readNumber 57 = .ok (.goto (-53), 3) := by decide +kernel
theorem dX2_readNumber_60 : decode cX2_readNumber 60 = .ok (.iload_n 2, 1) := by decide +kernel
theorem dX2_readNumber_61 : decode cX2_readNumber 61 = .ok (.ifCond .ne 7, 3) := by decide +kernel
theorem dX2_readNumber_64 : decode cX2_readNumber 64 = .ok (.iconst (-1), 1) := by decide +kernel
theorem dX2_readNumber_65 : decode cX2_readNumber 65 = .ok (.goto 4, 3) := by decide +kernel
theorem dX2_readNumber_68 : decode cX2_readNumber 68 = .ok (.iload_n 3, 1) := by decide +kernel
theorem dX2_readNumber_69 : decode cX2_readNumber 69 = .ok (.ireturn, 1) := by decide +kernel
set_option maxRecDepth 20000 in
theorem ggX2_readSign_X5_at : GoodIn wsX2_readSign wsX5_at := goodIn_r _ [6, 7, 8, 16, 17] (by decide +kernel) (by decide +kernel)
set_option maxRecDepth 20000 in
theorem gX2_readSign_X5_at : GoodIn wsX2_readSign (wsV RX2 41 RX5 yX5_at wsX5_at) := goodIn_app (goodIn_of _ (by decide +kernel)) ggX2_readSign_X5_at
theorem dX2_readSign_0 : decode cX2_readSign 0 = .ok (.aload_n 1, 1) := by decide +kernel
theorem dX2_readSign_1 : decode cX2_readSign 1 = .ok (.aload_n 0, 1) := by decide +kernel
theorem dX2_readSign_2 : decode cX2_readSign 2 = .ok (.getfield 15, 3) := by decide +kernel
theorem dX2_readSign_5 : decode cX2_readSign 5 = .ok (.invokevirtual 41, 3) := by decide +kernel
theorem dX2_readSign_8 : decode cX2_readSign 8 = .ok (.iload_n 2, 1) := by decide +kernel
theorem dX2_readSign_9 : decode cX2_readSign 9 = .ok (.if_icmp .eq 5, 3) := by decide +kernel
theorem dX2_readSign_12 : decode cX2_readSign 12 = .ok (.iconst 0, 1) := by decide +kernel
theorem dX2_readSign_13 : decode cX2_readSign 13 = .ok (.ireturn, 1) := by decide +kernel
theorem dX2_readSign_14 : decode cX2_readSign 14 = .ok (.aload_n 0, 1) := by decide +kernel
theorem dX2_readSign_15 : decode cX2_readSign 15 = .ok (.dup, 1) := by decide +kernel
theorem dX2_readSign_16 : decode cX2_readSign 16 = .ok (.getfield 15, 3) := by decide +kernel
theorem dX2_readSign_19 : decode cX2_readSign 19 = .ok (.iconst 1, 1) := by decide +kernel
theorem dX2_readSign_20 : decode cX2_readSign 20 = .ok (.iadd, 1) := by decide +kernel
theorem dX2_readSign_21 : decode cX2_readSign 21 = .ok (.putfield 15, 3) := by decide +kernel
theorem dX2_readSign_24 : decode cX2_readSign 24 = .ok (.iconst 1, 1) := by decide +kernel
theorem dX2_readSign_25 : decode cX2_readSign 25 = .ok (.ireturn, 1) := by decide +kernel
set_option maxRecDepth 20000 in
theorem ggX2_isInRange_X6_isPlace : GoodIn wsX2_isInRange wsX6_isPlace := goodIn_r _ [5] (by decide +kernel) (by decide +kernel)
set_option maxRecDepth 20000 in
theorem gX2_isInRange_X6_isPlace_n62 : GoodIn wsX2_isInRange (wsX6_isPlace) := ggX2_isInRange_X6_isPlace
set_option maxRecDepth 20000 in
theorem ggX2_isInRange_X6_isWithin : GoodIn wsX2_isInRange wsX6_isWithin := goodIn_r _ [7] (by decide +kernel) (by decide +kernel)
set_option maxRecDepth 20000 in
theorem gX2_isInRange_X6_isWithin_n58 : GoodIn wsX2_isInRange (wsX6_isWithin) := ggX2_isInRange_X6_isWithin
theorem dX2_isInRange_0 : decode cX2_isInRange 0 = .ok (.aload_n 0, 1) := by decide +kernel
theorem dX2_isInRange_1 : decode cX2_isInRange 1 = .ok (.getfield 18, 3) := by decide +kernel
theorem dX2_isInRange_4 : decode cX2_isInRange 4 = .ok (.lookupswitch 75 #[(108, 63), (114, 44), (116, 52), (119, 44)], 44) := by decide +kernel
theorem dX2_isInRange_48 : decode cX2_isInRange 48 = .ok (.aload_n 0, 1) := by decide +kernel
theorem dX2_isInRange_49 : decode cX2_isInRange 49 = .ok (.getfield 21, 3) := by decide +kernel
theorem dX2_isInRange_52 : decode cX2_isInRange 52 = .ok (.invokestatic 62, 3) := by decide +kernel
theorem dX2_isInRange_55 : decode cX2_isInRange 55 = .ok (.ireturn, 1) := by decide +kernel
theorem dX2_isInRange_56 : decode cX2_isInRange 56 = .ok (.aload_n 0, 1) := by decide +kernel
theorem dX2_isInRange_57 : decode cX2_isInRange 57 = .ok (.getfield 21, 3) := by decide +kernel
theorem dX2_isInRange_60 : decode cX2_isInRange 60 = .ok (.iconst 1, 1) := by decide +kernel
theorem dX2_isInRange_61 : decode cX2_isInRange 61 = .ok (.bipush 99, 2) := by decide +kernel
theorem dX2_isInRange_63 : decode cX2_isInRange 63 = .ok (.invokestatic 58, 3) := by decide +kernel
theorem dX2_isInRange_66 : decode cX2_isInRange 66 = .ok (.ireturn, 1) := by decide +kernel
theorem dX2_isInRange_67 : decode cX2_isInRange 67 = .ok (.aload_n 0, 1) := by decide +kernel
theorem dX2_isInRange_68 : decode cX2_isInRange 68 = .ok (.getfield 21, 3) := by decide +kernel
theorem dX2_isInRange_71 : decode cX2_isInRange 71 = .ok (.iconst 1, 1) := by decide +kernel
theorem dX2_isInRange_72 : decode cX2_isInRange 72 = .ok (.sipush 999, 3) := by decide +kernel
theorem dX2_isInRange_75 : decode cX2_isInRange 75 = .ok (.invokestatic 58, 3) := by decide +kernel
theorem dX2_isInRange_78 : decode cX2_isInRange 78 = .ok (.ireturn, 1) := by decide +kernel
theorem dX2_isInRange_79 : decode cX2_isInRange 79 = .ok (.iconst 1, 1) := by decide +kernel
theorem dX2_isInRange_80 : decode cX2_isInRange 80 = .ok (.ireturn, 1) := by decide +kernel
set_option maxRecDepth 20000 in
theorem ggX3_init_X4_init : GoodIn wsX3_init wsX4_init := goodIn_r _ [14, 15, 2, 3, 16, 17, 18, 19, 20, 21, 22, 23, 24, 25, 26, 27, 28, 29, 30, 31, 32, 33, 34, 35, 36, 37, 38, 39, 40, 41, 42, 43, 44, 45, 46, 84, 85, 86, 87, 88, 89, 90, 57, 58, 59, 60, 61, 62, 63, 64, 65, 66, 67, 68, 69, 70, 71, 72, 73] (by decide +kernel) (by decide +kernel)
set_option maxRecDepth 20000 in
theorem gX3_init_X4_init_n11 : GoodIn wsX3_init (wsX4_init) := ggX3_init_X4_init
set_option maxRecDepth 20000 in
theorem ggX3_init_X2_init : GoodIn wsX3_init wsX2_init := goodIn_r _ [48, 49, 2, 3, 50, 51, 52, 53, 54, 55, 56, 77, 78, 79, 80, 81, 82, 83] (by decide +kernel) (by decide +kernel)
set_option maxRecDepth 20000 in
theorem gX3_init_X2_init_n20 : GoodIn wsX3_init (wsX2_init) := ggX3_init_X2_init
theorem dX3_init_0 : decode cX3_init 0 = .ok (.aload_n 0, 1) := by decide +kernel
theorem dX3_init_1 : decode cX3_init 1 = .ok (.invokespecial 3, 3) := by decide +kernel
theorem dX3_init_4 : decode cX3_init 4 = .ok (.aload_n 0, 1) := by decide +kernel
theorem dX3_init_5 : decode cX3_init 5 = .ok (.new 9, 3) := by decide +kernel
theorem dX3_init_8 : decode cX3_init 8 = .ok (.dup, 1) := by decide +kernel
theorem dX3_init_9 : decode cX3_init 9 = .ok (.invokespecial 11, 3) := by decide +kernel
theorem dX3_init_12 : decode cX3_init 12 = .ok (.putfield 12, 3) := by decide +kernel
theorem dX3_init_15 : decode cX3_init 15 = .ok (.aload_n 0, 1) := by decide +kernel
theorem dX3_init_16 : decode cX3_init 16 = .ok (.new 18, 3) := by decide +kernel
theorem dX3_init_19 : decode cX3_init 19 = .ok (.dup, 1) := by decide +kernel
theorem dX3_init_20 : decode cX3_init 20 = .ok (.invokespecial 20, 3) := by decide +kernel
theorem dX3_init_23 : decode cX3_init 23 = .ok (.putfield 21, 3) := by decide +kernel
theorem dX3_init_26 : decode cX3_init 26 = .ok (.aload_n 0, 1) := by decide +kernel
theorem dX3_init_27 : decode cX3_init 27 = .ok (.iconst 0, 1) := by decide +kernel
theorem dX3_init_28 : decode cX3_init 28 = .ok (.putfield 25, 3) := by decide +kernel
theorem dX3_init_31 : decode cX3_init 31 = .ok (.return_, 1) := by decide +kernel
set_option maxRecDepth 20000 in
theorem ggX3_run_X4_copy : GoodIn wsX3_run wsX4_copy := goodIn_r _ [10, 11, 12, 13, 14, 15, 16, 17, 18, 19, 20, 21, 22, 23, 24, 25, 26, 27, 28, 29, 30, 31, 32, 33, 34, 35, 36, 37, 38, 39, 40, 41, 42, 43, 44, 45, 46, 47, 48, 49, 50, 250, 251, 252, 253, 254, 255, 256, 257, 258, 259, 260, 261, 262, 263, 264, 265, 266, 267, 268, 269, 270, 271, 272, 273] (by decide +kernel) (by decide +kernel)
set_option maxRecDepth 20000 in
theorem gX3_run_X4_copy : GoodIn wsX3_run (va_wsS RX3 29 yX4_copy wsX4_copy) := goodIn_app (goodIn_of _ (by decide +kernel)) ggX3_run_X4_copy
set_option maxRecDepth 20000 in
theorem ggX3_run_X2_beginText : GoodIn wsX3_run wsX2_beginText := goodIn_r _ [55, 56, 57, 241, 242, 243, 244, 245, 246, 247] (by decide +kernel) (by decide +kernel)
set_option maxRecDepth 20000 in
theorem gX3_run_X2_beginText : GoodIn wsX3_run (wsV RX3 33 RX2 yX2_beginText wsX2_beginText) := goodIn_app (goodIn_of _ (by decide +kernel)) ggX3_run_X2_beginText
set_option maxRecDepth 20000 in
theorem ggX3_run_X2_readNext : GoodIn wsX3_run wsX2_readNext := goodIn_r _ [61, 56, 62, 57, 63, 64, 65, 66, 67, 54, 68, 69, 70, 71, 72, 73, 74, 75, 76, 77, 78, 79, 80, 81, 41, 82, 83, 84, 85, 86, 87, 88, 89, 90, 91, 92, 93, 94, 95, 96, 97, 241, 242, 243, 244, 245, 246, 247, 248, 249] (by decide +kernel) (by decide +kernel)
set_option maxRecDepth 20000 in
theorem gX3_run_X2_readNext : GoodIn wsX3_run (wsV RX3 44 RX2 yX2_readNext wsX2_readNext) := goodIn_app (goodIn_of _ (by decide +kernel)) ggX3_run_X2_readNext
set_option maxRecDepth 20000 in
theorem ggX3_run_X3_isPossible : GoodIn wsX3_run wsX3_isPossible := goodIn_r _ [102, 2, 103, 1, 104, 105, 238, 239, 240, 241, 242, 243, 244, 245, 246, 247, 250, 251, 252, 253, 254, 255, 256, 257, 258, 259, 260, 261, 262, 263, 264, 265, 266, 267, 268, 269, 270, 271, 272, 273] (by decide +kernel) (by decide +kernel)
set_option maxRecDepth 20000 in
theorem gX3_run_X3_isPossible : GoodIn wsX3_run (wsV RX3 51 RX3 yX3_isPossible wsX3_isPossible) := goodIn_app (goodIn_of _ (by decide +kernel)) ggX3_run_X3_isPossible
set_option maxRecDepth 20000 in
theorem ggX3_run_X3_perform : GoodIn wsX3_run wsX3_perform := goodIn_r _ [109, 2, 103, 1, 110, 111, 112, 113, 114, 9, 115, 16, 116, 117, 118, 119, 20, 21, 18, 17, 120, 121, 122, 123, 14, 15, 124, 41, 125, 126, 127, 128, 129, 130, 131, 132, 133, 134, 135, 136, 137, 138, 139, 140, 141, 22, 142, 143, 144, 145, 12, 13, 27, 96, 97, 146, 147, 148, 149, 150, 151, 152, 153, 11, 23, 154, 155, 156, 157, 158, 159, 160, 161, 162, 163, 164, 165, 166, 167, 168, 169, 170, 171, 31, 172, 35, 173, 174, 175, 176, 33, 37, 36, 177, 44, 45, 46, 178, 179, 180, 181, 19, 26, 182, 183, 184, 185, 38, 186, 187, 188, 189, 39, 34, 190, 191, 192, 193, 194, 195, 196, 197, 198, 199, 200, 201, 202, 203, 204, 205, 206, 207, 208, 209, 210, 211, 212, 213, 214, 215, 216, 217, 218, 24, 25, 219, 220, 221, 222, 223, 224, 225, 226, 227, 228, 229, 230, 231, 232, 233, 234, 235, 236, 237, 238, 239, 240, 241, 242, 243, 244, 245, 246, 247, 250, 251, 252, 253, 254, 255, 256, 257, 258, 259, 260, 261, 262, 263, 264, 265, 266, 267, 268, 269, 270, 271, 272, 273] (by decide +kernel) (by decide +kernel)
set_option maxRecDepth 20000 in
theorem gX3_run_X3_perform : GoodIn wsX3_run (wsV RX3 55 RX3 yX3_perform wsX3_perform) := goodIn_app (goodIn_of _ (by decide +kernel)) ggX3_run_X3_perform
theorem dX3_run_0 : decode cX3_run 0 = .ok (.aload_n 2, 1) := by decide +kernel
theorem dX3_run_1 : decode cX3_run 1 = .ok (.aload_n 0, 1) := by decide +kernel
theorem dX3_run_2 : decode cX3_run 2 = .ok (.getfield 12, 3) := by decide +kernel
theorem dX3_run_5 : decode cX3_run 5 = .ok (.invokestatic 29, 3) := by decide +kernel
theorem dX3_run_8 : decode cX3_run 8 = .ok (.aload_n 0, 1) := by decide +kernel
theorem dX3_run_9 : decode cX3_run 9 = .ok (.getfield 21, 3) := by decide +kernel
theorem dX3_run_12 : decode cX3_run 12 = .ok (.invokevirtual 33, 3) := by decide +kernel
theorem dX3_run_15 : decode cX3_run 15 = .ok (.aload_n 0, 1) := by decide +kernel
theorem dX3_run_16 : decode cX3_run 16 = .ok (.iconst 0, 1) := by decide +kernel
theorem dX3_run_17 : decode cX3_run 17 = .ok (.putfield 25, 3) := by decide +kernel
theorem dX3_run_20 : decode cX3_run 20 = .ok (.iconst 0, 1) := by decide +kernel
theorem dX3_run_21 : decode cX3_run 21 = .ok (.istore_n 3, 1) := by decide +kernel
theorem dX3_run_22 : decode cX3_run 22 = .ok (.iload_n 3, 1) := by decide +kernel
theorem dX3_run_23 : decode cX3_run 23 = .ok (.bipush 60, 2) := by decide +kernel
theorem dX3_run_25 : decode cX3_run 25 = .ok (.if_icmp .ge 81, 3) := by decide +kernel
theorem dX3_run_28 : decode cX3_run 28 = .ok (.aload_n 0, 1) := by decide +kernel
theorem dX3_run_29 : decode cX3_run 29 = .ok (.getfield 21, 3) := by decide +kernel
theorem dX3_run_32 : decode cX3_run 32 = .ok (.getfield 36, 3) := by decide +kernel
theorem dX3_run_35 : decode cX3_run 35 = .ok (.aload_n 1, 1) := by decide +kernel
theorem dX3_run_36 : decode cX3_run 36 = .ok (.getfield 39, 3) := by decide +kernel
theorem dX3_run_39 : decode cX3_run 39 = .ok (.if_icmp .ge 67, 3) := by decide +kernel
theorem dX3_run_42 : decode cX3_run 42 = .ok (.aload_n 0, 1) := by decide +kernel
theorem dX3_run_43 : decode cX3_run 43 = .ok (.getfield 21, 3) := by decide +kernel
theorem dX3_run_46 : decode cX3_run 46 = .ok (.aload_n 1, 1) := by decide +kernel
theorem dX3_run_47 : decode cX3_run 47 = .ok (.invokevirtual 44, 3) := by decide +kernel
theorem dX3_run_50 : decode cX3_run 50 = .ok (.aload_n 0, 1) := by decide +kernel
theorem dX3_run_51 : decode cX3_run 51 = .ok (.getfield 21, 3) := by decide +kernel
theorem dX3_run_54 : decode cX3_run 54 = .ok (.getfield 48, 3) := by decide +kernel
theorem dX3_run_57 : decode cX3_run 57 = .ok (.ifCond .ne 18, 3) := by decide +kernel
theorem dX3_run_60 : decode cX3_run 60 = .ok (.aload_n 0, 1) := by decide +kernel
theorem dX3_run_61 : decode cX3_run 61 = .ok (.invokevirtual 51, 3) := by decide +kernel
theorem dX3_run_64 : decode cX3_run 64 = .ok (.ifCond .ne 11, 3) := by decide +kernel
theorem dX3_run_67 : decode cX3_run 67 = .ok (.aload_n 0, 1) := by decide +kernel
theorem dX3_run_68 : decode cX3_run 68 = .ok (.getfield 21, 3) := by decide +kernel
theorem dX3_run_71 : decode cX3_run 71 = .ok (.iconst 3, 1) := by decide +kernel
theorem dX3_run_72 : decode cX3_run 72 = .ok (.putfield 48, 3) := by decide +kernel
theorem dX3_run_75 : decode cX3_run 75 = .ok (.aload_n 0, 1) := by decide +kernel
theorem dX3_run_76 : decode cX3_run 76 = .ok (.getfield 21, 3) := by decide +kernel
theorem dX3_run_79 : decode cX3_run 79 = .ok (.getfield 48, 3) := by decide +kernel
theorem dX3_run_82 : decode cX3_run 82 = .ok (.ifCond .eq 4, 3) := by decide +kernel
theorem dX3_run_85 : decode cX3_run 85 = .ok (.return_, 1) := by decide +kernel
theorem dX3_run_86 : decode cX3_run 86 = .ok (.aload_n 0, 1) := by decide +kernel
theorem dX3_run_87 : decode cX3_run 87 = .ok (.invokevirtual 55, 3) := by decide +kernel
theorem dX3_run_90 : decode cX3_run 90 = .ok (.aload_n 0, 1) := by decide +kernel
theorem dX3_run_91 : decode cX3_run 91 = .ok (.dup, 1) := by decide +kernel
theorem dX3_run_92 : decode cX3_run 92 = .ok (.getfield 25, 3) := by decide +kernel
theorem dX3_run_95 : decode cX3_run 95 = .ok (.iconst 1, 1) := by decide +kernel
theorem dX3_run_96 : decode cX3_run 96 = .ok (.iadd, 1) := by decide +kernel
theorem dX3_run_97 : decode cX3_run 97 = .ok (.putfield 25, 3) := by decide +kernel
theorem dX3_run_100 : decode cX3_run 100 = .ok (.iinc 3 1, 3) := by decide +kernel
theorem dX3_run_103 : decode cX3_run 103 = .ok (.goto (-81), 3) := by decide +kernel
theorem dX3_run_106 : decode cX3_run 106 = .ok (.return_, 1) := by decide +kernel
theorem dX3_isPossible_0 : decode cX3_isPossible 0 = .ok (.aload_n 0, 1) := by decide +kernel
theorem dX3_isPossible_1 : decode cX3_isPossible 1 = .ok (.getfield 21, 3) := by decide +kernel
theorem dX3_isPossible_4 : decode cX3_isPossible 4 = .ok (.getfield 58, 3) := by decide +kernel
theorem dX3_isPossible_7 : decode cX3_isPossible 7 = .ok (.bipush 103, 2) := by decide +kernel
theorem dX3_isPossible_9 : decode cX3_isPossible 9 = .ok (.if_icmp .ne 16, 3) := by decide +kernel
theorem dX3_isPossible_12 : decode cX3_isPossible 12 = .ok (.aload_n 0, 1) := by decide +kernel
theorem dX3_isPossible_13 : decode cX3_isPossible 13 = .ok (.getfield 12, 3) := by decide +kernel
theorem dX3_isPossible_16 : decode cX3_isPossible 16 = .ok (.getfield 61, 3) := by decide +kernel
theorem dX3_isPossible_19 : decode cX3_isPossible 19 = .ok (.getfield 65, 3) := by decide +kernel
theorem dX3_isPossible_22 : decode cX3_isPossible 22 = .ok (.ifCond .ne 7, 3) := by decide +kernel
theorem dX3_isPossible_25 : decode cX3_isPossible 25 = .ok (.iconst 1, 1) := by decide +kernel
theorem dX3_isPossible_26 : decode cX3_isPossible 26 = .ok (.goto 4, 3) := by decide +kernel
theorem dX3_isPossible_29 : decode cX3_isPossible 29 = .ok (.iconst 0, 1) := by decide +kernel
theorem dX3_isPossible_30 : decode cX3_isPossible 30 = .ok (.ireturn, 1) := by decide +kernel
set_option maxRecDepth 20000 in
theorem ggX3_perform_X4_readPlace : GoodIn wsX3_perform wsX4_readPlace := goodIn_r _ [10, 11, 12, 13, 14, 9, 15, 16, 17, 18, 19, 20, 21, 22, 23, 24, 25, 26, 27, 28, 29, 30, 31, 32, 33, 34, 35, 36, 37, 38, 39, 40, 41, 42, 43, 44, 45, 46, 47, 48, 49, 50, 51, 52, 53, 54, 55, 56, 57, 58, 174, 175, 176, 177, 178, 179, 180, 181, 182, 183, 184, 185, 186, 187, 188, 189, 190] (by decide +kernel) (by decide +kernel)
set_option maxRecDepth 20000 in
theorem gX3_perform_X4_readPlace : GoodIn wsX3_perform (wsV RX3 73 RX4 yX4_readPlace wsX4_readPlace) := goodIn_app (goodIn_of _ (by decide +kernel)) ggX3_perform_X4_readPlace
set_option maxRecDepth 20000 in
theorem ggX3_perform_X4_writePlace : GoodIn wsX3_perform wsX4_writePlace := goodIn_r _ [62, 11, 24, 63, 64, 12, 13, 14, 9, 15, 16, 17, 18, 19, 20, 21, 22, 23, 25, 26, 27, 28, 29, 30, 31, 32, 33, 34, 35, 36, 37, 38, 39, 40, 41, 42, 43, 44, 45, 46, 47, 48, 49, 50, 51, 52, 53, 54, 55, 56, 57, 58, 65, 66, 67, 68, 69, 70, 71, 72, 73, 74, 75, 76, 77, 78, 79, 80, 81, 82, 83, 84, 85, 86, 87, 88, 89, 90, 91, 92, 93, 94, 95, 96, 174, 175, 176, 177, 178, 179, 180, 181, 182, 183, 184, 185, 186, 187, 188, 189, 190, 191, 192, 193, 194, 195, 196, 197] (by decide +kernel) (by decide +kernel)
set_option maxRecDepth 20000 in
theorem gX3_perform_X4_writePlace : GoodIn wsX3_perform (wsV RX3 80 RX4 yX4_writePlace wsX4_writePlace) := goodIn_app (goodIn_of _ (by decide +kernel)) ggX3_perform_X4_writePlace
set_option maxRecDepth 20000 in
theorem ggX3_perform_X4_passTicks : GoodIn wsX3_perform wsX4_passTicks := goodIn_r _ [100, 45, 101, 63, 102, 103, 104, 105, 83, 106, 85, 90, 107, 93, 94, 95, 96, 108, 109, 110, 111, 112, 113, 114, 115, 116, 117, 118, 119, 120, 121, 122, 123, 124, 125, 126, 127, 9, 128, 129, 65, 66, 67, 68, 69, 70, 71, 72, 24, 73, 74, 75, 76, 77, 78, 79, 80, 81, 82, 84, 86, 87, 88, 89, 91, 92, 130, 131, 132, 133, 37, 38, 39, 40, 19, 41, 42, 43, 44, 25, 11, 26, 27, 28, 46, 47, 48, 49, 50, 51, 52, 53, 54, 174, 175, 176, 177, 178, 179, 180, 181, 182, 183, 184, 185, 186, 187, 188, 189, 190, 191, 192, 193, 194, 195, 196, 197] (by decide +kernel) (by decide +kernel)
set_option maxRecDepth 20000 in
theorem gX3_perform_X4_passTicks : GoodIn wsX3_perform (wsV RX3 84 RX4 yX4_passTicks wsX4_passTicks) := goodIn_app (goodIn_of _ (by decide +kernel)) ggX3_perform_X4_passTicks
set_option maxRecDepth 20000 in
theorem ggX3_perform_X4_putLoad : GoodIn wsX3_perform wsX4_putLoad := goodIn_r _ [137, 63, 138, 115, 116, 83, 117, 90, 118, 119, 95, 120, 125, 126, 127, 9, 128, 129, 65, 66, 67, 68, 69, 70, 71, 72, 24, 73, 74, 75, 76, 77, 78, 79, 80, 81, 82, 84, 85, 86, 87, 88, 89, 91, 92, 93, 94, 96, 130, 131, 132, 133, 37, 38, 39, 40, 19, 41, 42, 43, 44, 25, 11, 45, 26, 27, 28, 46, 47, 48, 49, 50, 51, 52, 53, 54, 174, 175, 176, 177, 178, 179, 180, 181, 182, 183, 184, 185, 186, 187, 188, 189, 190, 191, 192, 193, 194, 195, 196, 197] (by decide +kernel) (by decide +kernel)
set_option maxRecDepth 20000 in
theorem gX3_perform_X4_putLoad : GoodIn wsX3_perform (wsV RX3 87 RX4 yX4_putLoad wsX4_putLoad) := goodIn_app (goodIn_of _ (by decide +kernel)) ggX3_perform_X4_putLoad
set_option maxRecDepth 20000 in
theorem ggX3_perform_X4_cutPower : GoodIn wsX3_perform wsX4_cutPower := goodIn_r _ [142, 63, 24, 143, 144, 145, 146, 147, 9, 148, 149, 94, 95, 96, 65, 66, 67, 68, 69, 70, 71, 72, 73, 74, 75, 76, 77, 78, 79, 150, 87, 88, 83, 89, 90, 91, 92, 93, 130, 131, 132, 133, 37, 38, 39, 40, 19, 41, 42, 43, 44, 25, 11, 45, 26, 27, 28, 46, 47, 48, 49, 50, 51, 52, 53, 54, 151, 152, 153, 154, 85, 155, 156, 157, 158, 114, 115, 116, 117, 118, 119, 120, 174, 175, 176, 177, 178, 179, 180, 181, 182, 183, 184, 185, 186, 187, 188, 189, 190, 191, 192, 193, 194, 195, 196, 197] (by decide +kernel) (by decide +kernel)
set_option maxRecDepth 20000 in
theorem gX3_perform_X4_cutPower : GoodIn wsX3_perform (wsV RX3 90 RX4 yX4_cutPower wsX4_cutPower) := goodIn_app (goodIn_of _ (by decide +kernel)) ggX3_perform_X4_cutPower
set_option maxRecDepth 20000 in
theorem ggX3_perform_X4_beginCycle : GoodIn wsX3_perform wsX4_beginCycle := goodIn_r _ [162, 63, 163, 125, 126, 127, 9, 128, 129, 119, 95, 120, 65, 66, 67, 68, 69, 70, 71, 72, 24, 73, 74, 75, 76, 77, 78, 79, 80, 81, 82, 83, 84, 85, 86, 87, 88, 89, 90, 91, 92, 93, 94, 96, 130, 131, 132, 133, 37, 38, 39, 40, 19, 41, 42, 43, 44, 25, 11, 45, 26, 27, 28, 46, 47, 48, 49, 50, 51, 52, 53, 54, 174, 175, 176, 177, 178, 179, 180, 181, 182, 183, 184, 185, 186, 187, 188, 189, 190, 191, 192, 193, 194, 195, 196, 197] (by decide +kernel) (by decide +kernel)
set_option maxRecDepth 20000 in
theorem gX3_perform_X4_beginCycle : GoodIn wsX3_perform (wsV RX3 94 RX4 yX4_beginCycle wsX4_beginCycle) := goodIn_app (goodIn_of _ (by decide +kernel)) ggX3_perform_X4_beginCycle
theorem dX3_perform_0 : decode cX3_perform 0 = .ok (.aload_n 0, 1) := by decide +kernel
theorem dX3_perform_1 : decode cX3_perform 1 = .ok (.getfield 21, 3) := by decide +kernel
theorem dX3_perform_4 : decode cX3_perform 4 = .ok (.getfield 58, 3) := by decide +kernel
theorem dX3_perform_7 : decode cX3_perform 7 = .ok (.lookupswitch 139 #[(99, 128), (108, 110), (114, 49), (116, 92), (119, 67)], 49) := by decide +kernel
theorem dX3_perform_56 : decode cX3_perform 56 = .ok (.aload_n 0, 1) := by decide +kernel
theorem dX3_perform_57 : decode cX3_perform 57 = .ok (.getfield 12, 3) := by decide +kernel
theorem dX3_perform_60 : decode cX3_perform 60 = .ok (.aload_n 0, 1) := by decide +kernel
theorem dX3_perform_61 : decode cX3_perform 61 = .ok (.getfield 21, 3) := by decide +kernel
theorem dX3_perform_64 : decode cX3_perform 64 = .ok (.getfield 70, 3) := by decide +kernel
theorem dX3_perform_67 : decode cX3_perform 67 = .ok (.invokevirtual 73, 3) := by decide +kernel
theorem dX3_perform_70 : decode cX3_perform 70 = .ok (.pop, 1) := by decide +kernel
theorem dX3_perform_71 : decode cX3_perform 71 = .ok (.goto 83, 3) := by decide +kernel
theorem dX3_perform_74 : decode cX3_perform 74 = .ok (.aload_n 0, 1) := by decide +kernel
theorem dX3_perform_75 : decode cX3_perform 75 = .ok (.getfield 12, 3) := by decide +kernel
theorem dX3_perform_78 : decode cX3_perform 78 = .ok (.aload_n 0, 1) := by decide +kernel
theorem dX3_perform_79 : decode cX3_perform 79 = .ok (.getfield 21, 3) := by decide +kernel
theorem dX3_perform_82 : decode cX3_perform 82 = .ok (.getfield 70, 3) := by decide +kernel
theorem dX3_perform_85 : decode cX3_perform 85 = .ok (.aload_n 0, 1) := by decide +kernel
theorem dX3_perform_86 : decode cX3_perform 86 = .ok (.getfield 21, 3) := by decide +kernel
theorem dX3_perform_89 : decode cX3_perform 89 = .ok (.getfield 77, 3) := by decide +kernel
theorem dX3_perform_92 : decode cX3_perform 92 = .ok (.invokevirtual 80, 3) := by decide +kernel
theorem dX3_perform_95 : decode cX3_perform 95 = .ok (.pop, 1) := by decide +kernel
theorem dX3_perform_96 : decode cX3_perform 96 = .ok (.goto 58, 3) := by decide +kernel
theorem dX3_perform_99 : decode cX3_perform 99 = .ok (.aload_n 0, 1) := by decide +kernel
theorem dX3_perform_100 : decode cX3_perform 100 = .ok (.getfield 12, 3) := by decide +kernel
theorem dX3_perform_103 : decode cX3_perform 103 = .ok (.aload_n 0, 1) := by decide +kernel
theorem dX3_perform_104 : decode cX3_perform 104 = .ok (.getfield 21, 3) := by decide +kernel
theorem dX3_perform_107 : decode cX3_perform 107 = .ok (.getfield 70, 3) := by decide +kernel
theorem dX3_perform_110 : decode cX3_perform 110 = .ok (.invokevirtual 84, 3) := by decide +kernel
theorem dX3_perform_113 : decode cX3_perform 113 = .ok (.pop, 1) := by decide +kernel
theorem dX3_perform_114 : decode cX3_perform 114 = .ok (.goto 40, 3) := by decide +kernel
theorem dX3_perform_117 : decode cX3_perform 117 = .ok (.aload_n 0, 1) := by decide +kernel
theorem dX3_perform_118 : decode cX3_perform 118 = .ok (.getfield 12, 3) := by decide +kernel
theorem dX3_perform_121 : decode cX3_perform 121 = .ok (.aload_n 0, 1) := by decide +kernel
theorem dX3_perform_122 : decode cX3_perform 122 = .ok (.getfield 21, 3) := by decide +kernel
theorem dX3_perform_125 : decode cX3_perform 125 = .ok (.getfield 70, 3) := by decide +kernel
theorem dX3_perform_128 : decode cX3_perform 128 = .ok (.invokevirtual 87, 3) := by decide +kernel
theorem dX3_perform_131 : decode cX3_perform 131 = .ok (.pop, 1) := by decide +kernel
theorem dX3_perform_132 : decode cX3_perform 132 = .ok (.goto 22, 3) := by decide +kernel
theorem dX3_perform_135 : decode cX3_perform 135 = .ok (.aload_n 0, 1) := by decide +kernel
theorem dX3_perform_136 : decode cX3_perform 136 = .ok (.getfield 12, 3) := by decide +kernel
theorem dX3_perform_139 : decode cX3_perform 139 = .ok (.invokevirtual 90, 3) := by decide +kernel
theorem dX3_perform_142 : decode cX3_perform 142 = .ok (.pop, 1) := by decide +kernel
theorem dX3_perform_143 : decode cX3_perform 143 = .ok (.goto 11, 3) := by decide +kernel
theorem dX3_perform_146 : decode cX3_perform 146 = .ok (.aload_n 0, 1) := by decide +kernel
theorem dX3_perform_147 : decode cX3_perform 147 = .ok (.getfield 12, 3) := by decide +kernel
theorem dX3_perform_150 : decode cX3_perform 150 = .ok (.invokevirtual 94, 3) := by decide +kernel
theorem dX3_perform_153 : decode cX3_perform 153 = .ok (.pop, 1) := by decide +kernel
theorem dX3_perform_154 : decode cX3_perform 154 = .ok (.return_, 1) := by decide +kernel
set_option maxRecDepth 20000 in
theorem ggX4_init_X0_init : GoodIn wsX4_init wsX0_init := goodIn_r _ [26, 27, 2, 3, 28, 29, 30, 31, 32, 33, 34, 35, 36, 37, 38, 39, 40, 41] (by decide +kernel) (by decide +kernel)
set_option maxRecDepth 20000 in
theorem gX4_init_X0_init_n11 : GoodIn wsX4_init (wsX0_init) := ggX4_init_X0_init
theorem dX4_init_0 : decode cX4_init 0 = .ok (.aload_n 0, 1) := by decide +kernel
theorem dX4_init_1 : decode cX4_init 1 = .ok (.invokespecial 3, 3) := by decide +kernel
theorem dX4_init_4 : decode cX4_init 4 = .ok (.aload_n 0, 1) := by decide +kernel
theorem dX4_init_5 : decode cX4_init 5 = .ok (.new 9, 3) := by decide +kernel
theorem dX4_init_8 : decode cX4_init 8 = .ok (.dup, 1) := by decide +kernel
theorem dX4_init_9 : decode cX4_init 9 = .ok (.invokespecial 11, 3) := by decide +kernel
theorem dX4_init_12 : decode cX4_init 12 = .ok (.putfield 12, 3) := by decide +kernel
theorem dX4_init_15 : decode cX4_init 15 = .ok (.aload_n 0, 1) := by decide +kernel
theorem dX4_init_16 : decode cX4_init 16 = .ok (.bipush 64, 2) := by decide +kernel
theorem dX4_init_18 : decode cX4_init 18 = .ok (.newarray .int, 2) := by decide +kernel
theorem dX4_init_20 : decode cX4_init 20 = .ok (.putfield 18, 3) := by decide +kernel
theorem dX4_init_23 : decode cX4_init 23 = .ok (.aload_n 0, 1) := by decide +kernel
theorem dX4_init_24 : decode cX4_init 24 = .ok (.bipush 64, 2) := by decide +kernel
theorem dX4_init_26 : decode cX4_init 26 = .ok (.newarray .int, 2) := by decide +kernel
theorem dX4_init_28 : decode cX4_init 28 = .ok (.putfield 22, 3) := by decide +kernel
theorem dX4_init_31 : decode cX4_init 31 = .ok (.aload_n 0, 1) := by decide +kernel
theorem dX4_init_32 : decode cX4_init 32 = .ok (.bipush 8, 2) := by decide +kernel
theorem dX4_init_34 : decode cX4_init 34 = .ok (.newarray .int, 2) := by decide +kernel
theorem dX4_init_36 : decode cX4_init 36 = .ok (.putfield 25, 3) := by decide +kernel
theorem dX4_init_39 : decode cX4_init 39 = .ok (.aload_n 0, 1) := by decide +kernel
theorem dX4_init_40 : decode cX4_init 40 = .ok (.bipush 8, 2) := by decide +kernel
theorem dX4_init_42 : decode cX4_init 42 = .ok (.newarray .int, 2) := by decide +kernel
theorem dX4_init_44 : decode cX4_init 44 = .ok (.putfield 28, 3) := by decide +kernel
theorem dX4_init_47 : decode cX4_init 47 = .ok (.aload_n 0, 1) := by decide +kernel
theorem dX4_init_48 : decode cX4_init 48 = .ok (.bipush 8, 2) := by decide +kernel
theorem dX4_init_50 : decode cX4_init 50 = .ok (.newarray .int, 2) := by decide +kernel
theorem dX4_init_52 : decode cX4_init 52 = .ok (.putfield 31, 3) := by decide +kernel
theorem dX4_init_55 : decode cX4_init 55 = .ok (.aload_n 0, 1) := by decide +kernel
theorem dX4_init_56 : decode cX4_init 56 = .ok (.bipush 8, 2) := by decide +kernel
theorem dX4_init_58 : decode cX4_init 58 = .ok (.newarray .int, 2) := by decide +kernel
theorem dX4_init_60 : decode cX4_init 60 = .ok (.putfield 34, 3) := by decide +kernel
theorem dX4_init_63 : decode cX4_init 63 = .ok (.aload_n 0, 1) := by decide +kernel
theorem dX4_init_64 : decode cX4_init 64 = .ok (.iconst 0, 1) := by decide +kernel
theorem dX4_init_65 : decode cX4_init 65 = .ok (.putfield 37, 3) := by decide +kernel
theorem dX4_init_68 : decode cX4_init 68 = .ok (.aload_n 0, 1) := by decide +kernel
theorem dX4_init_69 : decode cX4_init 69 = .ok (.iconst 0, 1) := by decide +kernel
theorem dX4_init_70 : decode cX4_init 70 = .ok (.putfield 41, 3) := by decide +kernel
theorem dX4_init_73 : decode cX4_init 73 = .ok (.aload_n 0, 1) := by decide +kernel
theorem dX4_init_74 : decode cX4_init 74 = .ok (.iconst 0, 1) := by decide +kernel
theorem dX4_init_75 : decode cX4_init 75 = .ok (.putfield 44, 3) := by decide +kernel
theorem dX4_init_78 : decode cX4_init 78 = .ok (.aload_n 0, 1) := by decide +kernel
theorem dX4_init_79 : decode cX4_init 79 = .ok (.iconst 0, 1) := by decide +kernel
theorem dX4_init_80 : decode cX4_init 80 = .ok (.putfield 47, 3) := by decide +kernel
theorem dX4_init_83 : decode cX4_init 83 = .ok (.aload_n 0, 1) := by decide +kernel
theorem dX4_init_84 : decode cX4_init 84 = .ok (.iconst 0, 1) := by decide +kernel
theorem dX4_init_85 : decode cX4_init 85 = .ok (.putfield 50, 3) := by decide +kernel
theorem dX4_init_88 : decode cX4_init 88 = .ok (.aload_n 0, 1) := by decide +kernel
theorem dX4_init_89 : decode cX4_init 89 = .ok (.iconst 0, 1) := by decide +kernel
theorem dX4_init_90 : decode cX4_init 90 = .ok (.putfield 53, 3) := by decide +kernel
theorem dX4_init_93 : decode cX4_init 93 = .ok (.aload_n 0, 1) := by decide +kernel
theorem dX4_init_94 : decode cX4_init 94 = .ok (.iconst 0, 1) := by decide +kernel
theorem dX4_init_95 : decode cX4_init 95 = .ok (.putfield 56, 3) := by decide +kernel
theorem dX4_init_98 : decode cX4_init 98 = .ok (.aload_n 0, 1) := by decide +kernel
theorem dX4_init_99 : decode cX4_init 99 = .ok (.iconst 0, 1) := by decide +kernel
theorem dX4_init_100 : decode cX4_init 100 = .ok (.putfield 59, 3) := by decide +kernel
theorem dX4_init_103 : decode cX4_init 103 = .ok (.aload_n 0, 1) := by decide +kernel
theorem dX4_init_104 : decode cX4_init 104 = .ok (.iconst 0, 1) := by decide +kernel
theorem dX4_init_105 : decode cX4_init 105 = .ok (.putfield 62, 3) := by decide +kernel
theorem dX4_init_108 : decode cX4_init 108 = .ok (.aload_n 0, 1) := by decide +kernel
theorem dX4_init_109 : decode cX4_init 109 = .ok (.iconst 0, 1) := by decide +kernel
theorem dX4_init_110 : decode cX4_init 110 = .ok (.putfield 65, 3) := by decide +kernel
theorem dX4_init_113 : decode cX4_init 113 = .ok (.return_, 1) := by decide +kernel
set_option maxRecDepth 20000 in
theorem ggX4_copy_X0_copyFrom : GoodIn wsX4_copy wsX0_copyFrom := goodIn_r _ [22, 23, 24, 25, 26, 27, 28, 29, 58, 59, 60, 61, 62, 63, 64] (by decide +kernel) (by decide +kernel)
set_option maxRecDepth 20000 in
theorem gX4_copy_X0_copyFrom : GoodIn wsX4_copy (wsV RX4 68 RX0 yX0_copyFrom wsX0_copyFrom) := goodIn_app (goodIn_of _ (by decide +kernel)) ggX4_copy_X0_copyFrom
set_option maxRecDepth 20000 in
theorem ggX4_copy_X6_copyRow : GoodIn wsX4_copy wsX6_copyRow := goodIn_r _ [32, 33, 34, 35, 36, 37, 38, 39, 40] (by decide +kernel) (by decide +kernel)
set_option maxRecDepth 20000 in
theorem gX4_copy_X6_copyRow_n72 : GoodIn wsX4_copy (wsX6_copyRow) := ggX4_copy_X6_copyRow
theorem dX4_copy_0 : decode cX4_copy 0 = .ok (.aload_n 0, 1) := by decide +kernel
theorem dX4_copy_1 : decode cX4_copy 1 = .ok (.ifnull 7, 3) := by decide +kernel
theorem dX4_copy_4 : decode cX4_copy 4 = .ok (.aload_n 1, 1) := by decide +kernel
theorem dX4_copy_5 : decode cX4_copy 5 = .ok (.ifnonnull 4, 3) := by decide +kernel
theorem dX4_copy_8 : decode cX4_copy 8 = .ok (.return_, 1) := by decide +kernel
theorem dX4_copy_9 : decode cX4_copy 9 = .ok (.aload_n 1, 1) := by decide +kernel
theorem dX4_copy_10 : decode cX4_copy 10 = .ok (.getfield 12, 3) := by decide +kernel
theorem dX4_copy_13 : decode cX4_copy 13 = .ok (.aload_n 0, 1) := by decide +kernel
theorem dX4_copy_14 : decode cX4_copy 14 = .ok (.getfield 12, 3) := by decide +kernel
theorem dX4_copy_17 : decode cX4_copy 17 = .ok (.invokevirtual 68, 3) := by decide +kernel
theorem dX4_copy_20 : decode cX4_copy 20 = .ok (.aload_n 0, 1) := by decide +kernel
theorem dX4_copy_21 : decode cX4_copy 21 = .ok (.getfield 18, 3) := by decide +kernel
theorem dX4_copy_24 : decode cX4_copy 24 = .ok (.aload_n 1, 1) := by decide +kernel
theorem dX4_copy_25 : decode cX4_copy 25 = .ok (.getfield 18, 3) := by decide +kernel
theorem dX4_copy_28 : decode cX4_copy 28 = .ok (.invokestatic 72, 3) := by decide +kernel
theorem dX4_copy_31 : decode cX4_copy 31 = .ok (.aload_n 0, 1) := by decide +kernel
theorem dX4_copy_32 : decode cX4_copy 32 = .ok (.getfield 22, 3) := by decide +kernel
theorem dX4_copy_35 : decode cX4_copy 35 = .ok (.aload_n 1, 1) := by decide +kernel
theorem dX4_copy_36 : decode cX4_copy 36 = .ok (.getfield 22, 3) := by decide +kernel
theorem dX4_copy_39 : decode cX4_copy 39 = .ok (.invokestatic 72, 3) := by decide +kernel
theorem dX4_copy_42 : decode cX4_copy 42 = .ok (.aload_n 0, 1) := by decide +kernel
theorem dX4_copy_43 : decode cX4_copy 43 = .ok (.getfield 25, 3) := by decide +kernel
theorem dX4_copy_46 : decode cX4_copy 46 = .ok (.aload_n 1, 1) := by decide +kernel
theorem dX4_copy_47 : decode cX4_copy 47 = .ok (.getfield 25, 3) := by decide +kernel
theorem dX4_copy_50 : decode cX4_copy 50 = .ok (.invokestatic 72, 3) := by decide +kernel
theorem dX4_copy_53 : decode cX4_copy 53 = .ok (.aload_n 0, 1) := by decide +kernel
theorem dX4_copy_54 : decode cX4_copy 54 = .ok (.getfield 28, 3) := by decide +kernel
theorem dX4_copy_57 : decode cX4_copy 57 = .ok (.aload_n 1, 1) := by decide +kernel
theorem dX4_copy_58 : decode cX4_copy 58 = .ok (.getfield 28, 3) := by decide +kernel
theorem dX4_copy_61 : decode cX4_copy 61 = .ok (.invokestatic 72, 3) := by decide +kernel
theorem dX4_copy_64 : decode cX4_copy 64 = .ok (.aload_n 0, 1) := by decide +kernel
theorem dX4_copy_65 : decode cX4_copy 65 = .ok (.getfield 31, 3) := by decide +kernel
theorem dX4_copy_68 : decode cX4_copy 68 = .ok (.aload_n 1, 1) := by decide +kernel
theorem dX4_copy_69 : decode cX4_copy 69 = .ok (.getfield 31, 3) := by decide +kernel
theorem dX4_copy_72 : decode cX4_copy 72 = .ok (.invokestatic 72, 3) := by decide +kernel
theorem dX4_copy_75 : decode cX4_copy 75 = .ok (.aload_n 0, 1) := by decide +kernel
theorem dX4_copy_76 : decode cX4_copy 76 = .ok (.getfield 34, 3) := by decide +kernel
theorem dX4_copy_79 : decode cX4_copy 79 = .ok (.aload_n 1, 1) := by decide +kernel
theorem dX4_copy_80 : decode cX4_copy 80 = .ok (.getfield 34, 3) := by decide +kernel
theorem dX4_copy_83 : decode cX4_copy 83 = .ok (.invokestatic 72, 3) := by decide +kernel
theorem dX4_copy_86 : decode cX4_copy 86 = .ok (.aload_n 1, 1) := by decide +kernel
theorem dX4_copy_87 : decode cX4_copy 87 = .ok (.aload_n 0, 1) := by decide +kernel
theorem dX4_copy_88 : decode cX4_copy 88 = .ok (.getfield 37, 3) := by decide +kernel
theorem dX4_copy_91 : decode cX4_copy 91 = .ok (.putfield 37, 3) := by decide +kernel
theorem dX4_copy_94 : decode cX4_copy 94 = .ok (.aload_n 1, 1) := by decide +kernel
theorem dX4_copy_95 : decode cX4_copy 95 = .ok (.aload_n 0, 1) := by decide +kernel
theorem dX4_copy_96 : decode cX4_copy 96 = .ok (.getfield 41, 3) := by decide +kernel
theorem dX4_copy_99 : decode cX4_copy 99 = .ok (.putfield 41, 3) := by decide +kernel
theorem dX4_copy_102 : decode cX4_copy 102 = .ok (.aload_n 1, 1) := by decide +kernel
theorem dX4_copy_103 : decode cX4_copy 103 = .ok (.aload_n 0, 1) := by decide +kernel
theorem dX4_copy_104 : decode cX4_copy 104 = .ok (.getfield 44, 3) := by decide +kernel
theorem dX4_copy_107 : decode cX4_copy 107 = .ok (.putfield 44, 3) := by decide +kernel
theorem dX4_copy_110 : decode cX4_copy 110 = .ok (.aload_n 1, 1) := by decide +kernel
theorem dX4_copy_111 : decode cX4_copy 111 = .ok (.aload_n 0, 1) := by decide +kernel
theorem dX4_copy_112 : decode cX4_copy 112 = .ok (.getfield 47, 3) := by decide +kernel
theorem dX4_copy_115 : decode cX4_copy 115 = .ok (.putfield 47, 3) := by decide +kernel
theorem dX4_copy_118 : decode cX4_copy 118 = .ok (.aload_n 1, 1) := by decide +kernel
theorem dX4_copy_119 : decode cX4_copy 119 = .ok (.aload_n 0, 1) := by decide +kernel
theorem dX4_copy_120 : decode cX4_copy 120 = .ok (.getfield 50, 3) := by decide +kernel
theorem dX4_copy_123 : decode cX4_copy 123 = .ok (.putfield 50, 3) := by decide +kernel
theorem dX4_copy_126 : decode cX4_copy 126 = .ok (.aload_n 1, 1) := by decide +kernel
theorem dX4_copy_127 : decode cX4_copy 127 = .ok (.aload_n 0, 1) := by decide +kernel
theorem dX4_copy_128 : decode cX4_copy 128 = .ok (.getfield 53, 3) := by decide +kernel
theorem dX4_copy_131 : decode cX4_copy 131 = .ok (.putfield 53, 3) := by decide +kernel
theorem dX4_copy_134 : decode cX4_copy 134 = .ok (.aload_n 1, 1) := by decide +kernel
theorem dX4_copy_135 : decode cX4_copy 135 = .ok (.aload_n 0, 1) := by decide +kernel
theorem dX4_copy_136 : decode cX4_copy 136 = .ok (.getfield 56, 3) := by decide +kernel
theorem dX4_copy_139 : decode cX4_copy 139 = .ok (.putfield 56, 3) := by decide +kernel
theorem dX4_copy_142 : decode cX4_copy 142 = .ok (.aload_n 1, 1) := by decide +kernel
theorem dX4_copy_143 : decode cX4_copy 143 = .ok (.aload_n 0, 1) := by decide +kernel
theorem dX4_copy_144 : decode cX4_copy 144 = .ok (.getfield 59, 3) := by decide +kernel
theorem dX4_copy_147 : decode cX4_copy 147 = .ok (.putfield 59, 3) := by decide +kernel
theorem dX4_copy_150 : decode cX4_copy 150 = .ok (.aload_n 1, 1) := by decide +kernel
theorem dX4_copy_151 : decode cX4_copy 151 = .ok (.aload_n 0, 1) := by decide +kernel
theorem dX4_copy_152 : decode cX4_copy 152 = .ok (.getfield 62, 3) := by decide +kernel
theorem dX4_copy_155 : decode cX4_copy 155 = .ok (.putfield 62, 3) := by decide +kernel
theorem dX4_copy_158 : decode cX4_copy 158 = .ok (.aload_n 1, 1) := by decide +kernel
theorem dX4_copy_159 : decode cX4_copy 159 = .ok (.aload_n 0, 1) := by decide +kernel
theorem dX4_copy_160 : decode cX4_copy 160 = .ok (.getfield 65, 3) := by decide +kernel
theorem dX4_copy_163 : decode cX4_copy 163 = .ok (.putfield 65, 3) := by decide +kernel
theorem dX4_copy_166 : decode cX4_copy 166 = .ok (.return_, 1) := by decide +kernel
set_option maxRecDepth 20000 in
theorem ggX4_readPlace_X4_lineFor : GoodIn wsX4_readPlace wsX4_lineFor := goodIn_r _ [6, 7, 8, 9, 10, 11, 12, 13, 5, 14, 15, 16, 17, 18, 19, 20, 21, 22, 23, 24, 25, 26, 27, 28, 29, 30, 31, 32, 33, 34, 35, 1, 36, 37, 38, 39, 40, 41, 42, 43, 44, 45, 46, 47, 48, 49, 50, 51, 52, 53, 54, 55, 56, 57, 58, 59, 60, 61, 62, 63, 64, 65, 66] (by decide +kernel) (by decide +kernel)
set_option maxRecDepth 20000 in
theorem gX4_readPlace_X4_lineFor : GoodIn wsX4_readPlace (wsV RX4 76 RX4 yX4_lineFor wsX4_lineFor) := goodIn_app (goodIn_of _ (by decide +kernel)) ggX4_readPlace_X4_lineFor
set_option maxRecDepth 20000 in
theorem ggX4_readPlace_X6_isLine : GoodIn wsX4_readPlace wsX6_isLine := goodIn_r _ [19] (by decide +kernel) (by decide +kernel)
set_option maxRecDepth 20000 in
theorem gX4_readPlace_X6_isLine_n80 : GoodIn wsX4_readPlace (wsX6_isLine) := ggX4_readPlace_X6_isLine
theorem dX4_readPlace_0 : decode cX4_readPlace 0 = .ok (.aload_n 0, 1) := by decide +kernel
theorem dX4_readPlace_1 : decode cX4_readPlace 1 = .ok (.iload_n 1, 1) := by decide +kernel
theorem dX4_readPlace_2 : decode cX4_readPlace 2 = .ok (.invokevirtual 76, 3) := by decide +kernel
theorem dX4_readPlace_5 : decode cX4_readPlace 5 = .ok (.istore_n 2, 1) := by decide +kernel
theorem dX4_readPlace_6 : decode cX4_readPlace 6 = .ok (.iload_n 2, 1) := by decide +kernel
theorem dX4_readPlace_7 : decode cX4_readPlace 7 = .ok (.invokestatic 80, 3) := by decide +kernel
theorem dX4_readPlace_10 : decode cX4_readPlace 10 = .ok (.ifCond .eq 12, 3) := by decide +kernel
theorem dX4_readPlace_13 : decode cX4_readPlace 13 = .ok (.aload_n 0, 1) := by decide +kernel
theorem dX4_readPlace_14 : decode cX4_readPlace 14 = .ok (.getfield 31, 3) := by decide +kernel
theorem dX4_readPlace_17 : decode cX4_readPlace 17 = .ok (.iload_n 2, 1) := by decide +kernel
theorem dX4_readPlace_18 : decode cX4_readPlace 18 = .ok (.iaload, 1) := by decide +kernel
theorem dX4_readPlace_19 : decode cX4_readPlace 19 = .ok (.goto 4, 3) := by decide +kernel
theorem dX4_readPlace_22 : decode cX4_readPlace 22 = .ok (.iconst 0, 1) := by decide +kernel
theorem dX4_readPlace_23 : decode cX4_readPlace 23 = .ok (.ireturn, 1) := by decide +kernel
set_option maxRecDepth 20000 in
theorem ggX4_writePlace_X4_lineFor : GoodIn wsX4_writePlace wsX4_lineFor := goodIn_r _ [9, 10, 11, 12, 13, 14, 15, 16, 8, 17, 2, 18, 19, 20, 21, 22, 23, 24, 25, 26, 27, 28, 29, 30, 31, 32, 33, 34, 35, 36, 37, 1, 38, 39, 40, 41, 42, 43, 44, 45, 46, 47, 48, 49, 50, 51, 84, 85, 86, 87, 88, 89, 90, 91, 92, 93, 94, 95, 96, 97, 98, 99, 100] (by decide +kernel) (by decide +kernel)
set_option maxRecDepth 20000 in
theorem gX4_writePlace_X4_lineFor : GoodIn wsX4_writePlace (wsV RX4 76 RX4 yX4_lineFor wsX4_lineFor) := goodIn_app (goodIn_of _ (by decide +kernel)) ggX4_writePlace_X4_lineFor
set_option maxRecDepth 20000 in
theorem ggX4_writePlace_X6_isLine : GoodIn wsX4_writePlace wsX6_isLine := goodIn_r _ [21] (by decide +kernel) (by decide +kernel)
set_option maxRecDepth 20000 in
theorem gX4_writePlace_X6_isLine_n80 : GoodIn wsX4_writePlace (wsX6_isLine) := ggX4_writePlace_X6_isLine
set_option maxRecDepth 20000 in
theorem ggX4_writePlace_X4_numberOf : GoodIn wsX4_writePlace wsX4_numberOf := goodIn_r _ [55, 56, 57, 58, 8, 59, 2, 60, 61, 62, 63, 64, 65, 66, 84, 85, 86, 87, 88, 89, 90, 91, 92, 93, 94, 95, 96, 97, 98, 99, 100] (by decide +kernel) (by decide +kernel)
set_option maxRecDepth 20000 in
theorem gX4_writePlace_X4_numberOf : GoodIn wsX4_writePlace (wsV RX4 84 RX4 yX4_numberOf wsX4_numberOf) := goodIn_app (goodIn_of _ (by decide +kernel)) ggX4_writePlace_X4_numberOf
set_option maxRecDepth 20000 in
theorem ggX4_writePlace_X0_allowance : GoodIn wsX4_writePlace wsX0_allowance := goodIn_r _ [71, 72, 73, 74, 75, 70, 76, 77, 78, 79, 80, 81, 82, 83, 101, 102, 103, 104, 105, 106, 107] (by decide +kernel) (by decide +kernel)
set_option maxRecDepth 20000 in
theorem gX4_writePlace_X0_allowance : GoodIn wsX4_writePlace (wsV RX4 87 RX0 yX0_allowance wsX0_allowance) := goodIn_app (goodIn_of _ (by decide +kernel)) ggX4_writePlace_X0_allowance
set_option maxRecDepth 20000 in
theorem ggX4_writePlace_X4_layOnDisk : GoodIn wsX4_writePlace wsX4_layOnDisk := goodIn_r _ [42, 43, 44, 45, 46, 20, 47, 84, 85, 86, 87, 88, 89, 90, 91, 92, 93, 94, 95, 96, 97, 98, 99, 100] (by decide +kernel) (by decide +kernel)
set_option maxRecDepth 20000 in
theorem gX4_writePlace_X4_layOnDisk : GoodIn wsX4_writePlace (wsV RX4 91 RX4 yX4_layOnDisk wsX4_layOnDisk) := goodIn_app (goodIn_of _ (by decide +kernel)) ggX4_writePlace_X4_layOnDisk
theorem dX4_writePlace_0 : decode cX4_writePlace 0 = .ok (.aload_n 0, 1) := by decide +kernel
theorem dX4_writePlace_1 : decode cX4_writePlace 1 = .ok (.iload_n 1, 1) := by decide +kernel
theorem dX4_writePlace_2 : decode cX4_writePlace 2 = .ok (.invokevirtual 76, 3) := by decide +kernel
theorem dX4_writePlace_5 : decode cX4_writePlace 5 = .ok (.istore_n 3, 1) := by decide +kernel
theorem dX4_writePlace_6 : decode cX4_writePlace 6 = .ok (.iload_n 3, 1) := by decide +kernel
theorem dX4_writePlace_7 : decode cX4_writePlace 7 = .ok (.invokestatic 80, 3) := by decide +kernel
theorem dX4_writePlace_10 : decode cX4_writePlace 10 = .ok (.ifCond .ne 5, 3) := by decide +kernel
theorem dX4_writePlace_13 : decode cX4_writePlace 13 = .ok (.iconst 0, 1) := by decide +kernel
theorem dX4_writePlace_14 : decode cX4_writePlace 14 = .ok (.ireturn, 1) := by decide +kernel
theorem dX4_writePlace_15 : decode cX4_writePlace 15 = .ok (.aload_n 0, 1) := by decide +kernel
theorem dX4_writePlace_16 : decode cX4_writePlace 16 = .ok (.getfield 31, 3) := by decide +kernel
theorem dX4_writePlace_19 : decode cX4_writePlace 19 = .ok (.iload_n 3, 1) := by decide +kernel
theorem dX4_writePlace_20 : decode cX4_writePlace 20 = .ok (.iload_n 2, 1) := by decide +kernel
theorem dX4_writePlace_21 : decode cX4_writePlace 21 = .ok (.iastore, 1) := by decide +kernel
theorem dX4_writePlace_22 : decode cX4_writePlace 22 = .ok (.aload_n 0, 1) := by decide +kernel
theorem dX4_writePlace_23 : decode cX4_writePlace 23 = .ok (.getfield 25, 3) := by decide +kernel
theorem dX4_writePlace_26 : decode cX4_writePlace 26 = .ok (.iload_n 3, 1) := by decide +kernel
theorem dX4_writePlace_27 : decode cX4_writePlace 27 = .ok (.iaload, 1) := by decide +kernel
theorem dX4_writePlace_28 : decode cX4_writePlace 28 = .ok (.iconst 2, 1) := by decide +kernel
theorem dX4_writePlace_29 : decode cX4_writePlace 29 = .ok (.if_icmp .eq 18, 3) := by decide +kernel
theorem dX4_writePlace_32 : decode cX4_writePlace 32 = .ok (.aload_n 0, 1) := by decide +kernel
theorem dX4_writePlace_33 : decode cX4_writePlace 33 = .ok (.iconst 2, 1) := by decide +kernel
theorem dX4_writePlace_34 : decode cX4_writePlace 34 = .ok (.invokevirtual 84, 3) := by decide +kernel
theorem dX4_writePlace_37 : decode cX4_writePlace 37 = .ok (.aload_n 0, 1) := by decide +kernel
theorem dX4_writePlace_38 : decode cX4_writePlace 38 = .ok (.getfield 12, 3) := by decide +kernel
theorem dX4_writePlace_41 : decode cX4_writePlace 41 = .ok (.invokevirtual 87, 3) := by decide +kernel
theorem dX4_writePlace_44 : decode cX4_writePlace 44 = .ok (.if_icmp .ge 12, 3) := by decide +kernel
theorem dX4_writePlace_47 : decode cX4_writePlace 47 = .ok (.aload_n 0, 1) := by decide +kernel
theorem dX4_writePlace_48 : decode cX4_writePlace 48 = .ok (.getfield 25, 3) := by decide +kernel
theorem dX4_writePlace_51 : decode cX4_writePlace 51 = .ok (.iload_n 3, 1) := by decide +kernel
theorem dX4_writePlace_52 : decode cX4_writePlace 52 = .ok (.iconst 2, 1) := by decide +kernel
theorem dX4_writePlace_53 : decode cX4_writePlace 53 = .ok (.iastore, 1) := by decide +kernel
theorem dX4_writePlace_54 : decode cX4_writePlace 54 = .ok (.iconst 0, 1) := by decide +kernel
theorem dX4_writePlace_55 : decode cX4_writePlace 55 = .ok (.ireturn, 1) := by decide +kernel
theorem dX4_writePlace_56 : decode cX4_writePlace 56 = .ok (.aload_n 0, 1) := by decide +kernel
theorem dX4_writePlace_57 : decode cX4_writePlace 57 = .ok (.iload_n 1, 1) := by decide +kernel
theorem dX4_writePlace_58 : decode cX4_writePlace 58 = .ok (.iload_n 2, 1) := by decide +kernel
theorem dX4_writePlace_59 : decode cX4_writePlace 59 = .ok (.invokevirtual 91, 3) := by decide +kernel
theorem dX4_writePlace_62 : decode cX4_writePlace 62 = .ok (.aload_n 0, 1) := by decide +kernel
theorem dX4_writePlace_63 : decode cX4_writePlace 63 = .ok (.dup, 1) := by decide +kernel
theorem dX4_writePlace_64 : decode cX4_writePlace 64 = .ok (.getfield 53, 3) := by decide +kernel
theorem dX4_writePlace_67 : decode cX4_writePlace 67 = .ok (.iconst 1, 1) := by decide +kernel
theorem dX4_writePlace_68 : decode cX4_writePlace 68 = .ok (.iadd, 1) := by decide +kernel
theorem dX4_writePlace_69 : decode cX4_writePlace 69 = .ok (.putfield 53, 3) := by decide +kernel
theorem dX4_writePlace_72 : decode cX4_writePlace 72 = .ok (.iconst 1, 1) := by decide +kernel
theorem dX4_writePlace_73 : decode cX4_writePlace 73 = .ok (.ireturn, 1) := by decide +kernel
set_option maxRecDepth 20000 in
theorem ggX4_lineFor_X4_holderOf : GoodIn wsX4_lineFor wsX4_holderOf := goodIn_r _ [9, 10, 11, 46, 47, 48, 49, 50, 51, 52, 53, 54, 55, 56, 57, 58, 59, 60, 61, 62] (by decide +kernel) (by decide +kernel)
set_option maxRecDepth 20000 in
theorem gX4_lineFor_X4_holderOf : GoodIn wsX4_lineFor (wsV RX4 95 RX4 yX4_holderOf wsX4_holderOf) := goodIn_app (goodIn_of _ (by decide +kernel)) ggX4_lineFor_X4_holderOf
set_option maxRecDepth 20000 in
theorem ggX4_lineFor_X6_isLine : GoodIn wsX4_lineFor wsX6_isLine := goodIn_r _ [14] (by decide +kernel) (by decide +kernel)
set_option maxRecDepth 20000 in
theorem gX4_lineFor_X6_isLine_n80 : GoodIn wsX4_lineFor (wsX6_isLine) := ggX4_lineFor_X6_isLine
set_option maxRecDepth 20000 in
theorem ggX4_lineFor_X4_lineToTake : GoodIn wsX4_lineFor wsX4_lineToTake := goodIn_r _ [18, 19, 20, 21, 8, 22, 10, 23, 24, 25, 26, 4, 46, 47, 48, 49, 50, 51, 52, 53, 54, 55, 56, 57, 58, 59, 60, 61, 62] (by decide +kernel) (by decide +kernel)
set_option maxRecDepth 20000 in
theorem gX4_lineFor_X4_lineToTake : GoodIn wsX4_lineFor (wsV RX4 98 RX4 yX4_lineToTake wsX4_lineToTake) := goodIn_app (goodIn_of _ (by decide +kernel)) ggX4_lineFor_X4_lineToTake
set_option maxRecDepth 20000 in
theorem ggX4_lineFor_X4_flushLine : GoodIn wsX4_lineFor wsX4_flushLine := goodIn_r _ [30, 10, 11, 31, 32, 12, 13, 14, 33, 34, 35, 8, 36, 37, 38, 39, 40, 41, 46, 47, 48, 49, 50, 51, 52, 53, 54, 55, 56, 57, 58, 59, 60, 61, 62] (by decide +kernel) (by decide +kernel)
set_option maxRecDepth 20000 in
theorem gX4_lineFor_X4_flushLine : GoodIn wsX4_lineFor (wsV RX4 101 RX4 yX4_flushLine wsX4_flushLine) := goodIn_app (goodIn_of _ (by decide +kernel)) ggX4_lineFor_X4_flushLine
set_option maxRecDepth 20000 in
theorem ggX4_lineFor_X4_layIntoLine : GoodIn wsX4_lineFor wsX4_layIntoLine := goodIn_r _ [45, 10, 11, 31, 37, 12, 13, 14, 40, 41, 46, 47, 48, 49, 50, 51, 52, 53, 54, 55, 56, 57, 58, 59, 60, 61, 62] (by decide +kernel) (by decide +kernel)
set_option maxRecDepth 20000 in
theorem gX4_lineFor_X4_layIntoLine : GoodIn wsX4_lineFor (wsV RX4 105 RX4 yX4_layIntoLine wsX4_layIntoLine) := goodIn_app (goodIn_of _ (by decide +kernel)) ggX4_lineFor_X4_layIntoLine
theorem dX4_lineFor_0 : decode cX4_lineFor 0 = .ok (.aload_n 0, 1) := by decide +kernel
theorem dX4_lineFor_1 : decode cX4_lineFor 1 = .ok (.iload_n 1, 1) := by decide +kernel
theorem dX4_lineFor_2 : decode cX4_lineFor 2 = .ok (.invokevirtual 95, 3) := by decide +kernel
theorem dX4_lineFor_5 : decode cX4_lineFor 5 = .ok (.istore_n 2, 1) := by decide +kernel
theorem dX4_lineFor_6 : decode cX4_lineFor 6 = .ok (.iload_n 2, 1) := by decide +kernel
theorem dX4_lineFor_7 : decode cX4_lineFor 7 = .ok (.invokestatic 80, 3) := by decide +kernel
theorem dX4_lineFor_10 : decode cX4_lineFor 10 = .ok (.ifCond .eq 16, 3) := by decide +kernel
theorem dX4_lineFor_13 : decode cX4_lineFor 13 = .ok (.aload_n 0, 1) := by decide +kernel
theorem dX4_lineFor_14 : decode cX4_lineFor 14 = .ok (.dup, 1) := by decide +kernel
theorem dX4_lineFor_15 : decode cX4_lineFor 15 = .ok (.getfield 44, 3) := by decide +kernel
theorem dX4_lineFor_18 : decode cX4_lineFor 18 = .ok (.iconst 1, 1) := by decide +kernel
theorem dX4_lineFor_19 : decode cX4_lineFor 19 = .ok (.iadd, 1) := by decide +kernel
theorem dX4_lineFor_20 : decode cX4_lineFor 20 = .ok (.putfield 44, 3) := by decide +kernel
theorem dX4_lineFor_23 : decode cX4_lineFor 23 = .ok (.goto 29, 3) := by decide +kernel
theorem dX4_lineFor_26 : decode cX4_lineFor 26 = .ok (.aload_n 0, 1) := by decide +kernel
theorem dX4_lineFor_27 : decode cX4_lineFor 27 = .ok (.dup, 1) := by decide +kernel
theorem dX4_lineFor_28 : decode cX4_lineFor 28 = .ok (.getfield 47, 3) := by decide +kernel
theorem dX4_lineFor_31 : decode cX4_lineFor 31 = .ok (.iconst 1, 1) := by decide +kernel
theorem dX4_lineFor_32 : decode cX4_lineFor 32 = .ok (.iadd, 1) := by decide +kernel
theorem dX4_lineFor_33 : decode cX4_lineFor 33 = .ok (.putfield 47, 3) := by decide +kernel
theorem dX4_lineFor_36 : decode cX4_lineFor 36 = .ok (.aload_n 0, 1) := by decide +kernel
theorem dX4_lineFor_37 : decode cX4_lineFor 37 = .ok (.invokevirtual 98, 3) := by decide +kernel
theorem dX4_lineFor_40 : decode cX4_lineFor 40 = .ok (.istore_n 2, 1) := by decide +kernel
theorem dX4_lineFor_41 : decode cX4_lineFor 41 = .ok (.aload_n 0, 1) := by decide +kernel
theorem dX4_lineFor_42 : decode cX4_lineFor 42 = .ok (.iload_n 2, 1) := by decide +kernel
theorem dX4_lineFor_43 : decode cX4_lineFor 43 = .ok (.invokevirtual 101, 3) := by decide +kernel
theorem dX4_lineFor_46 : decode cX4_lineFor 46 = .ok (.aload_n 0, 1) := by decide +kernel
theorem dX4_lineFor_47 : decode cX4_lineFor 47 = .ok (.iload_n 2, 1) := by decide +kernel
theorem dX4_lineFor_48 : decode cX4_lineFor 48 = .ok (.iload_n 1, 1) := by decide +kernel
theorem dX4_lineFor_49 : decode cX4_lineFor 49 = .ok (.invokevirtual 105, 3) := by decide +kernel
theorem dX4_lineFor_52 : decode cX4_lineFor 52 = .ok (.iload_n 2, 1) := by decide +kernel
theorem dX4_lineFor_53 : decode cX4_lineFor 53 = .ok (.invokestatic 80, 3) := by decide +kernel
theorem dX4_lineFor_56 : decode cX4_lineFor 56 = .ok (.ifCond .eq 23, 3) := by decide +kernel
theorem dX4_lineFor_59 : decode cX4_lineFor 59 = .ok (.aload_n 0, 1) := by decide +kernel
theorem dX4_lineFor_60 : decode cX4_lineFor 60 = .ok (.dup, 1) := by decide +kernel
theorem dX4_lineFor_61 : decode cX4_lineFor 61 = .ok (.getfield 37, 3) := by decide +kernel
theorem dX4_lineFor_64 : decode cX4_lineFor 64 = .ok (.iconst 1, 1) := by decide +kernel
theorem dX4_lineFor_65 : decode cX4_lineFor 65 = .ok (.iadd, 1) := by decide +kernel
theorem dX4_lineFor_66 : decode cX4_lineFor 66 = .ok (.putfield 37, 3) := by decide +kernel
theorem dX4_lineFor_69 : decode cX4_lineFor 69 = .ok (.aload_n 0, 1) := by decide +kernel
theorem dX4_lineFor_70 : decode cX4_lineFor 70 = .ok (.getfield 34, 3) := by decide +kernel
theorem dX4_lineFor_73 : decode cX4_lineFor 73 = .ok (.iload_n 2, 1) := by decide +kernel
theorem dX4_lineFor_74 : decode cX4_lineFor 74 = .ok (.aload_n 0, 1) := by decide +kernel
theorem dX4_lineFor_75 : decode cX4_lineFor 75 = .ok (.getfield 37, 3) := by decide +kernel
theorem dX4_lineFor_78 : decode cX4_lineFor 78 = .ok (.iastore, 1) := by decide +kernel
theorem dX4_lineFor_79 : decode cX4_lineFor 79 = .ok (.iload_n 2, 1) := by decide +kernel
theorem dX4_lineFor_80 : decode cX4_lineFor 80 = .ok (.ireturn, 1) := by decide +kernel
set_option maxRecDepth 20000 in
theorem ggX4_lineToTake_X4_lowestEmpty : GoodIn wsX4_lineToTake wsX4_lowestEmpty := goodIn_r _ [5, 6, 12, 13, 14, 15, 16, 17, 18, 19, 20, 21, 22, 23, 24, 25, 26, 27, 28] (by decide +kernel) (by decide +kernel)
set_option maxRecDepth 20000 in
theorem gX4_lineToTake_X4_lowestEmpty : GoodIn wsX4_lineToTake (wsV RX4 108 RX4 yX4_lowestEmpty wsX4_lowestEmpty) := goodIn_app (goodIn_of _ (by decide +kernel)) ggX4_lineToTake_X4_lowestEmpty
set_option maxRecDepth 20000 in
theorem ggX4_lineToTake_X4_lowestTurn : GoodIn wsX4_lineToTake wsX4_lowestTurn := goodIn_r _ [10, 6, 11, 12, 13, 14, 15, 16, 17, 18, 19, 20, 21, 22, 23, 24, 25, 26, 27, 28] (by decide +kernel) (by decide +kernel)
set_option maxRecDepth 20000 in
theorem gX4_lineToTake_X4_lowestTurn : GoodIn wsX4_lineToTake (wsV RX4 111 RX4 yX4_lowestTurn wsX4_lowestTurn) := goodIn_app (goodIn_of _ (by decide +kernel)) ggX4_lineToTake_X4_lowestTurn
theorem dX4_lineToTake_0 : decode cX4_lineToTake 0 = .ok (.aload_n 0, 1) := by decide +kernel
theorem dX4_lineToTake_1 : decode cX4_lineToTake 1 = .ok (.invokevirtual 108, 3) := by decide +kernel
theorem dX4_lineToTake_4 : decode cX4_lineToTake 4 = .ok (.istore_n 1, 1) := by decide +kernel
theorem dX4_lineToTake_5 : decode cX4_lineToTake 5 = .ok (.iload_n 1, 1) := by decide +kernel
theorem dX4_lineToTake_6 : decode cX4_lineToTake 6 = .ok (.iconst (-1), 1) := by decide +kernel
theorem dX4_lineToTake_7 : decode cX4_lineToTake 7 = .ok (.if_icmp .ne 9, 3) := by decide +kernel
theorem dX4_lineToTake_10 : decode cX4_lineToTake 10 = .ok (.aload_n 0, 1) := by decide +kernel
theorem dX4_lineToTake_11 : decode cX4_lineToTake 11 = .ok (.iconst 1, 1) := by decide +kernel
theorem dX4_lineToTake_12 : decode cX4_lineToTake 12 = .ok (.invokevirtual 111, 3) := by decide +kernel
theorem dX4_lineToTake_15 : decode cX4_lineToTake 15 = .ok (.istore_n 1, 1) := by decide +kernel
theorem dX4_lineToTake_16 : decode cX4_lineToTake 16 = .ok (.iload_n 1, 1) := by decide +kernel
theorem dX4_lineToTake_17 : decode cX4_lineToTake 17 = .ok (.iconst (-1), 1) := by decide +kernel
theorem dX4_lineToTake_18 : decode cX4_lineToTake 18 = .ok (.if_icmp .ne 9, 3) := by decide +kernel
theorem dX4_lineToTake_21 : decode cX4_lineToTake 21 = .ok (.aload_n 0, 1) := by decide +kernel
theorem dX4_lineToTake_22 : decode cX4_lineToTake 22 = .ok (.iconst 2, 1) := by decide +kernel
theorem dX4_lineToTake_23 : decode cX4_lineToTake 23 = .ok (.invokevirtual 111, 3) := by decide +kernel
theorem dX4_lineToTake_26 : decode cX4_lineToTake 26 = .ok (.istore_n 1, 1) := by decide +kernel
theorem dX4_lineToTake_27 : decode cX4_lineToTake 27 = .ok (.iload_n 1, 1) := by decide +kernel
theorem dX4_lineToTake_28 : decode cX4_lineToTake 28 = .ok (.ireturn, 1) := by decide +kernel
set_option maxRecDepth 20000 in
theorem ggX4_layIntoLine_X6_isLine : GoodIn wsX4_layIntoLine wsX6_isLine := goodIn_r _ [7] (by decide +kernel) (by decide +kernel)
set_option maxRecDepth 20000 in
theorem gX4_layIntoLine_X6_isLine_n80 : GoodIn wsX4_layIntoLine (wsX6_isLine) := ggX4_layIntoLine_X6_isLine
set_option maxRecDepth 20000 in
theorem ggX4_layIntoLine_X6_isPlace : GoodIn wsX4_layIntoLine wsX6_isPlace := goodIn_r _ [9] (by decide +kernel) (by decide +kernel)
set_option maxRecDepth 20000 in
theorem gX4_layIntoLine_X6_isPlace_n114 : GoodIn wsX4_layIntoLine (wsX6_isPlace) := ggX4_layIntoLine_X6_isPlace
theorem dX4_layIntoLine_0 : decode cX4_layIntoLine 0 = .ok (.iload_n 1, 1) := by decide +kernel
theorem dX4_layIntoLine_1 : decode cX4_layIntoLine 1 = .ok (.invokestatic 80, 3) := by decide +kernel
theorem dX4_layIntoLine_4 : decode cX4_layIntoLine 4 = .ok (.ifCond .eq 36, 3) := by decide +kernel
theorem dX4_layIntoLine_7 : decode cX4_layIntoLine 7 = .ok (.iload_n 2, 1) := by decide +kernel
theorem dX4_layIntoLine_8 : decode cX4_layIntoLine 8 = .ok (.invokestatic 114, 3) := by decide +kernel
theorem dX4_layIntoLine_11 : decode cX4_layIntoLine 11 = .ok (.ifCond .eq 29, 3) := by decide +kernel
theorem dX4_layIntoLine_14 : decode cX4_layIntoLine 14 = .ok (.aload_n 0, 1) := by decide +kernel
theorem dX4_layIntoLine_15 : decode cX4_layIntoLine 15 = .ok (.getfield 25, 3) := by decide +kernel
theorem dX4_layIntoLine_18 : decode cX4_layIntoLine 18 = .ok (.iload_n 1, 1) := by decide +kernel
theorem dX4_layIntoLine_19 : decode cX4_layIntoLine 19 = .ok (.iconst 1, 1) := by decide +kernel
theorem dX4_layIntoLine_20 : decode cX4_layIntoLine 20 = .ok (.iastore, 1) := by decide +kernel
theorem dX4_layIntoLine_21 : decode cX4_layIntoLine 21 = .ok (.aload_n 0, 1) := by decide +kernel
theorem dX4_layIntoLine_22 : decode cX4_layIntoLine 22 = .ok (.getfield 28, 3) := by decide +kernel
theorem dX4_layIntoLine_25 : decode cX4_layIntoLine 25 = .ok (.iload_n 1, 1) := by decide +kernel
theorem dX4_layIntoLine_26 : decode cX4_layIntoLine 26 = .ok (.iload_n 2, 1) := by decide +kernel
theorem dX4_layIntoLine_27 : decode cX4_layIntoLine 27 = .ok (.iastore, 1) := by decide +kernel
theorem dX4_layIntoLine_28 : decode cX4_layIntoLine 28 = .ok (.aload_n 0, 1) := by decide +kernel
theorem dX4_layIntoLine_29 : decode cX4_layIntoLine 29 = .ok (.getfield 31, 3) := by decide +kernel
theorem dX4_layIntoLine_32 : decode cX4_layIntoLine 32 = .ok (.iload_n 1, 1) := by decide +kernel
theorem dX4_layIntoLine_33 : decode cX4_layIntoLine 33 = .ok (.aload_n 0, 1) := by decide +kernel
theorem dX4_layIntoLine_34 : decode cX4_layIntoLine 34 = .ok (.getfield 18, 3) := by decide +kernel
theorem dX4_layIntoLine_37 : decode cX4_layIntoLine 37 = .ok (.iload_n 2, 1) := by decide +kernel
theorem dX4_layIntoLine_38 : decode cX4_layIntoLine 38 = .ok (.iaload, 1) := by decide +kernel
theorem dX4_layIntoLine_39 : decode cX4_layIntoLine 39 = .ok (.iastore, 1) := by decide +kernel
theorem dX4_layIntoLine_40 : decode cX4_layIntoLine 40 = .ok (.return_, 1) := by decide +kernel
set_option maxRecDepth 20000 in
theorem ggX4_flushLine_X6_isLine : GoodIn wsX4_flushLine wsX6_isLine := goodIn_r _ [7] (by decide +kernel) (by decide +kernel)
set_option maxRecDepth 20000 in
theorem gX4_flushLine_X6_isLine_n80 : GoodIn wsX4_flushLine (wsX6_isLine) := ggX4_flushLine_X6_isLine
set_option maxRecDepth 20000 in
theorem ggX4_flushLine_X4_layOnDisk : GoodIn wsX4_flushLine wsX4_layOnDisk := goodIn_r _ [12, 13, 14, 15, 16, 6, 17, 18, 19, 20, 21, 22, 23, 24, 25, 26, 27, 28, 29, 30, 31, 32, 33, 34] (by decide +kernel) (by decide +kernel)
set_option maxRecDepth 20000 in
theorem gX4_flushLine_X4_layOnDisk : GoodIn wsX4_flushLine (wsV RX4 91 RX4 yX4_layOnDisk wsX4_layOnDisk) := goodIn_app (goodIn_of _ (by decide +kernel)) ggX4_flushLine_X4_layOnDisk
theorem dX4_flushLine_0 : decode cX4_flushLine 0 = .ok (.iload_n 1, 1) := by decide +kernel
theorem dX4_flushLine_1 : decode cX4_flushLine 1 = .ok (.invokestatic 80, 3) := by decide +kernel
theorem dX4_flushLine_4 : decode cX4_flushLine 4 = .ok (.ifCond .eq 46, 3) := by decide +kernel
theorem dX4_flushLine_7 : decode cX4_flushLine 7 = .ok (.aload_n 0, 1) := by decide +kernel
theorem dX4_flushLine_8 : decode cX4_flushLine 8 = .ok (.getfield 25, 3) := by decide +kernel
theorem dX4_flushLine_11 : decode cX4_flushLine 11 = .ok (.iload_n 1, 1) := by decide +kernel
theorem dX4_flushLine_12 : decode cX4_flushLine 12 = .ok (.iaload, 1) := by decide +kernel
theorem dX4_flushLine_13 : decode cX4_flushLine 13 = .ok (.iconst 2, 1) := by decide +kernel
theorem dX4_flushLine_14 : decode cX4_flushLine 14 = .ok (.if_icmp .ne 36, 3) := by decide +kernel
theorem dX4_flushLine_17 : decode cX4_flushLine 17 = .ok (.aload_n 0, 1) := by decide +kernel
theorem dX4_flushLine_18 : decode cX4_flushLine 18 = .ok (.getfield 25, 3) := by decide +kernel
theorem dX4_flushLine_21 : decode cX4_flushLine 21 = .ok (.iload_n 1, 1) := by decide +kernel
theorem dX4_flushLine_22 : decode cX4_flushLine 22 = .ok (.iconst 1, 1) := by decide +kernel
theorem dX4_flushLine_23 : decode cX4_flushLine 23 = .ok (.iastore, 1) := by decide +kernel
theorem dX4_flushLine_24 : decode cX4_flushLine 24 = .ok (.aload_n 0, 1) := by decide +kernel
theorem dX4_flushLine_25 : decode cX4_flushLine 25 = .ok (.aload_n 0, 1) := by decide +kernel
theorem dX4_flushLine_26 : decode cX4_flushLine 26 = .ok (.getfield 28, 3) := by decide +kernel
theorem dX4_flushLine_29 : decode cX4_flushLine 29 = .ok (.iload_n 1, 1) := by decide +kernel
theorem dX4_flushLine_30 : decode cX4_flushLine 30 = .ok (.iaload, 1) := by decide +kernel
theorem dX4_flushLine_31 : decode cX4_flushLine 31 = .ok (.aload_n 0, 1) := by decide +kernel
theorem dX4_flushLine_32 : decode cX4_flushLine 32 = .ok (.getfield 31, 3) := by decide +kernel
theorem dX4_flushLine_35 : decode cX4_flushLine 35 = .ok (.iload_n 1, 1) := by decide +kernel
theorem dX4_flushLine_36 : decode cX4_flushLine 36 = .ok (.iaload, 1) := by decide +kernel
theorem dX4_flushLine_37 : decode cX4_flushLine 37 = .ok (.invokevirtual 91, 3) := by decide +kernel
theorem dX4_flushLine_40 : decode cX4_flushLine 40 = .ok (.aload_n 0, 1) := by decide +kernel
theorem dX4_flushLine_41 : decode cX4_flushLine 41 = .ok (.dup, 1) := by decide +kernel
theorem dX4_flushLine_42 : decode cX4_flushLine 42 = .ok (.getfield 50, 3) := by decide +kernel
theorem dX4_flushLine_45 : decode cX4_flushLine 45 = .ok (.iconst 1, 1) := by decide +kernel
theorem dX4_flushLine_46 : decode cX4_flushLine 46 = .ok (.iadd, 1) := by decide +kernel
theorem dX4_flushLine_47 : decode cX4_flushLine 47 = .ok (.putfield 50, 3) := by decide +kernel
theorem dX4_flushLine_50 : decode cX4_flushLine 50 = .ok (.return_, 1) := by decide +kernel
set_option maxRecDepth 20000 in
theorem ggX4_layOnDisk_X6_isPlace : GoodIn wsX4_layOnDisk wsX6_isPlace := goodIn_r _ [6] (by decide +kernel) (by decide +kernel)
set_option maxRecDepth 20000 in
theorem gX4_layOnDisk_X6_isPlace_n114 : GoodIn wsX4_layOnDisk (wsX6_isPlace) := ggX4_layOnDisk_X6_isPlace
theorem dX4_layOnDisk_0 : decode cX4_layOnDisk 0 = .ok (.iload_n 1, 1) := by decide +kernel
theorem dX4_layOnDisk_1 : decode cX4_layOnDisk 1 = .ok (.invokestatic 114, 3) := by decide +kernel
theorem dX4_layOnDisk_4 : decode cX4_layOnDisk 4 = .ok (.ifCond .eq 30, 3) := by decide +kernel
theorem dX4_layOnDisk_7 : decode cX4_layOnDisk 7 = .ok (.aload_n 0, 1) := by decide +kernel
theorem dX4_layOnDisk_8 : decode cX4_layOnDisk 8 = .ok (.getfield 18, 3) := by decide +kernel
theorem dX4_layOnDisk_11 : decode cX4_layOnDisk 11 = .ok (.iload_n 1, 1) := by decide +kernel
theorem dX4_layOnDisk_12 : decode cX4_layOnDisk 12 = .ok (.iload_n 2, 1) := by decide +kernel
theorem dX4_layOnDisk_13 : decode cX4_layOnDisk 13 = .ok (.iastore, 1) := by decide +kernel
theorem dX4_layOnDisk_14 : decode cX4_layOnDisk 14 = .ok (.aload_n 0, 1) := by decide +kernel
theorem dX4_layOnDisk_15 : decode cX4_layOnDisk 15 = .ok (.getfield 22, 3) := by decide +kernel
theorem dX4_layOnDisk_18 : decode cX4_layOnDisk 18 = .ok (.iload_n 1, 1) := by decide +kernel
theorem dX4_layOnDisk_19 : decode cX4_layOnDisk 19 = .ok (.dup2, 1) := by decide +kernel
theorem dX4_layOnDisk_20 : decode cX4_layOnDisk 20 = .ok (.iaload, 1) := by decide +kernel
theorem dX4_layOnDisk_21 : decode cX4_layOnDisk 21 = .ok (.iconst 1, 1) := by decide +kernel
theorem dX4_layOnDisk_22 : decode cX4_layOnDisk 22 = .ok (.iadd, 1) := by decide +kernel
theorem dX4_layOnDisk_23 : decode cX4_layOnDisk 23 = .ok (.iastore, 1) := by decide +kernel
theorem dX4_layOnDisk_24 : decode cX4_layOnDisk 24 = .ok (.aload_n 0, 1) := by decide +kernel
theorem dX4_layOnDisk_25 : decode cX4_layOnDisk 25 = .ok (.dup, 1) := by decide +kernel
theorem dX4_layOnDisk_26 : decode cX4_layOnDisk 26 = .ok (.getfield 65, 3) := by decide +kernel
theorem dX4_layOnDisk_29 : decode cX4_layOnDisk 29 = .ok (.iconst 1, 1) := by decide +kernel
theorem dX4_layOnDisk_30 : decode cX4_layOnDisk 30 = .ok (.iadd, 1) := by decide +kernel
theorem dX4_layOnDisk_31 : decode cX4_layOnDisk 31 = .ok (.putfield 65, 3) := by decide +kernel
theorem dX4_layOnDisk_34 : decode cX4_layOnDisk 34 = .ok (.return_, 1) := by decide +kernel
set_option maxRecDepth 20000 in
theorem ggX4_passTicks_X0_passTick : GoodIn wsX4_passTicks wsX0_passTick := goodIn_r _ [9, 10, 11, 12, 13, 14, 15, 16, 17, 18, 19, 8, 20, 21, 22, 23, 24, 25, 26, 27, 28, 29, 30, 31, 32, 33, 110, 111, 112, 113, 114, 115, 116] (by decide +kernel) (by decide +kernel)
set_option maxRecDepth 20000 in
theorem gX4_passTicks_X0_passTick : GoodIn wsX4_passTicks (wsV RX4 117 RX0 yX0_passTick wsX0_passTick) := goodIn_app (goodIn_of _ (by decide +kernel)) ggX4_passTicks_X0_passTick
set_option maxRecDepth 20000 in
theorem ggX4_passTicks_X4_tooMany : GoodIn wsX4_passTicks wsX4_tooMany := goodIn_r _ [38, 3, 39, 28, 15, 29, 40, 41, 42, 37, 43, 44, 45, 46, 47, 48, 49, 50, 51, 52, 53, 54, 55, 56, 57, 58, 8, 59, 10, 60, 61, 62, 63, 11, 64, 65, 13, 14, 16, 93, 94, 95, 96, 97, 98, 99, 100, 101, 102, 103, 104, 105, 106, 107, 108, 109, 110, 111, 112, 113, 114, 115, 116] (by decide +kernel) (by decide +kernel)
set_option maxRecDepth 20000 in
theorem gX4_passTicks_X4_tooMany : GoodIn wsX4_passTicks (wsV RX4 121 RX4 yX4_tooMany wsX4_tooMany) := goodIn_app (goodIn_of _ (by decide +kernel)) ggX4_passTicks_X4_tooMany
set_option maxRecDepth 20000 in
theorem ggX4_passTicks_X4_flushLowest : GoodIn wsX4_passTicks wsX4_flushLowest := goodIn_r _ [69, 70, 71, 72, 37, 73, 48, 74, 75, 76, 77, 78, 79, 80, 1, 81, 82, 83, 84, 85, 86, 87, 88, 89, 90, 91, 92, 93, 94, 95, 96, 97, 98, 99, 100, 101, 102, 103, 104, 105, 106, 107, 108, 109] (by decide +kernel) (by decide +kernel)
set_option maxRecDepth 20000 in
theorem gX4_passTicks_X4_flushLowest : GoodIn wsX4_passTicks (wsV RX4 124 RX4 yX4_flushLowest wsX4_flushLowest) := goodIn_app (goodIn_of _ (by decide +kernel)) ggX4_passTicks_X4_flushLowest
theorem dX4_passTicks_0 : decode cX4_passTicks 0 = .ok (.aload_n 0, 1) := by decide +kernel
theorem dX4_passTicks_1 : decode cX4_passTicks 1 = .ok (.getfield 50, 3) := by decide +kernel
theorem dX4_passTicks_4 : decode cX4_passTicks 4 = .ok (.istore_n 2, 1) := by decide +kernel
theorem dX4_passTicks_5 : decode cX4_passTicks 5 = .ok (.iconst 0, 1) := by decide +kernel
theorem dX4_passTicks_6 : decode cX4_passTicks 6 = .ok (.istore_n 3, 1) := by decide +kernel
theorem dX4_passTicks_7 : decode cX4_passTicks 7 = .ok (.iload_n 3, 1) := by decide +kernel
theorem dX4_passTicks_8 : decode cX4_passTicks 8 = .ok (.iload_n 1, 1) := by decide +kernel
theorem dX4_passTicks_9 : decode cX4_passTicks 9 = .ok (.if_icmp .ge 48, 3) := by decide +kernel
theorem dX4_passTicks_12 : decode cX4_passTicks 12 = .ok (.aload_n 0, 1) := by decide +kernel
theorem dX4_passTicks_13 : decode cX4_passTicks 13 = .ok (.dup, 1) := by decide +kernel
theorem dX4_passTicks_14 : decode cX4_passTicks 14 = .ok (.getfield 41, 3) := by decide +kernel
theorem dX4_passTicks_17 : decode cX4_passTicks 17 = .ok (.iconst 1, 1) := by decide +kernel
theorem dX4_passTicks_18 : decode cX4_passTicks 18 = .ok (.iadd, 1) := by decide +kernel
theorem dX4_passTicks_19 : decode cX4_passTicks 19 = .ok (.putfield 41, 3) := by decide +kernel
theorem dX4_passTicks_22 : decode cX4_passTicks 22 = .ok (.aload_n 0, 1) := by decide +kernel
theorem dX4_passTicks_23 : decode cX4_passTicks 23 = .ok (.getfield 12, 3) := by decide +kernel
theorem dX4_passTicks_26 : decode cX4_passTicks 26 = .ok (.invokevirtual 117, 3) := by decide +kernel
theorem dX4_passTicks_29 : decode cX4_passTicks 29 = .ok (.ifCond .eq 13, 3) := by decide +kernel
theorem dX4_passTicks_32 : decode cX4_passTicks 32 = .ok (.aload_n 0, 1) := by decide +kernel
theorem dX4_passTicks_33 : decode cX4_passTicks 33 = .ok (.dup, 1) := by decide +kernel
theorem dX4_passTicks_34 : decode cX4_passTicks 34 = .ok (.getfield 62, 3) := by decide +kernel
theorem dX4_passTicks_37 : decode cX4_passTicks 37 = .ok (.iconst 1, 1) := by decide +kernel
theorem dX4_passTicks_38 : decode cX4_passTicks 38 = .ok (.iadd, 1) := by decide +kernel
theorem dX4_passTicks_39 : decode cX4_passTicks 39 = .ok (.putfield 62, 3) := by decide +kernel
theorem dX4_passTicks_42 : decode cX4_passTicks 42 = .ok (.aload_n 0, 1) := by decide +kernel
theorem dX4_passTicks_43 : decode cX4_passTicks 43 = .ok (.aload_n 0, 1) := by decide +kernel
theorem dX4_passTicks_44 : decode cX4_passTicks 44 = .ok (.invokevirtual 121, 3) := by decide +kernel
theorem dX4_passTicks_47 : decode cX4_passTicks 47 = .ok (.invokevirtual 124, 3) := by decide +kernel
theorem dX4_passTicks_50 : decode cX4_passTicks 50 = .ok (.pop, 1) := by decide +kernel
theorem dX4_passTicks_51 : decode cX4_passTicks 51 = .ok (.iinc 3 1, 3) := by decide +kernel
theorem dX4_passTicks_54 : decode cX4_passTicks 54 = .ok (.goto (-47), 3) := by decide +kernel
theorem dX4_passTicks_57 : decode cX4_passTicks 57 = .ok (.aload_n 0, 1) := by decide +kernel
theorem dX4_passTicks_58 : decode cX4_passTicks 58 = .ok (.getfield 50, 3) := by decide +kernel
theorem dX4_passTicks_61 : decode cX4_passTicks 61 = .ok (.iload_n 2, 1) := by decide +kernel
theorem dX4_passTicks_62 : decode cX4_passTicks 62 = .ok (.isub, 1) := by decide +kernel
theorem dX4_passTicks_63 : decode cX4_passTicks 63 = .ok (.ireturn, 1) := by decide +kernel
set_option maxRecDepth 20000 in
theorem ggX4_putLoad_X0_useUp : GoodIn wsX4_putLoad wsX0_useUp := goodIn_r _ [6, 7, 8, 9, 10, 11, 93, 94, 95, 96, 97, 98, 99] (by decide +kernel) (by decide +kernel)
set_option maxRecDepth 20000 in
theorem gX4_putLoad_X0_useUp : GoodIn wsX4_putLoad (wsV RX4 127 RX0 yX0_useUp wsX0_useUp) := goodIn_app (goodIn_of _ (by decide +kernel)) ggX4_putLoad_X0_useUp
set_option maxRecDepth 20000 in
theorem ggX4_putLoad_X4_tooMany : GoodIn wsX4_putLoad wsX4_tooMany := goodIn_r _ [16, 1, 17, 9, 10, 11, 18, 19, 20, 15, 21, 22, 23, 24, 25, 26, 27, 28, 29, 30, 31, 32, 33, 34, 35, 36, 5, 37, 38, 39, 40, 41, 42, 7, 43, 44, 45, 46, 47, 76, 77, 78, 79, 80, 81, 82, 83, 84, 85, 86, 87, 88, 89, 90, 91, 92, 93, 94, 95, 96, 97, 98, 99] (by decide +kernel) (by decide +kernel)
set_option maxRecDepth 20000 in
theorem gX4_putLoad_X4_tooMany : GoodIn wsX4_putLoad (wsV RX4 121 RX4 yX4_tooMany wsX4_tooMany) := goodIn_app (goodIn_of _ (by decide +kernel)) ggX4_putLoad_X4_tooMany
set_option maxRecDepth 20000 in
theorem ggX4_putLoad_X4_flushLowest : GoodIn wsX4_putLoad wsX4_flushLowest := goodIn_r _ [51, 52, 53, 54, 15, 55, 26, 56, 57, 58, 59, 60, 61, 62, 63, 64, 65, 66, 67, 68, 69, 70, 71, 72, 73, 74, 75, 76, 77, 78, 79, 80, 81, 82, 83, 84, 85, 86, 87, 88, 89, 90, 91, 92] (by decide +kernel) (by decide +kernel)
set_option maxRecDepth 20000 in
theorem gX4_putLoad_X4_flushLowest : GoodIn wsX4_putLoad (wsV RX4 124 RX4 yX4_flushLowest wsX4_flushLowest) := goodIn_app (goodIn_of _ (by decide +kernel)) ggX4_putLoad_X4_flushLowest
theorem dX4_putLoad_0 : decode cX4_putLoad 0 = .ok (.aload_n 0, 1) := by decide +kernel
theorem dX4_putLoad_1 : decode cX4_putLoad 1 = .ok (.getfield 12, 3) := by decide +kernel
theorem dX4_putLoad_4 : decode cX4_putLoad 4 = .ok (.iload_n 1, 1) := by decide +kernel
theorem dX4_putLoad_5 : decode cX4_putLoad 5 = .ok (.invokevirtual 127, 3) := by decide +kernel
theorem dX4_putLoad_8 : decode cX4_putLoad 8 = .ok (.aload_n 0, 1) := by decide +kernel
theorem dX4_putLoad_9 : decode cX4_putLoad 9 = .ok (.aload_n 0, 1) := by decide +kernel
theorem dX4_putLoad_10 : decode cX4_putLoad 10 = .ok (.invokevirtual 121, 3) := by decide +kernel
theorem dX4_putLoad_13 : decode cX4_putLoad 13 = .ok (.invokevirtual 124, 3) := by decide +kernel
theorem dX4_putLoad_16 : decode cX4_putLoad 16 = .ok (.ireturn, 1) := by decide +kernel
set_option maxRecDepth 20000 in
theorem ggX4_beginCycle_X4_tooMany : GoodIn wsX4_beginCycle wsX4_tooMany := goodIn_r _ [7, 1, 8, 9, 10, 11, 12, 13, 14, 6, 15, 16, 17, 18, 19, 20, 21, 22, 23, 24, 25, 26, 27, 28, 29, 30, 31, 32, 33, 34, 35, 36, 37, 38, 39, 40, 41, 42, 43, 72, 73, 74, 75, 76, 77, 78, 79, 80, 81, 82, 83, 84, 85, 86, 87, 88, 89, 90, 91, 92, 93, 94, 95] (by decide +kernel) (by decide +kernel)
set_option maxRecDepth 20000 in
theorem gX4_beginCycle_X4_tooMany : GoodIn wsX4_beginCycle (wsV RX4 121 RX4 yX4_tooMany wsX4_tooMany) := goodIn_app (goodIn_of _ (by decide +kernel)) ggX4_beginCycle_X4_tooMany
set_option maxRecDepth 20000 in
theorem ggX4_beginCycle_X4_flushLowest : GoodIn wsX4_beginCycle wsX4_flushLowest := goodIn_r _ [47, 48, 49, 50, 6, 51, 20, 52, 53, 54, 55, 56, 57, 58, 59, 60, 61, 62, 63, 64, 65, 66, 67, 68, 69, 70, 71, 72, 73, 74, 75, 76, 77, 78, 79, 80, 81, 82, 83, 84, 85, 86, 87, 88] (by decide +kernel) (by decide +kernel)
set_option maxRecDepth 20000 in
theorem gX4_beginCycle_X4_flushLowest : GoodIn wsX4_beginCycle (wsV RX4 124 RX4 yX4_flushLowest wsX4_flushLowest) := goodIn_app (goodIn_of _ (by decide +kernel)) ggX4_beginCycle_X4_flushLowest
theorem dX4_beginCycle_0 : decode cX4_beginCycle 0 = .ok (.aload_n 0, 1) := by decide +kernel
theorem dX4_beginCycle_1 : decode cX4_beginCycle 1 = .ok (.getfield 12, 3) := by decide +kernel
theorem dX4_beginCycle_4 : decode cX4_beginCycle 4 = .ok (.iconst 1, 1) := by decide +kernel
theorem dX4_beginCycle_5 : decode cX4_beginCycle 5 = .ok (.putfield 130, 3) := by decide +kernel
theorem dX4_beginCycle_8 : decode cX4_beginCycle 8 = .ok (.aload_n 0, 1) := by decide +kernel
theorem dX4_beginCycle_9 : decode cX4_beginCycle 9 = .ok (.aload_n 0, 1) := by decide +kernel
theorem dX4_beginCycle_10 : decode cX4_beginCycle 10 = .ok (.invokevirtual 121, 3) := by decide +kernel
theorem dX4_beginCycle_13 : decode cX4_beginCycle 13 = .ok (.invokevirtual 124, 3) := by decide +kernel
theorem dX4_beginCycle_16 : decode cX4_beginCycle 16 = .ok (.ireturn, 1) := by decide +kernel
set_option maxRecDepth 20000 in
theorem ggX4_cutPower_X4_savedByCut : GoodIn wsX4_cutPower wsX4_savedByCut := goodIn_r _ [9, 1, 10, 11, 12, 13, 14, 15, 16, 8, 17, 18, 19, 20, 21, 2, 22, 23, 24, 25, 26, 27, 28, 29, 30, 31, 32, 33, 34, 35, 36, 37, 82, 83, 84, 85, 86, 87, 88, 89, 90, 91, 92, 93, 94, 95, 96, 97, 98, 99, 100, 101, 102, 103, 104, 105] (by decide +kernel) (by decide +kernel)
set_option maxRecDepth 20000 in
theorem gX4_cutPower_X4_savedByCut : GoodIn wsX4_cutPower (wsV RX4 133 RX4 yX4_savedByCut wsX4_savedByCut) := goodIn_app (goodIn_of _ (by decide +kernel)) ggX4_cutPower_X4_savedByCut
set_option maxRecDepth 20000 in
theorem ggX4_cutPower_X4_flushLowest : GoodIn wsX4_cutPower wsX4_flushLowest := goodIn_r _ [41, 42, 43, 44, 8, 45, 2, 46, 47, 48, 49, 50, 51, 52, 53, 54, 55, 56, 57, 58, 59, 60, 61, 62, 63, 64, 65, 82, 83, 84, 85, 86, 87, 88, 89, 90, 91, 92, 93, 94, 95, 96, 97, 98] (by decide +kernel) (by decide +kernel)
set_option maxRecDepth 20000 in
theorem gX4_cutPower_X4_flushLowest : GoodIn wsX4_cutPower (wsV RX4 124 RX4 yX4_flushLowest wsX4_flushLowest) := goodIn_app (goodIn_of _ (by decide +kernel)) ggX4_cutPower_X4_flushLowest
set_option maxRecDepth 20000 in
theorem ggX4_cutPower_X0_saveAtCut : GoodIn wsX4_cutPower wsX0_saveAtCut := goodIn_r _ [69, 70, 71, 72, 73, 32, 74, 35, 36, 75, 76, 77, 78, 34, 79, 80, 12, 81, 99, 100, 101, 102, 103, 104, 105] (by decide +kernel) (by decide +kernel)
set_option maxRecDepth 20000 in
theorem gX4_cutPower_X0_saveAtCut : GoodIn wsX4_cutPower (wsV RX4 136 RX0 yX0_saveAtCut wsX0_saveAtCut) := goodIn_app (goodIn_of _ (by decide +kernel)) ggX4_cutPower_X0_saveAtCut
set_option maxRecDepth 20000 in
theorem ggX4_cutPower_X4_numberOf : GoodIn wsX4_cutPower wsX4_numberOf := goodIn_r _ [17, 18, 19, 20, 8, 21, 2, 22, 23, 24, 25, 26, 27, 28, 82, 83, 84, 85, 86, 87, 88, 89, 90, 91, 92, 93, 94, 95, 96, 97, 98] (by decide +kernel) (by decide +kernel)
set_option maxRecDepth 20000 in
theorem gX4_cutPower_X4_numberOf : GoodIn wsX4_cutPower (wsV RX4 84 RX4 yX4_numberOf wsX4_numberOf) := goodIn_app (goodIn_of _ (by decide +kernel)) ggX4_cutPower_X4_numberOf
theorem dX4_cutPower_0 : decode cX4_cutPower 0 = .ok (.aload_n 0, 1) := by decide +kernel
theorem dX4_cutPower_1 : decode cX4_cutPower 1 = .ok (.invokevirtual 133, 3) := by decide +kernel
theorem dX4_cutPower_4 : decode cX4_cutPower 4 = .ok (.istore_n 1, 1) := by decide +kernel
theorem dX4_cutPower_5 : decode cX4_cutPower 5 = .ok (.aload_n 0, 1) := by decide +kernel
theorem dX4_cutPower_6 : decode cX4_cutPower 6 = .ok (.iload_n 1, 1) := by decide +kernel
theorem dX4_cutPower_7 : decode cX4_cutPower 7 = .ok (.invokevirtual 124, 3) := by decide +kernel
theorem dX4_cutPower_10 : decode cX4_cutPower 10 = .ok (.pop, 1) := by decide +kernel
theorem dX4_cutPower_11 : decode cX4_cutPower 11 = .ok (.aload_n 0, 1) := by decide +kernel
theorem dX4_cutPower_12 : decode cX4_cutPower 12 = .ok (.getfield 12, 3) := by decide +kernel
theorem dX4_cutPower_15 : decode cX4_cutPower 15 = .ok (.iload_n 1, 1) := by decide +kernel
theorem dX4_cutPower_16 : decode cX4_cutPower 16 = .ok (.invokevirtual 136, 3) := by decide +kernel
theorem dX4_cutPower_19 : decode cX4_cutPower 19 = .ok (.aload_n 0, 1) := by decide +kernel
theorem dX4_cutPower_20 : decode cX4_cutPower 20 = .ok (.iconst 2, 1) := by decide +kernel
theorem dX4_cutPower_21 : decode cX4_cutPower 21 = .ok (.invokevirtual 84, 3) := by decide +kernel
theorem dX4_cutPower_24 : decode cX4_cutPower 24 = .ok (.istore_n 2, 1) := by decide +kernel
theorem dX4_cutPower_25 : decode cX4_cutPower 25 = .ok (.iconst 0, 1) := by decide +kernel
theorem dX4_cutPower_26 : decode cX4_cutPower 26 = .ok (.istore_n 3, 1) := by decide +kernel
theorem dX4_cutPower_27 : decode cX4_cutPower 27 = .ok (.iload_n 3, 1) := by decide +kernel
theorem dX4_cutPower_28 : decode cX4_cutPower 28 = .ok (.bipush 8, 2) := by decide +kernel
theorem dX4_cutPower_30 : decode cX4_cutPower 30 = .ok (.if_icmp .ge 16, 3) := by decide +kernel
theorem dX4_cutPower_33 : decode cX4_cutPower 33 = .ok (.aload_n 0, 1) := by decide +kernel
theorem dX4_cutPower_34 : decode cX4_cutPower 34 = .ok (.getfield 25, 3) := by decide +kernel
theorem dX4_cutPower_37 : decode cX4_cutPower 37 = .ok (.iload_n 3, 1) := by decide +kernel
theorem dX4_cutPower_38 : decode cX4_cutPower 38 = .ok (.iconst 0, 1) := by decide +kernel
theorem dX4_cutPower_39 : decode cX4_cutPower 39 = .ok (.iastore, 1) := by decide +kernel
theorem dX4_cutPower_40 : decode cX4_cutPower 40 = .ok (.iinc 3 1, 3) := by decide +kernel
theorem dX4_cutPower_43 : decode cX4_cutPower 43 = .ok (.goto (-16), 3) := by decide +kernel
theorem dX4_cutPower_46 : decode cX4_cutPower 46 = .ok (.aload_n 0, 1) := by decide +kernel
theorem dX4_cutPower_47 : decode cX4_cutPower 47 = .ok (.dup, 1) := by decide +kernel
theorem dX4_cutPower_48 : decode cX4_cutPower 48 = .ok (.getfield 56, 3) := by decide +kernel
theorem dX4_cutPower_51 : decode cX4_cutPower 51 = .ok (.iload_n 2, 1) := by decide +kernel
theorem dX4_cutPower_52 : decode cX4_cutPower 52 = .ok (.iadd, 1) := by decide +kernel
theorem dX4_cutPower_53 : decode cX4_cutPower 53 = .ok (.putfield 56, 3) := by decide +kernel
theorem dX4_cutPower_56 : decode cX4_cutPower 56 = .ok (.aload_n 0, 1) := by decide +kernel
theorem dX4_cutPower_57 : decode cX4_cutPower 57 = .ok (.dup, 1) := by decide +kernel
theorem dX4_cutPower_58 : decode cX4_cutPower 58 = .ok (.getfield 59, 3) := by decide +kernel
theorem dX4_cutPower_61 : decode cX4_cutPower 61 = .ok (.iconst 1, 1) := by decide +kernel
theorem dX4_cutPower_62 : decode cX4_cutPower 62 = .ok (.iadd, 1) := by decide +kernel
theorem dX4_cutPower_63 : decode cX4_cutPower 63 = .ok (.putfield 59, 3) := by decide +kernel
theorem dX4_cutPower_66 : decode cX4_cutPower 66 = .ok (.iload_n 2, 1) := by decide +kernel
theorem dX4_cutPower_67 : decode cX4_cutPower 67 = .ok (.ireturn, 1) := by decide +kernel
set_option maxRecDepth 20000 in
theorem ggX4_tooMany_X4_numberOf : GoodIn wsX4_tooMany wsX4_numberOf := goodIn_r _ [10, 11, 12, 13, 9, 14, 15, 16, 17, 18, 19, 20, 21, 22, 39, 40, 41, 42, 43, 44, 45, 46, 47, 48, 49, 50, 51, 52, 53, 54, 55] (by decide +kernel) (by decide +kernel)
set_option maxRecDepth 20000 in
theorem gX4_tooMany_X4_numberOf : GoodIn wsX4_tooMany (wsV RX4 84 RX4 yX4_numberOf wsX4_numberOf) := goodIn_app (goodIn_of _ (by decide +kernel)) ggX4_tooMany_X4_numberOf
set_option maxRecDepth 20000 in
theorem ggX4_tooMany_X0_allowance : GoodIn wsX4_tooMany wsX0_allowance := goodIn_r _ [27, 28, 29, 30, 31, 26, 32, 33, 34, 35, 36, 37, 4, 38, 56, 57, 58, 59, 60, 61, 62] (by decide +kernel) (by decide +kernel)
set_option maxRecDepth 20000 in
theorem gX4_tooMany_X0_allowance : GoodIn wsX4_tooMany (wsV RX4 87 RX0 yX0_allowance wsX0_allowance) := goodIn_app (goodIn_of _ (by decide +kernel)) ggX4_tooMany_X0_allowance
theorem dX4_tooMany_0 : decode cX4_tooMany 0 = .ok (.aload_n 0, 1) := by decide +kernel
theorem dX4_tooMany_1 : decode cX4_tooMany 1 = .ok (.iconst 2, 1) := by decide +kernel
theorem dX4_tooMany_2 : decode cX4_tooMany 2 = .ok (.invokevirtual 84, 3) := by decide +kernel
theorem dX4_tooMany_5 : decode cX4_tooMany 5 = .ok (.aload_n 0, 1) := by decide +kernel
theorem dX4_tooMany_6 : decode cX4_tooMany 6 = .ok (.getfield 12, 3) := by decide +kernel
theorem dX4_tooMany_9 : decode cX4_tooMany 9 = .ok (.invokevirtual 87, 3) := by decide +kernel
theorem dX4_tooMany_12 : decode cX4_tooMany 12 = .ok (.isub, 1) := by decide +kernel
theorem dX4_tooMany_13 : decode cX4_tooMany 13 = .ok (.iconst 0, 1) := by decide +kernel
theorem dX4_tooMany_14 : decode cX4_tooMany 14 = .ok (.invokestatic 139, 3) := by decide +kernel
theorem dX4_tooMany_17 : decode cX4_tooMany 17 = .ok (.ireturn, 1) := by decide +kernel
set_option maxRecDepth 20000 in
theorem ggX4_flushLowest_X4_lowestTurn : GoodIn wsX4_flushLowest wsX4_lowestTurn := goodIn_r _ [5, 6, 7, 27, 28, 29, 30, 31, 32, 33, 34, 35, 36, 37, 38, 39, 40, 41, 42, 43] (by decide +kernel) (by decide +kernel)
set_option maxRecDepth 20000 in
theorem gX4_flushLowest_X4_lowestTurn : GoodIn wsX4_flushLowest (wsV RX4 111 RX4 yX4_lowestTurn wsX4_lowestTurn) := goodIn_app (goodIn_of _ (by decide +kernel)) ggX4_flushLowest_X4_lowestTurn
set_option maxRecDepth 20000 in
theorem ggX4_flushLowest_X4_flushLine : GoodIn wsX4_flushLowest wsX4_flushLine := goodIn_r _ [11, 6, 12, 13, 14, 15, 16, 17, 18, 19, 20, 4, 21, 22, 23, 24, 25, 26, 27, 28, 29, 30, 31, 32, 33, 34, 35, 36, 37, 38, 39, 40, 41, 42, 43] (by decide +kernel) (by decide +kernel)
set_option maxRecDepth 20000 in
theorem gX4_flushLowest_X4_flushLine : GoodIn wsX4_flushLowest (wsV RX4 101 RX4 yX4_flushLine wsX4_flushLine) := goodIn_app (goodIn_of _ (by decide +kernel)) ggX4_flushLowest_X4_flushLine
theorem dX4_flushLowest_0 : decode cX4_flushLowest 0 = .ok (.iconst 0, 1) := by decide +kernel
theorem dX4_flushLowest_1 : decode cX4_flushLowest 1 = .ok (.istore_n 2, 1) := by decide +kernel
theorem dX4_flushLowest_2 : decode cX4_flushLowest 2 = .ok (.iload_n 2, 1) := by decide +kernel
theorem dX4_flushLowest_3 : decode cX4_flushLowest 3 = .ok (.iload_n 1, 1) := by decide +kernel
theorem dX4_flushLowest_4 : decode cX4_flushLowest 4 = .ok (.if_icmp .ge 18, 3) := by decide +kernel
theorem dX4_flushLowest_7 : decode cX4_flushLowest 7 = .ok (.aload_n 0, 1) := by decide +kernel
theorem dX4_flushLowest_8 : decode cX4_flushLowest 8 = .ok (.aload_n 0, 1) := by decide +kernel
theorem dX4_flushLowest_9 : decode cX4_flushLowest 9 = .ok (.iconst 2, 1) := by decide +kernel
theorem dX4_flushLowest_10 : decode cX4_flushLowest 10 = .ok (.invokevirtual 111, 3) := by decide +kernel
theorem dX4_flushLowest_13 : decode cX4_flushLowest 13 = .ok (.invokevirtual 101, 3) := by decide +kernel
theorem dX4_flushLowest_16 : decode cX4_flushLowest 16 = .ok (.iinc 2 1, 3) := by decide +kernel
theorem dX4_flushLowest_19 : decode cX4_flushLowest 19 = .ok (.goto (-17), 3) := by decide +kernel
theorem dX4_flushLowest_22 : decode cX4_flushLowest 22 = .ok (.iload_n 1, 1) := by decide +kernel
theorem dX4_flushLowest_23 : decode cX4_flushLowest 23 = .ok (.ireturn, 1) := by decide +kernel
set_option maxRecDepth 20000 in
theorem ggX4_savedByCut_X4_numberOf : GoodIn wsX4_savedByCut wsX4_numberOf := goodIn_r _ [10, 11, 12, 13, 9, 14, 15, 16, 17, 18, 19, 20, 21, 22, 32, 33, 34, 35, 36, 37, 38, 39, 40, 41, 42, 43, 44, 45, 46, 47, 48] (by decide +kernel) (by decide +kernel)
set_option maxRecDepth 20000 in
theorem gX4_savedByCut_X4_numberOf : GoodIn wsX4_savedByCut (wsV RX4 84 RX4 yX4_numberOf wsX4_numberOf) := goodIn_app (goodIn_of _ (by decide +kernel)) ggX4_savedByCut_X4_numberOf
set_option maxRecDepth 20000 in
theorem ggX4_savedByCut_X0_savable : GoodIn wsX4_savedByCut wsX0_savable := goodIn_r _ [27, 28, 29, 30, 31, 3, 4, 5, 49, 50, 51, 52, 53, 54, 55] (by decide +kernel) (by decide +kernel)
set_option maxRecDepth 20000 in
theorem gX4_savedByCut_X0_savable : GoodIn wsX4_savedByCut (wsV RX4 145 RX0 yX0_savable wsX0_savable) := goodIn_app (goodIn_of _ (by decide +kernel)) ggX4_savedByCut_X0_savable
theorem dX4_savedByCut_0 : decode cX4_savedByCut 0 = .ok (.aload_n 0, 1) := by decide +kernel
theorem dX4_savedByCut_1 : decode cX4_savedByCut 1 = .ok (.iconst 2, 1) := by decide +kernel
theorem dX4_savedByCut_2 : decode cX4_savedByCut 2 = .ok (.invokevirtual 84, 3) := by decide +kernel
theorem dX4_savedByCut_5 : decode cX4_savedByCut 5 = .ok (.aload_n 0, 1) := by decide +kernel
theorem dX4_savedByCut_6 : decode cX4_savedByCut 6 = .ok (.getfield 12, 3) := by decide +kernel
theorem dX4_savedByCut_9 : decode cX4_savedByCut 9 = .ok (.invokevirtual 145, 3) := by decide +kernel
theorem dX4_savedByCut_12 : decode cX4_savedByCut 12 = .ok (.invokestatic 148, 3) := by decide +kernel
theorem dX4_savedByCut_15 : decode cX4_savedByCut 15 = .ok (.ireturn, 1) := by decide +kernel
set_option maxRecDepth 20000 in
theorem ggX4_lostByCut_X4_savedByCut : GoodIn wsX4_lostByCut wsX4_savedByCut := goodIn_r _ [6, 7, 8, 9, 10, 11, 12, 13, 14, 5, 15, 16, 17, 18, 19, 1, 20, 21, 22, 23, 24, 25, 26, 27, 28, 29, 30, 31, 32, 33, 34, 35, 44, 45, 46, 47, 48, 49, 50, 51, 52, 53, 54, 55, 56, 57, 58, 59, 60, 61, 62, 63, 64, 65, 66, 67] (by decide +kernel) (by decide +kernel)
set_option maxRecDepth 20000 in
theorem gX4_lostByCut_X4_savedByCut : GoodIn wsX4_lostByCut (wsV RX4 133 RX4 yX4_savedByCut wsX4_savedByCut) := goodIn_app (goodIn_of _ (by decide +kernel)) ggX4_lostByCut_X4_savedByCut
set_option maxRecDepth 20000 in
theorem ggX4_lostByCut_X4_linesAhead : GoodIn wsX4_lostByCut wsX4_linesAhead := goodIn_r _ [39, 1, 40, 41, 42, 43, 44, 45, 46, 47, 48, 49, 50, 51, 52, 53, 54, 55, 56, 57, 58, 59, 60] (by decide +kernel) (by decide +kernel)
set_option maxRecDepth 20000 in
theorem gX4_lostByCut_X4_linesAhead : GoodIn wsX4_lostByCut (wsV RX4 151 RX4 yX4_linesAhead wsX4_linesAhead) := goodIn_app (goodIn_of _ (by decide +kernel)) ggX4_lostByCut_X4_linesAhead
theorem dX4_lostByCut_0 : decode cX4_lostByCut 0 = .ok (.aload_n 0, 1) := by decide +kernel
theorem dX4_lostByCut_1 : decode cX4_lostByCut 1 = .ok (.invokevirtual 133, 3) := by decide +kernel
theorem dX4_lostByCut_4 : decode cX4_lostByCut 4 = .ok (.istore_n 1, 1) := by decide +kernel
theorem dX4_lostByCut_5 : decode cX4_lostByCut 5 = .ok (.iconst 0, 1) := by decide +kernel
theorem dX4_lostByCut_6 : decode cX4_lostByCut 6 = .ok (.istore_n 2, 1) := by decide +kernel
theorem dX4_lostByCut_7 : decode cX4_lostByCut 7 = .ok (.iconst 0, 1) := by decide +kernel
theorem dX4_lostByCut_8 : decode cX4_lostByCut 8 = .ok (.istore_n 3, 1) := by decide +kernel
theorem dX4_lostByCut_9 : decode cX4_lostByCut 9 = .ok (.iload_n 3, 1) := by decide +kernel
theorem dX4_lostByCut_10 : decode cX4_lostByCut 10 = .ok (.bipush 8, 2) := by decide +kernel
theorem dX4_lostByCut_12 : decode cX4_lostByCut 12 = .ok (.if_icmp .ge 35, 3) := by decide +kernel
theorem dX4_lostByCut_15 : decode cX4_lostByCut 15 = .ok (.aload_n 0, 1) := by decide +kernel
theorem dX4_lostByCut_16 : decode cX4_lostByCut 16 = .ok (.getfield 25, 3) := by decide +kernel
theorem dX4_lostByCut_19 : decode cX4_lostByCut 19 = .ok (.iload_n 3, 1) := by decide +kernel
theorem dX4_lostByCut_20 : decode cX4_lostByCut 20 = .ok (.iaload, 1) := by decide +kernel
theorem dX4_lostByCut_21 : decode cX4_lostByCut 21 = .ok (.iconst 2, 1) := by decide +kernel
theorem dX4_lostByCut_22 : decode cX4_lostByCut 22 = .ok (.if_icmp .ne 19, 3) := by decide +kernel
theorem dX4_lostByCut_25 : decode cX4_lostByCut 25 = .ok (.aload_n 0, 1) := by decide +kernel
theorem dX4_lostByCut_26 : decode cX4_lostByCut 26 = .ok (.iload_n 3, 1) := by decide +kernel
theorem dX4_lostByCut_27 : decode cX4_lostByCut 27 = .ok (.iconst 2, 1) := by decide +kernel
theorem dX4_lostByCut_28 : decode cX4_lostByCut 28 = .ok (.invokevirtual 151, 3) := by decide +kernel
theorem dX4_lostByCut_31 : decode cX4_lostByCut 31 = .ok (.iload_n 1, 1) := by decide +kernel
theorem dX4_lostByCut_32 : decode cX4_lostByCut 32 = .ok (.if_icmp .lt 9, 3) := by decide +kernel
theorem dX4_lostByCut_35 : decode cX4_lostByCut 35 = .ok (.iload_n 2, 1) := by decide +kernel
theorem dX4_lostByCut_36 : decode cX4_lostByCut 36 = .ok (.iconst 1, 1) := by decide +kernel
theorem dX4_lostByCut_37 : decode cX4_lostByCut 37 = .ok (.iload_n 3, 1) := by decide +kernel
theorem dX4_lostByCut_38 : decode cX4_lostByCut 38 = .ok (.ishl, 1) := by decide +kernel
theorem dX4_lostByCut_39 : decode cX4_lostByCut 39 = .ok (.ior, 1) := by decide +kernel
theorem dX4_lostByCut_40 : decode cX4_lostByCut 40 = .ok (.istore_n 2, 1) := by decide +kernel
theorem dX4_lostByCut_41 : decode cX4_lostByCut 41 = .ok (.iinc 3 1, 3) := by decide +kernel
theorem dX4_lostByCut_44 : decode cX4_lostByCut 44 = .ok (.goto (-35), 3) := by decide +kernel
theorem dX4_lostByCut_47 : decode cX4_lostByCut 47 = .ok (.iload_n 2, 1) := by decide +kernel
theorem dX4_lostByCut_48 : decode cX4_lostByCut 48 = .ok (.ireturn, 1) := by decide +kernel
theorem dX4_holderOf_0 : decode cX4_holderOf 0 = .ok (.iconst 0, 1) := by decide +kernel
theorem dX4_holderOf_1 : decode cX4_holderOf 1 = .ok (.istore_n 2, 1) := by decide +kernel
theorem dX4_holderOf_2 : decode cX4_holderOf 2 = .ok (.iload_n 2, 1) := by decide +kernel
theorem dX4_holderOf_3 : decode cX4_holderOf 3 = .ok (.bipush 8, 2) := by decide +kernel
theorem dX4_holderOf_5 : decode cX4_holderOf 5 = .ok (.if_icmp .ge 30, 3) := by decide +kernel
theorem dX4_holderOf_8 : decode cX4_holderOf 8 = .ok (.aload_n 0, 1) := by decide +kernel
theorem dX4_holderOf_9 : decode cX4_holderOf 9 = .ok (.getfield 25, 3) := by decide +kernel
theorem dX4_holderOf_12 : decode cX4_holderOf 12 = .ok (.iload_n 2, 1) := by decide +kernel
theorem dX4_holderOf_13 : decode cX4_holderOf 13 = .ok (.iaload, 1) := by decide +kernel
theorem dX4_holderOf_14 : decode cX4_holderOf 14 = .ok (.ifCond .eq 15, 3) := by decide +kernel
theorem dX4_holderOf_17 : decode cX4_holderOf 17 = .ok (.aload_n 0, 1) := by decide +kernel
theorem dX4_holderOf_18 : decode cX4_holderOf 18 = .ok (.getfield 28, 3) := by decide +kernel
theorem dX4_holderOf_21 : decode cX4_holderOf 21 = .ok (.iload_n 2, 1) := by decide +kernel
theorem dX4_holderOf_22 : decode cX4_holderOf 22 = .ok (.iaload, 1) := by decide +kernel
theorem dX4_holderOf_23 : decode cX4_holderOf 23 = .ok (.iload_n 1, 1) := by decide +kernel
theorem dX4_holderOf_24 : decode cX4_holderOf 24 = .ok (.if_icmp .ne 5, 3) := by decide +kernel
theorem dX4_holderOf_27 : decode cX4_holderOf 27 = .ok (.iload_n 2, 1) := by decide +kernel
theorem dX4_holderOf_28 : decode cX4_holderOf 28 = .ok (.ireturn, 1) := by decide +kernel
theorem dX4_holderOf_29 : decode cX4_holderOf 29 = .ok (.iinc 2 1, 3) := by decide +kernel
theorem dX4_holderOf_32 : decode cX4_holderOf 32 = .ok (.goto (-30), 3) := by decide +kernel
theorem dX4_holderOf_35 : decode cX4_holderOf 35 = .ok (.iconst (-1), 1) := by decide +kernel
theorem dX4_holderOf_36 : decode cX4_holderOf 36 = .ok (.ireturn, 1) := by decide +kernel
theorem dX4_lowestEmpty_0 : decode cX4_lowestEmpty 0 = .ok (.iconst 0, 1) := by decide +kernel
theorem dX4_lowestEmpty_1 : decode cX4_lowestEmpty 1 = .ok (.istore_n 1, 1) := by decide +kernel
theorem dX4_lowestEmpty_2 : decode cX4_lowestEmpty 2 = .ok (.iload_n 1, 1) := by decide +kernel
theorem dX4_lowestEmpty_3 : decode cX4_lowestEmpty 3 = .ok (.bipush 8, 2) := by decide +kernel
theorem dX4_lowestEmpty_5 : decode cX4_lowestEmpty 5 = .ok (.if_icmp .ge 20, 3) := by decide +kernel
theorem dX4_lowestEmpty_8 : decode cX4_lowestEmpty 8 = .ok (.aload_n 0, 1) := by decide +kernel
theorem dX4_lowestEmpty_9 : decode cX4_lowestEmpty 9 = .ok (.getfield 25, 3) := by decide +kernel
theorem dX4_lowestEmpty_12 : decode cX4_lowestEmpty 12 = .ok (.iload_n 1, 1) := by decide +kernel
theorem dX4_lowestEmpty_13 : decode cX4_lowestEmpty 13 = .ok (.iaload, 1) := by decide +kernel
theorem dX4_lowestEmpty_14 : decode cX4_lowestEmpty 14 = .ok (.ifCond .ne 5, 3) := by decide +kernel
theorem dX4_lowestEmpty_17 : decode cX4_lowestEmpty 17 = .ok (.iload_n 1, 1) := by decide +kernel
theorem dX4_lowestEmpty_18 : decode cX4_lowestEmpty 18 = .ok (.ireturn, 1) := by decide +kernel
theorem dX4_lowestEmpty_19 : decode cX4_lowestEmpty 19 = .ok (.iinc 1 1, 3) := by decide +kernel
theorem dX4_lowestEmpty_22 : decode cX4_lowestEmpty 22 = .ok (.goto (-20), 3) := by decide +kernel
theorem dX4_lowestEmpty_25 : decode cX4_lowestEmpty 25 = .ok (.iconst (-1), 1) := by decide +kernel
theorem dX4_lowestEmpty_26 : decode cX4_lowestEmpty 26 = .ok (.ireturn, 1) := by decide +kernel
theorem dX4_lowestTurn_0 : decode cX4_lowestTurn 0 = .ok (.iconst (-1), 1) := by decide +kernel
theorem dX4_lowestTurn_1 : decode cX4_lowestTurn 1 = .ok (.istore_n 2, 1) := by decide +kernel
theorem dX4_lowestTurn_2 : decode cX4_lowestTurn 2 = .ok (.iconst 0, 1) := by decide +kernel
theorem dX4_lowestTurn_3 : decode cX4_lowestTurn 3 = .ok (.istore_n 3, 1) := by decide +kernel
theorem dX4_lowestTurn_4 : decode cX4_lowestTurn 4 = .ok (.iconst 0, 1) := by decide +kernel
theorem dX4_lowestTurn_5 : decode cX4_lowestTurn 5 = .ok (.istore 4, 2) := by decide +kernel
theorem dX4_lowestTurn_7 : decode cX4_lowestTurn 7 = .ok (.iload 4, 2) := by decide +kernel
theorem dX4_lowestTurn_9 : decode cX4_lowestTurn 9 = .ok (.bipush 8, 2) := by decide +kernel
theorem dX4_lowestTurn_11 : decode cX4_lowestTurn 11 = .ok (.if_icmp .ge 47, 3) := by decide +kernel
theorem dX4_lowestTurn_14 : decode cX4_lowestTurn 14 = .ok (.aload_n 0, 1) := by decide +kernel
theorem dX4_lowestTurn_15 : decode cX4_lowestTurn 15 = .ok (.getfield 25, 3) := by decide +kernel
theorem dX4_lowestTurn_18 : decode cX4_lowestTurn 18 = .ok (.iload 4, 2) := by decide +kernel
theorem dX4_lowestTurn_20 : decode cX4_lowestTurn 20 = .ok (.iaload, 1) := by decide +kernel
theorem dX4_lowestTurn_21 : decode cX4_lowestTurn 21 = .ok (.iload_n 1, 1) := by decide +kernel
theorem dX4_lowestTurn_22 : decode cX4_lowestTurn 22 = .ok (.if_icmp .ne 30, 3) := by decide +kernel
theorem dX4_lowestTurn_25 : decode cX4_lowestTurn 25 = .ok (.iload_n 2, 1) := by decide +kernel
theorem dX4_lowestTurn_26 : decode cX4_lowestTurn 26 = .ok (.iconst (-1), 1) := by decide +kernel
theorem dX4_lowestTurn_27 : decode cX4_lowestTurn 27 = .ok (.if_icmp .eq 14, 3) := by decide +kernel
theorem dX4_lowestTurn_30 : decode cX4_lowestTurn 30 = .ok (.aload_n 0, 1) := by decide +kernel
theorem dX4_lowestTurn_31 : decode cX4_lowestTurn 31 = .ok (.getfield 34, 3) := by decide +kernel
theorem dX4_lowestTurn_34 : decode cX4_lowestTurn 34 = .ok (.iload 4, 2) := by decide +kernel
theorem dX4_lowestTurn_36 : decode cX4_lowestTurn 36 = .ok (.iaload, 1) := by decide +kernel
theorem dX4_lowestTurn_37 : decode cX4_lowestTurn 37 = .ok (.iload_n 3, 1) := by decide +kernel
theorem dX4_lowestTurn_38 : decode cX4_lowestTurn 38 = .ok (.if_icmp .ge 14, 3) := by decide +kernel
theorem dX4_lowestTurn_41 : decode cX4_lowestTurn 41 = .ok (.iload 4, 2) := by decide +kernel
theorem dX4_lowestTurn_43 : decode cX4_lowestTurn 43 = .ok (.istore_n 2, 1) := by decide +kernel
theorem dX4_lowestTurn_44 : decode cX4_lowestTurn 44 = .ok (.aload_n 0, 1) := by decide +kernel
theorem dX4_lowestTurn_45 : decode cX4_lowestTurn 45 = .ok (.getfield 34, 3) := by decide +kernel
theorem dX4_lowestTurn_48 : decode cX4_lowestTurn 48 = .ok (.iload 4, 2) := by decide +kernel
theorem dX4_lowestTurn_50 : decode cX4_lowestTurn 50 = .ok (.iaload, 1) := by decide +kernel
theorem dX4_lowestTurn_51 : decode cX4_lowestTurn 51 = .ok (.istore_n 3, 1) := by decide +kernel
theorem dX4_lowestTurn_52 : decode cX4_lowestTurn 52 = .ok (.iinc 4 1, 3) := by decide +kernel
theorem dX4_lowestTurn_55 : decode cX4_lowestTurn 55 = .ok (.goto (-48), 3) := by decide +kernel
theorem dX4_lowestTurn_58 : decode cX4_lowestTurn 58 = .ok (.iload_n 2, 1) := by decide +kernel
theorem dX4_lowestTurn_59 : decode cX4_lowestTurn 59 = .ok (.ireturn, 1) := by decide +kernel
set_option maxRecDepth 20000 in
theorem ggX4_linesAhead_X6_isLine : GoodIn wsX4_linesAhead wsX6_isLine := goodIn_r _ [5] (by decide +kernel) (by decide +kernel)
set_option maxRecDepth 20000 in
theorem gX4_linesAhead_X6_isLine_n80 : GoodIn wsX4_linesAhead (wsX6_isLine) := ggX4_linesAhead_X6_isLine
theorem dX4_linesAhead_0 : decode cX4_linesAhead 0 = .ok (.iconst 0, 1) := by decide +kernel
theorem dX4_linesAhead_1 : decode cX4_linesAhead 1 = .ok (.istore_n 3, 1) := by decide +kernel
theorem dX4_linesAhead_2 : decode cX4_linesAhead 2 = .ok (.iconst 0, 1) := by decide +kernel
theorem dX4_linesAhead_3 : decode cX4_linesAhead 3 = .ok (.istore 4, 2) := by decide +kernel
theorem dX4_linesAhead_5 : decode cX4_linesAhead 5 = .ok (.iload_n 1, 1) := by decide +kernel
theorem dX4_linesAhead_6 : decode cX4_linesAhead 6 = .ok (.invokestatic 80, 3) := by decide +kernel
theorem dX4_linesAhead_9 : decode cX4_linesAhead 9 = .ok (.ifCond .eq 46, 3) := by decide +kernel
theorem dX4_linesAhead_12 : decode cX4_linesAhead 12 = .ok (.iload 4, 2) := by decide +kernel
theorem dX4_linesAhead_14 : decode cX4_linesAhead 14 = .ok (.bipush 8, 2) := by decide +kernel
theorem dX4_linesAhead_16 : decode cX4_linesAhead 16 = .ok (.if_icmp .ge 39, 3) := by decide +kernel
theorem dX4_linesAhead_19 : decode cX4_linesAhead 19 = .ok (.aload_n 0, 1) := by decide +kernel
theorem dX4_linesAhead_20 : decode cX4_linesAhead 20 = .ok (.getfield 25, 3) := by decide +kernel
theorem dX4_linesAhead_23 : decode cX4_linesAhead 23 = .ok (.iload 4, 2) := by decide +kernel
theorem dX4_linesAhead_25 : decode cX4_linesAhead 25 = .ok (.iaload, 1) := by decide +kernel
theorem dX4_linesAhead_26 : decode cX4_linesAhead 26 = .ok (.iload_n 2, 1) := by decide +kernel
theorem dX4_linesAhead_27 : decode cX4_linesAhead 27 = .ok (.if_icmp .lt 22, 3) := by decide +kernel
theorem dX4_linesAhead_30 : decode cX4_linesAhead 30 = .ok (.aload_n 0, 1) := by decide +kernel
theorem dX4_linesAhead_31 : decode cX4_linesAhead 31 = .ok (.getfield 34, 3) := by decide +kernel
theorem dX4_linesAhead_34 : decode cX4_linesAhead 34 = .ok (.iload 4, 2) := by decide +kernel
theorem dX4_linesAhead_36 : decode cX4_linesAhead 36 = .ok (.iaload, 1) := by decide +kernel
theorem dX4_linesAhead_37 : decode cX4_linesAhead 37 = .ok (.aload_n 0, 1) := by decide +kernel
theorem dX4_linesAhead_38 : decode cX4_linesAhead 38 = .ok (.getfield 34, 3) := by decide +kernel
theorem dX4_linesAhead_41 : decode cX4_linesAhead 41 = .ok (.iload_n 1, 1) := by decide +kernel
theorem dX4_linesAhead_42 : decode cX4_linesAhead 42 = .ok (.iaload, 1) := by decide +kernel
theorem dX4_linesAhead_43 : decode cX4_linesAhead 43 = .ok (.if_icmp .ge 6, 3) := by decide +kernel
theorem dX4_linesAhead_46 : decode cX4_linesAhead 46 = .ok (.iinc 3 1, 3) := by decide +kernel
theorem dX4_linesAhead_49 : decode cX4_linesAhead 49 = .ok (.iinc 4 1, 3) := by decide +kernel
theorem dX4_linesAhead_52 : decode cX4_linesAhead 52 = .ok (.goto (-47), 3) := by decide +kernel
theorem dX4_linesAhead_55 : decode cX4_linesAhead 55 = .ok (.iload_n 3, 1) := by decide +kernel
theorem dX4_linesAhead_56 : decode cX4_linesAhead 56 = .ok (.ireturn, 1) := by decide +kernel
set_option maxRecDepth 20000 in
theorem ggX4_numberOf_X4_setOf : GoodIn wsX4_numberOf wsX4_setOf := goodIn_r _ [5, 6, 14, 15, 16, 17, 18, 19, 20, 21, 22, 23, 24, 25, 26, 27, 28, 29, 30] (by decide +kernel) (by decide +kernel)
set_option maxRecDepth 20000 in
theorem gX4_numberOf_X4_setOf : GoodIn wsX4_numberOf (wsV RX4 154 RX4 yX4_setOf wsX4_setOf) := goodIn_app (goodIn_of _ (by decide +kernel)) ggX4_numberOf_X4_setOf
set_option maxRecDepth 20000 in
theorem ggX4_numberOf_J6_bitCount_0f7a4 : GoodIn wsX4_numberOf wsJ6_bitCount_0f7a4 := goodIn_r _ [10, 11, 12, 13] (by decide +kernel) (by decide +kernel)
set_option maxRecDepth 20000 in
theorem gX4_numberOf_J6_bitCount_0f7a4 : GoodIn wsX4_numberOf (va_wsS RX4 157 yJ6_bitCount_0f7a4 wsJ6_bitCount_0f7a4) := goodIn_app (goodIn_of _ (by decide +kernel)) ggX4_numberOf_J6_bitCount_0f7a4
theorem dX4_numberOf_0 : decode cX4_numberOf 0 = .ok (.aload_n 0, 1) := by decide +kernel
theorem dX4_numberOf_1 : decode cX4_numberOf 1 = .ok (.iload_n 1, 1) := by decide +kernel
theorem dX4_numberOf_2 : decode cX4_numberOf 2 = .ok (.invokevirtual 154, 3) := by decide +kernel
theorem dX4_numberOf_5 : decode cX4_numberOf 5 = .ok (.invokestatic 157, 3) := by decide +kernel
theorem dX4_numberOf_8 : decode cX4_numberOf 8 = .ok (.ireturn, 1) := by decide +kernel
theorem dX4_setOf_0 : decode cX4_setOf 0 = .ok (.iconst 0, 1) := by decide +kernel
theorem dX4_setOf_1 : decode cX4_setOf 1 = .ok (.istore_n 2, 1) := by decide +kernel
theorem dX4_setOf_2 : decode cX4_setOf 2 = .ok (.iconst 0, 1) := by decide +kernel
theorem dX4_setOf_3 : decode cX4_setOf 3 = .ok (.istore_n 3, 1) := by decide +kernel
theorem dX4_setOf_4 : decode cX4_setOf 4 = .ok (.iload_n 3, 1) := by decide +kernel
theorem dX4_setOf_5 : decode cX4_setOf 5 = .ok (.bipush 8, 2) := by decide +kernel
theorem dX4_setOf_7 : decode cX4_setOf 7 = .ok (.if_icmp .ge 25, 3) := by decide +kernel
theorem dX4_setOf_10 : decode cX4_setOf 10 = .ok (.aload_n 0, 1) := by decide +kernel
theorem dX4_setOf_11 : decode cX4_setOf 11 = .ok (.getfield 25, 3) := by decide +kernel
theorem dX4_setOf_14 : decode cX4_setOf 14 = .ok (.iload_n 3, 1) := by decide +kernel
theorem dX4_setOf_15 : decode cX4_setOf 15 = .ok (.iaload, 1) := by decide +kernel
theorem dX4_setOf_16 : decode cX4_setOf 16 = .ok (.iload_n 1, 1) := by decide +kernel
theorem dX4_setOf_17 : decode cX4_setOf 17 = .ok (.if_icmp .ne 9, 3) := by decide +kernel
theorem dX4_setOf_20 : decode cX4_setOf 20 = .ok (.iload_n 2, 1) := by decide +kernel
theorem dX4_setOf_21 : decode cX4_setOf 21 = .ok (.iconst 1, 1) := by decide +kernel
theorem dX4_setOf_22 : decode cX4_setOf 22 = .ok (.iload_n 3, 1) := by decide +kernel
theorem dX4_setOf_23 : decode cX4_setOf 23 = .ok (.ishl, 1) := by decide +kernel
theorem dX4_setOf_24 : decode cX4_setOf 24 = .ok (.ior, 1) := by decide +kernel
theorem dX4_setOf_25 : decode cX4_setOf 25 = .ok (.istore_n 2, 1) := by decide +kernel
theorem dX4_setOf_26 : decode cX4_setOf 26 = .ok (.iinc 3 1, 3) := by decide +kernel
theorem dX4_setOf_29 : decode cX4_setOf 29 = .ok (.goto (-25), 3) := by decide +kernel
theorem dX4_setOf_32 : decode cX4_setOf 32 = .ok (.iload_n 2, 1) := by decide +kernel
theorem dX4_setOf_33 : decode cX4_setOf 33 = .ok (.ireturn, 1) := by decide +kernel
set_option maxRecDepth 20000 in
theorem ggX4_nearestPair_X4_distanceToDirty : GoodIn wsX4_nearestPair wsX4_distanceToDirty := goodIn_r _ [7, 1, 8, 9, 10, 11, 12, 13, 14, 15, 16, 17, 18, 19, 20, 21, 22, 23, 24, 25, 26, 27, 28, 29, 30, 31, 32, 33, 34, 35] (by decide +kernel) (by decide +kernel)
set_option maxRecDepth 20000 in
theorem gX4_nearestPair_X4_distanceToDirty : GoodIn wsX4_nearestPair (wsV RX4 162 RX4 yX4_distanceToDirty wsX4_distanceToDirty) := goodIn_app (goodIn_of _ (by decide +kernel)) ggX4_nearestPair_X4_distanceToDirty
set_option maxRecDepth 20000 in
theorem ggX4_nearestPair_X6_isLine : GoodIn wsX4_nearestPair wsX6_isLine := goodIn_r _ [18] (by decide +kernel) (by decide +kernel)
set_option maxRecDepth 20000 in
theorem gX4_nearestPair_X6_isLine_n80 : GoodIn wsX4_nearestPair (wsX6_isLine) := ggX4_nearestPair_X6_isLine
theorem dX4_nearestPair_0 : decode cX4_nearestPair 0 = .ok (.iconst (-1), 1) := by decide +kernel
theorem dX4_nearestPair_1 : decode cX4_nearestPair 1 = .ok (.istore_n 1, 1) := by decide +kernel
theorem dX4_nearestPair_2 : decode cX4_nearestPair 2 = .ok (.bipush 64, 2) := by decide +kernel
theorem dX4_nearestPair_4 : decode cX4_nearestPair 4 = .ok (.istore_n 2, 1) := by decide +kernel
theorem dX4_nearestPair_5 : decode cX4_nearestPair 5 = .ok (.iconst 0, 1) := by decide +kernel
theorem dX4_nearestPair_6 : decode cX4_nearestPair 6 = .ok (.istore_n 3, 1) := by decide +kernel
theorem dX4_nearestPair_7 : decode cX4_nearestPair 7 = .ok (.iload_n 3, 1) := by decide +kernel
theorem dX4_nearestPair_8 : decode cX4_nearestPair 8 = .ok (.bipush 8, 2) := by decide +kernel
theorem dX4_nearestPair_10 : decode cX4_nearestPair 10 = .ok (.if_icmp .ge 82, 3) := by decide +kernel
theorem dX4_nearestPair_13 : decode cX4_nearestPair 13 = .ok (.aload_n 0, 1) := by decide +kernel
theorem dX4_nearestPair_14 : decode cX4_nearestPair 14 = .ok (.getfield 25, 3) := by decide +kernel
theorem dX4_nearestPair_17 : decode cX4_nearestPair 17 = .ok (.iload_n 3, 1) := by decide +kernel
theorem dX4_nearestPair_18 : decode cX4_nearestPair 18 = .ok (.iaload, 1) := by decide +kernel
theorem dX4_nearestPair_19 : decode cX4_nearestPair 19 = .ok (.iconst 2, 1) := by decide +kernel
theorem dX4_nearestPair_20 : decode cX4_nearestPair 20 = .ok (.if_icmp .ne 11, 3) := by decide +kernel
theorem dX4_nearestPair_23 : decode cX4_nearestPair 23 = .ok (.aload_n 0, 1) := by decide +kernel
theorem dX4_nearestPair_24 : decode cX4_nearestPair 24 = .ok (.iload_n 3, 1) := by decide +kernel
theorem dX4_nearestPair_25 : decode cX4_nearestPair 25 = .ok (.invokevirtual 162, 3) := by decide +kernel
theorem dX4_nearestPair_28 : decode cX4_nearestPair 28 = .ok (.goto 5, 3) := by decide +kernel
theorem dX4_nearestPair_31 : decode cX4_nearestPair 31 = .ok (.bipush 64, 2) := by decide +kernel
theorem dX4_nearestPair_33 : decode cX4_nearestPair 33 = .ok (.istore 4, 2) := by decide +kernel
theorem dX4_nearestPair_35 : decode cX4_nearestPair 35 = .ok (.iload 4, 2) := by decide +kernel
theorem dX4_nearestPair_37 : decode cX4_nearestPair 37 = .ok (.iload_n 2, 1) := by decide +kernel
theorem dX4_nearestPair_38 : decode cX4_nearestPair 38 = .ok (.if_icmp .ne 29, 3) := by decide +kernel
theorem dX4_nearestPair_41 : decode cX4_nearestPair 41 = .ok (.iload_n 1, 1) := by decide +kernel
theorem dX4_nearestPair_42 : decode cX4_nearestPair 42 = .ok (.invokestatic 80, 3) := by decide +kernel
theorem dX4_nearestPair_45 : decode cX4_nearestPair 45 = .ok (.ifCond .eq 22, 3) := by decide +kernel
theorem dX4_nearestPair_48 : decode cX4_nearestPair 48 = .ok (.aload_n 0, 1) := by decide +kernel
theorem dX4_nearestPair_49 : decode cX4_nearestPair 49 = .ok (.getfield 34, 3) := by decide +kernel
theorem dX4_nearestPair_52 : decode cX4_nearestPair 52 = .ok (.iload_n 3, 1) := by decide +kernel
theorem dX4_nearestPair_53 : decode cX4_nearestPair 53 = .ok (.iaload, 1) := by decide +kernel
theorem dX4_nearestPair_54 : decode cX4_nearestPair 54 = .ok (.aload_n 0, 1) := by decide +kernel
theorem dX4_nearestPair_55 : decode cX4_nearestPair 55 = .ok (.getfield 34, 3) := by decide +kernel
theorem dX4_nearestPair_58 : decode cX4_nearestPair 58 = .ok (.iload_n 1, 1) := by decide +kernel
theorem dX4_nearestPair_59 : decode cX4_nearestPair 59 = .ok (.iaload, 1) := by decide +kernel
theorem dX4_nearestPair_60 : decode cX4_nearestPair 60 = .ok (.if_icmp .ge 7, 3) := by decide +kernel
theorem dX4_nearestPair_63 : decode cX4_nearestPair 63 = .ok (.iconst 1, 1) := by decide +kernel
theorem dX4_nearestPair_64 : decode cX4_nearestPair 64 = .ok (.goto 4, 3) := by decide +kernel
theorem dX4_nearestPair_67 : decode cX4_nearestPair 67 = .ok (.iconst 0, 1) := by decide +kernel
theorem dX4_nearestPair_68 : decode cX4_nearestPair 68 = .ok (.istore 5, 2) := by decide +kernel
theorem dX4_nearestPair_70 : decode cX4_nearestPair 70 = .ok (.iload 4, 2) := by decide +kernel
theorem dX4_nearestPair_72 : decode cX4_nearestPair 72 = .ok (.iload_n 2, 1) := by decide +kernel
theorem dX4_nearestPair_73 : decode cX4_nearestPair 73 = .ok (.if_icmp .lt 8, 3) := by decide +kernel
theorem dX4_nearestPair_76 : decode cX4_nearestPair 76 = .ok (.iload 5, 2) := by decide +kernel
theorem dX4_nearestPair_78 : decode cX4_nearestPair 78 = .ok (.ifCond .eq 8, 3) := by decide +kernel
theorem dX4_nearestPair_81 : decode cX4_nearestPair 81 = .ok (.iload_n 3, 1) := by decide +kernel
theorem dX4_nearestPair_82 : decode cX4_nearestPair 82 = .ok (.istore_n 1, 1) := by decide +kernel
theorem dX4_nearestPair_83 : decode cX4_nearestPair 83 = .ok (.iload 4, 2) := by decide +kernel
theorem dX4_nearestPair_85 : decode cX4_nearestPair 85 = .ok (.istore_n 2, 1) := by decide +kernel
theorem dX4_nearestPair_86 : decode cX4_nearestPair 86 = .ok (.iinc 3 1, 3) := by decide +kernel
theorem dX4_nearestPair_89 : decode cX4_nearestPair 89 = .ok (.goto (-82), 3) := by decide +kernel
theorem dX4_nearestPair_92 : decode cX4_nearestPair 92 = .ok (.iload_n 1, 1) := by decide +kernel
theorem dX4_nearestPair_93 : decode cX4_nearestPair 93 = .ok (.ireturn, 1) := by decide +kernel
set_option maxRecDepth 20000 in
theorem ggX4_distanceToDirty_X6_isLine : GoodIn wsX4_distanceToDirty wsX6_isLine := goodIn_r _ [12] (by decide +kernel) (by decide +kernel)
set_option maxRecDepth 20000 in
theorem gX4_distanceToDirty_X6_isLine_n80 : GoodIn wsX4_distanceToDirty (wsX6_isLine) := ggX4_distanceToDirty_X6_isLine
theorem dX4_distanceToDirty_0 : decode cX4_distanceToDirty 0 = .ok (.bipush 64, 2) := by decide +kernel
theorem dX4_distanceToDirty_2 : decode cX4_distanceToDirty 2 = .ok (.istore_n 2, 1) := by decide +kernel
theorem dX4_distanceToDirty_3 : decode cX4_distanceToDirty 3 = .ok (.iconst 0, 1) := by decide +kernel
theorem dX4_distanceToDirty_4 : decode cX4_distanceToDirty 4 = .ok (.istore_n 3, 1) := by decide +kernel
theorem dX4_distanceToDirty_5 : decode cX4_distanceToDirty 5 = .ok (.iload_n 1, 1) := by decide +kernel
theorem dX4_distanceToDirty_6 : decode cX4_distanceToDirty 6 = .ok (.invokestatic 80, 3) := by decide +kernel
theorem dX4_distanceToDirty_9 : decode cX4_distanceToDirty 9 = .ok (.ifCond .eq 51, 3) := by decide +kernel
theorem dX4_distanceToDirty_12 : decode cX4_distanceToDirty 12 = .ok (.iload_n 3, 1) := by decide +kernel
theorem dX4_distanceToDirty_13 : decode cX4_distanceToDirty 13 = .ok (.bipush 8, 2) := by decide +kernel
theorem dX4_distanceToDirty_15 : decode cX4_distanceToDirty 15 = .ok (.if_icmp .ge 45, 3) := by decide +kernel
theorem dX4_distanceToDirty_18 : decode cX4_distanceToDirty 18 = .ok (.iload_n 3, 1) := by decide +kernel
theorem dX4_distanceToDirty_19 : decode cX4_distanceToDirty 19 = .ok (.iload_n 1, 1) := by decide +kernel
theorem dX4_distanceToDirty_20 : decode cX4_distanceToDirty 20 = .ok (.if_icmp .eq 34, 3) := by decide +kernel
theorem dX4_distanceToDirty_23 : decode cX4_distanceToDirty 23 = .ok (.aload_n 0, 1) := by decide +kernel
theorem dX4_distanceToDirty_24 : decode cX4_distanceToDirty 24 = .ok (.getfield 25, 3) := by decide +kernel
theorem dX4_distanceToDirty_27 : decode cX4_distanceToDirty 27 = .ok (.iload_n 3, 1) := by decide +kernel
theorem dX4_distanceToDirty_28 : decode cX4_distanceToDirty 28 = .ok (.iaload, 1) := by decide +kernel
theorem dX4_distanceToDirty_29 : decode cX4_distanceToDirty 29 = .ok (.iconst 2, 1) := by decide +kernel
theorem dX4_distanceToDirty_30 : decode cX4_distanceToDirty 30 = .ok (.if_icmp .ne 24, 3) := by decide +kernel
theorem dX4_distanceToDirty_33 : decode cX4_distanceToDirty 33 = .ok (.iload_n 2, 1) := by decide +kernel
theorem dX4_distanceToDirty_34 : decode cX4_distanceToDirty 34 = .ok (.aload_n 0, 1) := by decide +kernel
theorem dX4_distanceToDirty_35 : decode cX4_distanceToDirty 35 = .ok (.getfield 28, 3) := by decide +kernel
theorem dX4_distanceToDirty_38 : decode cX4_distanceToDirty 38 = .ok (.iload_n 3, 1) := by decide +kernel
theorem dX4_distanceToDirty_39 : decode cX4_distanceToDirty 39 = .ok (.iaload, 1) := by decide +kernel
theorem dX4_distanceToDirty_40 : decode cX4_distanceToDirty 40 = .ok (.aload_n 0, 1) := by decide +kernel
theorem dX4_distanceToDirty_41 : decode cX4_distanceToDirty 41 = .ok (.getfield 28, 3) := by decide +kernel
theorem dX4_distanceToDirty_44 : decode cX4_distanceToDirty 44 = .ok (.iload_n 1, 1) := by decide +kernel
theorem dX4_distanceToDirty_45 : decode cX4_distanceToDirty 45 = .ok (.iaload, 1) := by decide +kernel
theorem dX4_distanceToDirty_46 : decode cX4_distanceToDirty 46 = .ok (.isub, 1) := by decide +kernel
theorem dX4_distanceToDirty_47 : decode cX4_distanceToDirty 47 = .ok (.invokestatic 165, 3) := by decide +kernel
theorem dX4_distanceToDirty_50 : decode cX4_distanceToDirty 50 = .ok (.invokestatic 148, 3) := by decide +kernel
theorem dX4_distanceToDirty_53 : decode cX4_distanceToDirty 53 = .ok (.istore_n 2, 1) := by decide +kernel
theorem dX4_distanceToDirty_54 : decode cX4_distanceToDirty 54 = .ok (.iinc 3 1, 3) := by decide +kernel
theorem dX4_distanceToDirty_57 : decode cX4_distanceToDirty 57 = .ok (.goto (-52), 3) := by decide +kernel
theorem dX4_distanceToDirty_60 : decode cX4_distanceToDirty 60 = .ok (.iload_n 2, 1) := by decide +kernel
theorem dX4_distanceToDirty_61 : decode cX4_distanceToDirty 61 = .ok (.ireturn, 1) := by decide +kernel
theorem dX5_init_0 : decode cX5_init 0 = .ok (.aload_n 0, 1) := by decide +kernel
theorem dX5_init_1 : decode cX5_init 1 = .ok (.invokespecial 3, 3) := by decide +kernel
theorem dX5_init_4 : decode cX5_init 4 = .ok (.aload_n 0, 1) := by decide +kernel
theorem dX5_init_5 : decode cX5_init 5 = .ok (.bipush 60, 2) := by decide +kernel
theorem dX5_init_7 : decode cX5_init 7 = .ok (.newarray .int, 2) := by decide +kernel
theorem dX5_init_9 : decode cX5_init 9 = .ok (.putfield 9, 3) := by decide +kernel
theorem dX5_init_12 : decode cX5_init 12 = .ok (.aload_n 0, 1) := by decide +kernel
theorem dX5_init_13 : decode cX5_init 13 = .ok (.iconst 0, 1) := by decide +kernel
theorem dX5_init_14 : decode cX5_init 14 = .ok (.putfield 15, 3) := by decide +kernel
theorem dX5_init_17 : decode cX5_init 17 = .ok (.return_, 1) := by decide +kernel
set_option maxRecDepth 20000 in
theorem ggX5_append_X6_isWithin : GoodIn wsX5_append wsX6_isWithin := goodIn_r _ [5] (by decide +kernel) (by decide +kernel)
set_option maxRecDepth 20000 in
theorem gX5_append_X6_isWithin_n19 : GoodIn wsX5_append (wsX6_isWithin) := ggX5_append_X6_isWithin
theorem dX5_append_0 : decode cX5_append 0 = .ok (.aload_n 0, 1) := by decide +kernel
theorem dX5_append_1 : decode cX5_append 1 = .ok (.getfield 15, 3) := by decide +kernel
theorem dX5_append_4 : decode cX5_append 4 = .ok (.iconst 0, 1) := by decide +kernel
theorem dX5_append_5 : decode cX5_append 5 = .ok (.bipush 59, 2) := by decide +kernel
theorem dX5_append_7 : decode cX5_append 7 = .ok (.invokestatic 19, 3) := by decide +kernel
theorem dX5_append_10 : decode cX5_append 10 = .ok (.ifCond .eq 23, 3) := by decide +kernel
theorem dX5_append_13 : decode cX5_append 13 = .ok (.aload_n 0, 1) := by decide +kernel
theorem dX5_append_14 : decode cX5_append 14 = .ok (.getfield 9, 3) := by decide +kernel
theorem dX5_append_17 : decode cX5_append 17 = .ok (.aload_n 0, 1) := by decide +kernel
theorem dX5_append_18 : decode cX5_append 18 = .ok (.getfield 15, 3) := by decide +kernel
theorem dX5_append_21 : decode cX5_append 21 = .ok (.iload_n 1, 1) := by decide +kernel
theorem dX5_append_22 : decode cX5_append 22 = .ok (.iastore, 1) := by decide +kernel
theorem dX5_append_23 : decode cX5_append 23 = .ok (.aload_n 0, 1) := by decide +kernel
theorem dX5_append_24 : decode cX5_append 24 = .ok (.dup, 1) := by decide +kernel
theorem dX5_append_25 : decode cX5_append 25 = .ok (.getfield 15, 3) := by decide +kernel
theorem dX5_append_28 : decode cX5_append 28 = .ok (.iconst 1, 1) := by decide +kernel
theorem dX5_append_29 : decode cX5_append 29 = .ok (.iadd, 1) := by decide +kernel
theorem dX5_append_30 : decode cX5_append 30 = .ok (.putfield 15, 3) := by decide +kernel
theorem dX5_append_33 : decode cX5_append 33 = .ok (.return_, 1) := by decide +kernel
theorem dX5_at_0 : decode cX5_at 0 = .ok (.iload_n 1, 1) := by decide +kernel
theorem dX5_at_1 : decode cX5_at 1 = .ok (.ifCond .lt 21, 3) := by decide +kernel
theorem dX5_at_4 : decode cX5_at 4 = .ok (.iload_n 1, 1) := by decide +kernel
theorem dX5_at_5 : decode cX5_at 5 = .ok (.aload_n 0, 1) := by decide +kernel
theorem dX5_at_6 : decode cX5_at 6 = .ok (.getfield 15, 3) := by decide +kernel
theorem dX5_at_9 : decode cX5_at 9 = .ok (.if_icmp .ge 13, 3) := by decide +kernel
theorem dX5_at_12 : decode cX5_at 12 = .ok (.iload_n 1, 1) := by decide +kernel
theorem dX5_at_13 : decode cX5_at 13 = .ok (.bipush 60, 2) := by decide +kernel
theorem dX5_at_15 : decode cX5_at 15 = .ok (.if_icmp .ge 7, 3) := by decide +kernel
theorem dX5_at_18 : decode cX5_at 18 = .ok (.iconst 1, 1) := by decide +kernel
theorem dX5_at_19 : decode cX5_at 19 = .ok (.goto 4, 3) := by decide +kernel
theorem dX5_at_22 : decode cX5_at 22 = .ok (.iconst 0, 1) := by decide +kernel
theorem dX5_at_23 : decode cX5_at 23 = .ok (.istore_n 2, 1) := by decide +kernel
theorem dX5_at_24 : decode cX5_at 24 = .ok (.iload_n 2, 1) := by decide +kernel
theorem dX5_at_25 : decode cX5_at 25 = .ok (.ifCond .eq 12, 3) := by decide +kernel
theorem dX5_at_28 : decode cX5_at 28 = .ok (.aload_n 0, 1) := by decide +kernel
theorem dX5_at_29 : decode cX5_at 29 = .ok (.getfield 9, 3) := by decide +kernel
theorem dX5_at_32 : decode cX5_at 32 = .ok (.iload_n 1, 1) := by decide +kernel
theorem dX5_at_33 : decode cX5_at 33 = .ok (.iaload, 1) := by decide +kernel
theorem dX5_at_34 : decode cX5_at 34 = .ok (.goto 4, 3) := by decide +kernel
theorem dX5_at_37 : decode cX5_at 37 = .ok (.iconst (-1), 1) := by decide +kernel
theorem dX5_at_38 : decode cX5_at 38 = .ok (.ireturn, 1) := by decide +kernel

abbrev vwCl : List vw_C := [(RX0, TX0, 7), (RX1, TX1, 2), (RX2, TX2, 7), (RX3, TX3, 3), (RX4, TX4, 17), (RX5, TX5, 2), (RX6, TX6, 5), (RX7, TX7, 14)]
